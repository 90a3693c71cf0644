/-- what an act leaves: its number, the table then, what it answered -/
def CE (k : Nat) (z : Ad) (D : va_G) (sn : Nat) (T T' : Nat → Int32) : Heap → Prop := match k with
  | 0 => OU z D (pn sn) T T'
  | _ + 1 => OS z D sn T
def OE (k : Nat) (x : Int32) : Int32 → Prop := fun g' => k = 0 → g' = x
set_option maxHeartbeats 4000000 in
set_option maxRecDepth 100000 in
theorem K_brew_ok (l : Launch) (hl9 : l.stackTraces = false) (D : va_G) (st : Nat → Nat) (z : Ad) (oa : Nat) (hoa : ¬ AX z oa) (hDX : va_D (fun _ => True) (wX z 0 0 0 f00 f00 f00 (fun _ => f00) 0 (0, 0, 0, 0) (fun _ => 0))) (g : Int32) (sn : Nat) (hsn : sn ≤ 6) (T : Nat → Int32) (B : Nat) (hI : Inv B T) (n : Nat) (hk : n < 3) (b : Int32) (h1q : q_in (nI 1) (nI 200) b = true) (ht : T (75 + n) + b ≤ nI 200) : k_H l yL_changes wsL_changes { frames := 8, cells := 1, slots := 6, locals := 139 } [.ref (z.o), .int (nI 0), .int (nI n), .int b, .ref oa] st D z oa (OS z D sn T) g (nI 0) (CE 0 z D sn T (g_brew T n b)) (OE 0 (g_brew T n b (75 + n))) := by
  refine k_goH (cc := cL_changes) (maxL := 6) (hh := [(0, 76, 79, 30), (0, 76, 83, 32), (0, 76, 87, 34)]) (lv0 := [(0, .ref (z.o)), (1, .int (nI 0)), (2, .int (nI n)), (3, .int b), (4, .ref oa)]) (by decide) rfl (Nat.le_of_ble_eq_true rfl) rfl ?_
  intro p e s m args below meth c Q ls hx hb hml hts hown hC hO hK hT hl htab hret
  obtain ⟨ol, S, Y, G, P, ch, hol, hP⟩ := hC
  have hD := q_D2 (ws' := wX z ol sn 0 T S Y G 0 P ch) hDX rfl
  have hS : va_S (AXo z oa) s.heap s.heap [] := va_S.rf
  refine lv_aload hx hb dL_changes_0 (lv_at hl 4 rfl) ?_
  refine lv_iconst (v := nI 0) hx hb dL_changes_2 (by decide) ?_
  refine lv_iload_n hx hb dL_changes_3 rfl (lv_at hl 1 rfl) ?_
  refine lv_if_ne (tgt := 16) hx hb dL_changes_4 (by decide) (fun c1 => absurd c1 (by decide)) (fun c1 => ?_)
  refine lv_aload_n hx hb dL_changes_7 rfl (lv_at hl 0 rfl) ?_
  refine lv_iload_n hx hb dL_changes_8 rfl (lv_at hl 2 rfl) ?_
  refine lv_iload_n hx hb dL_changes_9 rfl (lv_at hl 3 rfl) ?_
  refine q_ciK (BH := fun H => va_P D vwCl (wX z (so ol sn) (svn sn) 0 (g_brew T n b) S Y (updG G (sr ol sn) T) 0 P ch) H) (va_runV (rm := { frames := 3, cells := 0, slots := 0, locals := 101 }) (As := [.int (nI n), .int b]) (rest := [.int (nI 0), .ref oa]) ⟨hx, hb, hml, hown, hts⟩ (m2_brew_ok l D z ol sn 0 hol hsn T S Y G 0 P ch B hI n hk b h1q ht hD) (cwV 2 hts gL_changes_X2_brew rfl rfl rfl (by decide +kernel) ⟨Nat.le_of_ble_eq_true rfl, Nat.le_of_ble_eq_true rfl⟩) (q_pV (ci := 2) (q0 := 0) hP hK rfl rfl) rfl rfl hl.1 rfl (lv_room (Nat.le_of_ble_eq_true rfl)) dL_changes_10 ⟨Nat.le_of_ble_eq_true rfl, Nat.le_of_ble_eq_true rfl⟩) (fun t h => h) hS (fun q h => Or.inl h) (fun x H locs ex hP hk hS => ?_)
  have hO := wI_kept hO hoa hk
  have ex : x = g_brew T n b (75 + n) := ex
  refine lv_goto (tgt := 75) hx hb dL_changes_13 (by decide) ?_
  refine k_st0 hx hb hK hO hS 0 rfl (Or.inr rfl) dL_changes_75 (fun H locs hO hk hS => ?_)
  have hP := hP.keptA wX_in (fun q h (e : q = oa) => hoa (e ▸ h)) hk
  refine lv_goto (tgt := 91) hx hb dL_changes_76 (by decide) ?_
  refine lv_iconst (v := nI 0) hx hb dL_changes_91 (by decide) ?_
  refine W.widen (k := 1) (n := 6) (Nat.le_of_ble_eq_true rfl) (Nat.le_of_ble_eq_true rfl) ?_
  exact hret _ _ _ _ _ (OU.of hol hsn hP) (fun _ => ex) hO hS dL_changes_92
set_option maxHeartbeats 4000000 in
set_option maxRecDepth 100000 in
theorem K_brew_1 (l : Launch) (hl9 : l.stackTraces = false) (D : va_G) (st : Nat → Nat) (z : Ad) (oa : Nat) (hoa : ¬ AX z oa) (hDX : va_D (fun _ => True) (wX z 0 0 0 f00 f00 f00 (fun _ => f00) 0 (0, 0, 0, 0) (fun _ => 0))) (g : Int32) (sn : Nat) (hsn : sn ≤ 6) (T : Nat → Int32) (B : Nat) (hI : Inv B T) (a b : Int32) (h0q : q_in (nI 0) (nI 2) a = false) : k_H l yL_changes wsL_changes { frames := 8, cells := 1, slots := 6, locals := 139 } [.ref (z.o), .int (nI 0), .int a, .int b, .ref oa] st D z oa (OS z D sn T) g (nI 1) (CE 1 z D sn T T) (OE 1 0) := by
  refine k_goH (cc := cL_changes) (maxL := 6) (hh := [(0, 76, 79, 30), (0, 76, 83, 32), (0, 76, 87, 34)]) (lv0 := [(0, .ref (z.o)), (1, .int (nI 0)), (2, .int a), (3, .int b), (4, .ref oa)]) (by decide) rfl (Nat.le_of_ble_eq_true rfl) rfl ?_
  intro p e s m args below meth c Q ls hx hb hml hts hown hC hO hK hT hl htab hret
  obtain ⟨ol, S, Y, G, P, ch, hol, hP⟩ := hC
  have hD := q_D2 (ws' := wX z ol sn 0 T S Y G 0 P ch) hDX rfl
  have hS : va_S (AXo z oa) s.heap s.heap [] := va_S.rf
  refine lv_aload hx hb dL_changes_0 (lv_at hl 4 rfl) ?_
  refine lv_iconst (v := nI 0) hx hb dL_changes_2 (by decide) ?_
  refine lv_iload_n hx hb dL_changes_3 rfl (lv_at hl 1 rfl) ?_
  refine lv_if_ne (tgt := 16) hx hb dL_changes_4 (by decide) (fun c1 => absurd c1 (by decide)) (fun c1 => ?_)
  refine lv_aload_n hx hb dL_changes_7 rfl (lv_at hl 0 rfl) ?_
  refine lv_iload_n hx hb dL_changes_8 rfl (lv_at hl 2 rfl) ?_
  refine lv_iload_n hx hb dL_changes_9 rfl (lv_at hl 3 rfl) ?_
  refine q_ctch (E := xI.cls) (own := RL) (name := xI.cls) (hh := [(0, 76, 79, 30), (0, 76, 83, 32), (0, 76, 87, 34)]) (vx_runV (rm := { frames := 7, cells := 1, slots := 6, locals := 102 }) (As := [.int a, .int b]) (rest := [.int (nI 0), .ref oa]) ⟨hx, hb, hml, hown, hts⟩ (m2_brew_1 l hl9 D st z ol sn 0 T S Y G 0 P ch B hI a b h0q) (cwV 2 hts gL_changes_X2_brew rfl rfl rfl (by decide +kernel) ⟨Nat.le_of_ble_eq_true rfl, Nat.le_of_ble_eq_true rfl⟩) (q_pVX (ci := 2) (q0 := 0) hP hK hT.1 hS (fun q h => Or.inl h) rfl rfl) rfl rfl hl.1 rfl (lv_room (Nat.le_of_ble_eq_true rfl)) dL_changes_10 ⟨Nat.le_of_ble_eq_true rfl, Nat.le_of_ble_eq_true rfl⟩) hS (fun q h => h.elim) hown htab (tableOf []) ⟨0, 76, 79, 30⟩ (tableOf [(0, 76, 83, 32), (0, 76, 87, 34)]) rfl (fun _ h => nomatch h) rfl (by decide) (hts (.classLink RL 30 xI.cls) (by decide +kernel)) (va_Nw.use rfl hT.1.c1) (fun q H locs hP hk hS => ?_)
  have hO := wI_kept hO (fun h => h) hk
  refine lv_astore (lv' := [(5, .ref q), (0, .ref (z.o)), (1, .int (nI 0)), (2, .int a), (3, .int b), (4, .ref oa)]) hx hb dL_changes_79 hl (by decide) rfl (fun ls hl => ?_)
  refine lv_iconst (v := nI 1) hx hb dL_changes_81 (by decide) ?_
  exact hret _ _ _ _ _ (show OS z D sn T _ from ⟨ol, S, Y, G, P, ch, hol, hP⟩) (fun h => nomatch h) hO hS dL_changes_82
set_option maxHeartbeats 4000000 in
set_option maxRecDepth 100000 in
theorem K_brew_2 (l : Launch) (hl9 : l.stackTraces = false) (D : va_G) (st : Nat → Nat) (z : Ad) (oa : Nat) (hoa : ¬ AX z oa) (hDX : va_D (fun _ => True) (wX z 0 0 0 f00 f00 f00 (fun _ => f00) 0 (0, 0, 0, 0) (fun _ => 0))) (g : Int32) (sn : Nat) (hsn : sn ≤ 6) (T : Nat → Int32) (B : Nat) (hI : Inv B T) (n : Nat) (hk : n < 3) (b : Int32) (h1q : q_in (nI 1) (nI 200) b = false) : k_H l yL_changes wsL_changes { frames := 8, cells := 1, slots := 6, locals := 139 } [.ref (z.o), .int (nI 0), .int (nI n), .int b, .ref oa] st D z oa (OS z D sn T) g (nI 2) (CE 2 z D sn T T) (OE 2 0) := by
  refine k_goH (cc := cL_changes) (maxL := 6) (hh := [(0, 76, 79, 30), (0, 76, 83, 32), (0, 76, 87, 34)]) (lv0 := [(0, .ref (z.o)), (1, .int (nI 0)), (2, .int (nI n)), (3, .int b), (4, .ref oa)]) (by decide) rfl (Nat.le_of_ble_eq_true rfl) rfl ?_
  intro p e s m args below meth c Q ls hx hb hml hts hown hC hO hK hT hl htab hret
  obtain ⟨ol, S, Y, G, P, ch, hol, hP⟩ := hC
  have hD := q_D2 (ws' := wX z ol sn 0 T S Y G 0 P ch) hDX rfl
  have hS : va_S (AXo z oa) s.heap s.heap [] := va_S.rf
  refine lv_aload hx hb dL_changes_0 (lv_at hl 4 rfl) ?_
  refine lv_iconst (v := nI 0) hx hb dL_changes_2 (by decide) ?_
  refine lv_iload_n hx hb dL_changes_3 rfl (lv_at hl 1 rfl) ?_
  refine lv_if_ne (tgt := 16) hx hb dL_changes_4 (by decide) (fun c1 => absurd c1 (by decide)) (fun c1 => ?_)
  refine lv_aload_n hx hb dL_changes_7 rfl (lv_at hl 0 rfl) ?_
  refine lv_iload_n hx hb dL_changes_8 rfl (lv_at hl 2 rfl) ?_
  refine lv_iload_n hx hb dL_changes_9 rfl (lv_at hl 3 rfl) ?_
  refine q_ctch (E := xA.cls) (own := RL) (name := xA.cls) (hh := [(0, 76, 79, 30), (0, 76, 83, 32), (0, 76, 87, 34)]) (vx_runV (rm := { frames := 7, cells := 1, slots := 6, locals := 104 }) (As := [.int (nI n), .int b]) (rest := [.int (nI 0), .ref oa]) ⟨hx, hb, hml, hown, hts⟩ (m2_brew_2 l hl9 D st z ol sn 0 T S Y G 0 P ch B hI n hk b h1q) (cwV 2 hts gL_changes_X2_brew rfl rfl rfl (by decide +kernel) ⟨Nat.le_of_ble_eq_true rfl, Nat.le_of_ble_eq_true rfl⟩) (q_pVX (ci := 2) (q0 := 0) hP hK hT.1 hS (fun q h => Or.inl h) rfl rfl) rfl rfl hl.1 rfl (lv_room (Nat.le_of_ble_eq_true rfl)) dL_changes_10 ⟨Nat.le_of_ble_eq_true rfl, Nat.le_of_ble_eq_true rfl⟩) hS (fun q h => h.elim) hown htab (tableOf [(0, 76, 79, 30)]) ⟨0, 76, 83, 32⟩ (tableOf [(0, 76, 87, 34)]) rfl (fun zz hz => by rw [List.mem_singleton.mp hz]; exact Or.inr ⟨by decide, xI.cls, hts _ (by decide +kernel), hT.2.1⟩) rfl (by decide) (hts (.classLink RL 32 xA.cls) (by decide +kernel)) (va_Nw.use rfl hT.1.c2) (fun q H locs hP hk hS => ?_)
  have hO := wI_kept hO (fun h => h) hk
  refine lv_astore (lv' := [(5, .ref q), (0, .ref (z.o)), (1, .int (nI 0)), (2, .int (nI n)), (3, .int b), (4, .ref oa)]) hx hb dL_changes_83 hl (by decide) rfl (fun ls hl => ?_)
  refine lv_iconst (v := nI 2) hx hb dL_changes_85 (by decide) ?_
  exact hret _ _ _ _ _ (show OS z D sn T _ from ⟨ol, S, Y, G, P, ch, hol, hP⟩) (fun h => nomatch h) hO hS dL_changes_86
set_option maxHeartbeats 4000000 in
set_option maxRecDepth 100000 in
theorem K_brew_3 (l : Launch) (hl9 : l.stackTraces = false) (D : va_G) (st : Nat → Nat) (z : Ad) (oa : Nat) (hoa : ¬ AX z oa) (hDX : va_D (fun _ => True) (wX z 0 0 0 f00 f00 f00 (fun _ => f00) 0 (0, 0, 0, 0) (fun _ => 0))) (g : Int32) (sn : Nat) (hsn : sn ≤ 6) (T : Nat → Int32) (B : Nat) (hI : Inv B T) (n : Nat) (hk : n < 3) (b : Int32) (h1q : q_in (nI 1) (nI 200) b = true) (ht : ¬ T (75 + n) + b ≤ nI 200) : k_H l yL_changes wsL_changes { frames := 8, cells := 1, slots := 6, locals := 139 } [.ref (z.o), .int (nI 0), .int (nI n), .int b, .ref oa] st D z oa (OS z D sn T) g (nI 3) (CE 3 z D sn T T) (OE 3 0) := by
  refine k_goH (cc := cL_changes) (maxL := 6) (hh := [(0, 76, 79, 30), (0, 76, 83, 32), (0, 76, 87, 34)]) (lv0 := [(0, .ref (z.o)), (1, .int (nI 0)), (2, .int (nI n)), (3, .int b), (4, .ref oa)]) (by decide) rfl (Nat.le_of_ble_eq_true rfl) rfl ?_
  intro p e s m args below meth c Q ls hx hb hml hts hown hC hO hK hT hl htab hret
  obtain ⟨ol, S, Y, G, P, ch, hol, hP⟩ := hC
  have hD := q_D2 (ws' := wX z ol sn 0 T S Y G 0 P ch) hDX rfl
  have hS : va_S (AXo z oa) s.heap s.heap [] := va_S.rf
  refine lv_aload hx hb dL_changes_0 (lv_at hl 4 rfl) ?_
  refine lv_iconst (v := nI 0) hx hb dL_changes_2 (by decide) ?_
  refine lv_iload_n hx hb dL_changes_3 rfl (lv_at hl 1 rfl) ?_
  refine lv_if_ne (tgt := 16) hx hb dL_changes_4 (by decide) (fun c1 => absurd c1 (by decide)) (fun c1 => ?_)
  refine lv_aload_n hx hb dL_changes_7 rfl (lv_at hl 0 rfl) ?_
  refine lv_iload_n hx hb dL_changes_8 rfl (lv_at hl 2 rfl) ?_
  refine lv_iload_n hx hb dL_changes_9 rfl (lv_at hl 3 rfl) ?_
  refine q_ctch (E := xS.cls) (own := RL) (name := xS.cls) (hh := [(0, 76, 79, 30), (0, 76, 83, 32), (0, 76, 87, 34)]) (vx_runV (rm := { frames := 6, cells := 1, slots := 6, locals := 82 }) (As := [.int (nI n), .int b]) (rest := [.int (nI 0), .ref oa]) ⟨hx, hb, hml, hown, hts⟩ (m2_brew_3 l hl9 D st z ol sn 0 T S Y G 0 P ch B hI n hk b h1q ht) (cwV 2 hts gL_changes_X2_brew rfl rfl rfl (by decide +kernel) ⟨Nat.le_of_ble_eq_true rfl, Nat.le_of_ble_eq_true rfl⟩) (q_pVX (ci := 2) (q0 := 0) hP hK hT.1 hS (fun q h => Or.inl h) rfl rfl) rfl rfl hl.1 rfl (lv_room (Nat.le_of_ble_eq_true rfl)) dL_changes_10 ⟨Nat.le_of_ble_eq_true rfl, Nat.le_of_ble_eq_true rfl⟩) hS (fun q h => h.elim) hown htab (tableOf [(0, 76, 79, 30), (0, 76, 83, 32)]) ⟨0, 76, 87, 34⟩ (tableOf []) rfl (fun zz hz => (List.mem_cons.mp hz).elim (fun e => by rw [e]; exact Or.inr ⟨by decide, xI.cls, hts _ (by decide +kernel), hT.2.2.1⟩) (fun hz => by rw [List.mem_singleton.mp hz]; exact Or.inr ⟨by decide, xA.cls, hts _ (by decide +kernel), hT.2.2.2⟩)) rfl (by decide) (hts (.classLink RL 34 xS.cls) (by decide +kernel)) (va_Nw.use rfl hT.1.c3) (fun q H locs hP hk hS => ?_)
  have hO := wI_kept hO (fun h => h) hk
  refine lv_astore (lv' := [(5, .ref q), (0, .ref (z.o)), (1, .int (nI 0)), (2, .int (nI n)), (3, .int b), (4, .ref oa)]) hx hb dL_changes_87 hl (by decide) rfl (fun ls hl => ?_)
  refine lv_iconst (v := nI 3) hx hb dL_changes_89 (by decide) ?_
  exact hret _ _ _ _ _ (show OS z D sn T _ from ⟨ol, S, Y, G, P, ch, hol, hP⟩) (fun h => nomatch h) hO hS dL_changes_90
set_option maxHeartbeats 4000000 in
set_option maxRecDepth 100000 in
theorem K_pour_ok (l : Launch) (hl9 : l.stackTraces = false) (D : va_G) (st : Nat → Nat) (z : Ad) (oa : Nat) (hoa : ¬ AX z oa) (hDX : va_D (fun _ => True) (wX z 0 0 0 f00 f00 f00 (fun _ => f00) 0 (0, 0, 0, 0) (fun _ => 0))) (g : Int32) (sn : Nat) (hsn : sn ≤ 6) (T : Nat → Int32) (B : Nat) (hI : Inv B T) (n : Nat) (hk : n < 3) (b : Int32) (hw : g_wy T n = 0) : k_H l yL_changes wsL_changes { frames := 8, cells := 1, slots := 6, locals := 139 } [.ref (z.o), .int (nI 1), .int (nI n), .int b, .ref oa] st D z oa (OS z D sn T) g (nI 0) (CE 0 z D sn T (g_pour T n)) (OE 0 (g_ov T n)) := by
  refine k_goH (cc := cL_changes) (maxL := 6) (hh := [(0, 76, 79, 30), (0, 76, 83, 32), (0, 76, 87, 34)]) (lv0 := [(0, .ref (z.o)), (1, .int (nI 1)), (2, .int (nI n)), (3, .int b), (4, .ref oa)]) (by decide) rfl (Nat.le_of_ble_eq_true rfl) rfl ?_
  intro p e s m args below meth c Q ls hx hb hml hts hown hC hO hK hT hl htab hret
  obtain ⟨ol, S, Y, G, P, ch, hol, hP⟩ := hC
  have hD := q_D2 (ws' := wX z ol sn 0 T S Y G 0 P ch) hDX rfl
  have hS : va_S (AXo z oa) s.heap s.heap [] := va_S.rf
  refine lv_aload hx hb dL_changes_0 (lv_at hl 4 rfl) ?_
  refine lv_iconst (v := nI 0) hx hb dL_changes_2 (by decide) ?_
  refine lv_iload_n hx hb dL_changes_3 rfl (lv_at hl 1 rfl) ?_
  refine lv_if_ne (tgt := 16) hx hb dL_changes_4 (by decide) (fun c1 => ?_) (fun c1 => absurd c1 (by decide))
  refine lv_iload_n hx hb dL_changes_16 rfl (lv_at hl 1 rfl) ?_
  refine lv_iconst (v := nI 1) hx hb dL_changes_17 (by decide) ?_
  refine q_neN (tgt := 29) hx hb (by omega) (by omega) dL_changes_18 (by decide) (fun c2 => absurd c2 (by decide)) (fun c2 => ?_)
  refine lv_aload_n hx hb dL_changes_21 rfl (lv_at hl 0 rfl) ?_
  refine lv_iload_n hx hb dL_changes_22 rfl (lv_at hl 2 rfl) ?_
  refine q_ciK (BH := fun H => va_P D vwCl (wX z (so ol sn) (svn sn) 0 (g_pour T n) S Y (updG G (sr ol sn) T) 0 P ch) H) (va_runV (rm := { frames := 4, cells := 0, slots := 0, locals := 101 }) (As := [.int (nI n)]) (rest := [.int (nI 0), .ref oa]) ⟨hx, hb, hml, hown, hts⟩ (m2_pour_ok l D z ol sn 0 hol hsn T S Y G 0 P ch B hI n hk hw hD) (cwV 1 hts gL_changes_X2_pour rfl rfl rfl (by decide +kernel) ⟨Nat.le_of_ble_eq_true rfl, Nat.le_of_ble_eq_true rfl⟩) (q_pV (ci := 2) (q0 := 0) hP hK rfl rfl) rfl rfl hl.1 rfl (lv_room (Nat.le_of_ble_eq_true rfl)) dL_changes_23 ⟨Nat.le_of_ble_eq_true rfl, Nat.le_of_ble_eq_true rfl⟩) (fun t h => h) hS (fun q h => Or.inl h) (fun x H locs ex hP hk hS => ?_)
  have hO := wI_kept hO hoa hk
  have ex : x = g_ov T n := ex
  refine lv_goto (tgt := 75) hx hb dL_changes_26 (by decide) ?_
  refine k_st0 hx hb hK hO hS 0 rfl (Or.inr rfl) dL_changes_75 (fun H locs hO hk hS => ?_)
  have hP := hP.keptA wX_in (fun q h (e : q = oa) => hoa (e ▸ h)) hk
  refine lv_goto (tgt := 91) hx hb dL_changes_76 (by decide) ?_
  refine lv_iconst (v := nI 0) hx hb dL_changes_91 (by decide) ?_
  refine W.widen (k := 1) (n := 6) (Nat.le_of_ble_eq_true rfl) (Nat.le_of_ble_eq_true rfl) ?_
  exact hret _ _ _ _ _ (OU.of hol hsn hP) (fun _ => ex) hO hS dL_changes_92
set_option maxHeartbeats 4000000 in
set_option maxRecDepth 100000 in
theorem K_pour_1 (l : Launch) (hl9 : l.stackTraces = false) (D : va_G) (st : Nat → Nat) (z : Ad) (oa : Nat) (hoa : ¬ AX z oa) (hDX : va_D (fun _ => True) (wX z 0 0 0 f00 f00 f00 (fun _ => f00) 0 (0, 0, 0, 0) (fun _ => 0))) (g : Int32) (sn : Nat) (hsn : sn ≤ 6) (T : Nat → Int32) (B : Nat) (hI : Inv B T) (a b : Int32) (h0q : q_in (nI 0) (nI 2) a = false) : k_H l yL_changes wsL_changes { frames := 8, cells := 1, slots := 6, locals := 139 } [.ref (z.o), .int (nI 1), .int a, .int b, .ref oa] st D z oa (OS z D sn T) g (nI 1) (CE 1 z D sn T T) (OE 1 0) := by
  refine k_goH (cc := cL_changes) (maxL := 6) (hh := [(0, 76, 79, 30), (0, 76, 83, 32), (0, 76, 87, 34)]) (lv0 := [(0, .ref (z.o)), (1, .int (nI 1)), (2, .int a), (3, .int b), (4, .ref oa)]) (by decide) rfl (Nat.le_of_ble_eq_true rfl) rfl ?_
  intro p e s m args below meth c Q ls hx hb hml hts hown hC hO hK hT hl htab hret
  obtain ⟨ol, S, Y, G, P, ch, hol, hP⟩ := hC
  have hD := q_D2 (ws' := wX z ol sn 0 T S Y G 0 P ch) hDX rfl
  have hS : va_S (AXo z oa) s.heap s.heap [] := va_S.rf
  refine lv_aload hx hb dL_changes_0 (lv_at hl 4 rfl) ?_
  refine lv_iconst (v := nI 0) hx hb dL_changes_2 (by decide) ?_
  refine lv_iload_n hx hb dL_changes_3 rfl (lv_at hl 1 rfl) ?_
  refine lv_if_ne (tgt := 16) hx hb dL_changes_4 (by decide) (fun c1 => ?_) (fun c1 => absurd c1 (by decide))
  refine lv_iload_n hx hb dL_changes_16 rfl (lv_at hl 1 rfl) ?_
  refine lv_iconst (v := nI 1) hx hb dL_changes_17 (by decide) ?_
  refine q_neN (tgt := 29) hx hb (by omega) (by omega) dL_changes_18 (by decide) (fun c2 => absurd c2 (by decide)) (fun c2 => ?_)
  refine lv_aload_n hx hb dL_changes_21 rfl (lv_at hl 0 rfl) ?_
  refine lv_iload_n hx hb dL_changes_22 rfl (lv_at hl 2 rfl) ?_
  refine q_ctch (E := xI.cls) (own := RL) (name := xI.cls) (hh := [(0, 76, 79, 30), (0, 76, 83, 32), (0, 76, 87, 34)]) (vx_runV (rm := { frames := 7, cells := 1, slots := 6, locals := 102 }) (As := [.int a]) (rest := [.int (nI 0), .ref oa]) ⟨hx, hb, hml, hown, hts⟩ (m2_pour_1 l hl9 D st z ol sn 0 T S Y G 0 P ch B hI a h0q) (cwV 1 hts gL_changes_X2_pour rfl rfl rfl (by decide +kernel) ⟨Nat.le_of_ble_eq_true rfl, Nat.le_of_ble_eq_true rfl⟩) (q_pVX (ci := 2) (q0 := 0) hP hK hT.1 hS (fun q h => Or.inl h) rfl rfl) rfl rfl hl.1 rfl (lv_room (Nat.le_of_ble_eq_true rfl)) dL_changes_23 ⟨Nat.le_of_ble_eq_true rfl, Nat.le_of_ble_eq_true rfl⟩) hS (fun q h => h.elim) hown htab (tableOf []) ⟨0, 76, 79, 30⟩ (tableOf [(0, 76, 83, 32), (0, 76, 87, 34)]) rfl (fun _ h => nomatch h) rfl (by decide) (hts (.classLink RL 30 xI.cls) (by decide +kernel)) (va_Nw.use rfl hT.1.c1) (fun q H locs hP hk hS => ?_)
  have hO := wI_kept hO (fun h => h) hk
  refine lv_astore (lv' := [(5, .ref q), (0, .ref (z.o)), (1, .int (nI 1)), (2, .int a), (3, .int b), (4, .ref oa)]) hx hb dL_changes_79 hl (by decide) rfl (fun ls hl => ?_)
  refine lv_iconst (v := nI 1) hx hb dL_changes_81 (by decide) ?_
  exact hret _ _ _ _ _ (show OS z D sn T _ from ⟨ol, S, Y, G, P, ch, hol, hP⟩) (fun h => nomatch h) hO hS dL_changes_82
set_option maxHeartbeats 4000000 in
set_option maxRecDepth 100000 in
theorem K_pour_3 (l : Launch) (hl9 : l.stackTraces = false) (D : va_G) (st : Nat → Nat) (z : Ad) (oa : Nat) (hoa : ¬ AX z oa) (hDX : va_D (fun _ => True) (wX z 0 0 0 f00 f00 f00 (fun _ => f00) 0 (0, 0, 0, 0) (fun _ => 0))) (g : Int32) (sn : Nat) (hsn : sn ≤ 6) (T : Nat → Int32) (B : Nat) (hI : Inv B T) (n : Nat) (hk : n < 3) (b : Int32) (hw : ¬ g_wy T n = 0) : k_H l yL_changes wsL_changes { frames := 8, cells := 1, slots := 6, locals := 139 } [.ref (z.o), .int (nI 1), .int (nI n), .int b, .ref oa] st D z oa (OS z D sn T) g (nI 3) (CE 3 z D sn T T) (OE 3 0) := by
  refine k_goH (cc := cL_changes) (maxL := 6) (hh := [(0, 76, 79, 30), (0, 76, 83, 32), (0, 76, 87, 34)]) (lv0 := [(0, .ref (z.o)), (1, .int (nI 1)), (2, .int (nI n)), (3, .int b), (4, .ref oa)]) (by decide) rfl (Nat.le_of_ble_eq_true rfl) rfl ?_
  intro p e s m args below meth c Q ls hx hb hml hts hown hC hO hK hT hl htab hret
  obtain ⟨ol, S, Y, G, P, ch, hol, hP⟩ := hC
  have hD := q_D2 (ws' := wX z ol sn 0 T S Y G 0 P ch) hDX rfl
  have hS : va_S (AXo z oa) s.heap s.heap [] := va_S.rf
  refine lv_aload hx hb dL_changes_0 (lv_at hl 4 rfl) ?_
  refine lv_iconst (v := nI 0) hx hb dL_changes_2 (by decide) ?_
  refine lv_iload_n hx hb dL_changes_3 rfl (lv_at hl 1 rfl) ?_
  refine lv_if_ne (tgt := 16) hx hb dL_changes_4 (by decide) (fun c1 => ?_) (fun c1 => absurd c1 (by decide))
  refine lv_iload_n hx hb dL_changes_16 rfl (lv_at hl 1 rfl) ?_
  refine lv_iconst (v := nI 1) hx hb dL_changes_17 (by decide) ?_
  refine q_neN (tgt := 29) hx hb (by omega) (by omega) dL_changes_18 (by decide) (fun c2 => absurd c2 (by decide)) (fun c2 => ?_)
  refine lv_aload_n hx hb dL_changes_21 rfl (lv_at hl 0 rfl) ?_
  refine lv_iload_n hx hb dL_changes_22 rfl (lv_at hl 2 rfl) ?_
  refine q_ctch (E := xS.cls) (own := RL) (name := xS.cls) (hh := [(0, 76, 79, 30), (0, 76, 83, 32), (0, 76, 87, 34)]) (vx_runV (rm := { frames := 6, cells := 1, slots := 6, locals := 82 }) (As := [.int (nI n)]) (rest := [.int (nI 0), .ref oa]) ⟨hx, hb, hml, hown, hts⟩ (m2_pour_2 l hl9 D st z ol sn 0 T S Y G 0 P ch B hI n hk hw) (cwV 1 hts gL_changes_X2_pour rfl rfl rfl (by decide +kernel) ⟨Nat.le_of_ble_eq_true rfl, Nat.le_of_ble_eq_true rfl⟩) (q_pVX (ci := 2) (q0 := 0) hP hK hT.1 hS (fun q h => Or.inl h) rfl rfl) rfl rfl hl.1 rfl (lv_room (Nat.le_of_ble_eq_true rfl)) dL_changes_23 ⟨Nat.le_of_ble_eq_true rfl, Nat.le_of_ble_eq_true rfl⟩) hS (fun q h => h.elim) hown htab (tableOf [(0, 76, 79, 30), (0, 76, 83, 32)]) ⟨0, 76, 87, 34⟩ (tableOf []) rfl (fun zz hz => (List.mem_cons.mp hz).elim (fun e => by rw [e]; exact Or.inr ⟨by decide, xI.cls, hts _ (by decide +kernel), hT.2.2.1⟩) (fun hz => by rw [List.mem_singleton.mp hz]; exact Or.inr ⟨by decide, xA.cls, hts _ (by decide +kernel), hT.2.2.2⟩)) rfl (by decide) (hts (.classLink RL 34 xS.cls) (by decide +kernel)) (va_Nw.use rfl hT.1.c3) (fun q H locs hP hk hS => ?_)
  have hO := wI_kept hO (fun h => h) hk
  refine lv_astore (lv' := [(5, .ref q), (0, .ref (z.o)), (1, .int (nI 1)), (2, .int (nI n)), (3, .int b), (4, .ref oa)]) hx hb dL_changes_87 hl (by decide) rfl (fun ls hl => ?_)
  refine lv_iconst (v := nI 3) hx hb dL_changes_89 (by decide) ?_
  exact hret _ _ _ _ _ (show OS z D sn T _ from ⟨ol, S, Y, G, P, ch, hol, hP⟩) (fun h => nomatch h) hO hS dL_changes_90
set_option maxHeartbeats 4000000 in
set_option maxRecDepth 100000 in
theorem K_hand_ok1 (l : Launch) (hl9 : l.stackTraces = false) (D : va_G) (st : Nat → Nat) (z : Ad) (oa : Nat) (hoa : ¬ AX z oa) (hDX : va_D (fun _ => True) (wX z 0 0 0 f00 f00 f00 (fun _ => f00) 0 (0, 0, 0, 0) (fun _ => 0))) (g : Int32) (sn : Nat) (hsn : sn ≤ 6) (T : Nat → Int32) (B : Nat) (hI : Inv B T) (n : Nat) (hk : n < 3) : k_H l yL_changes wsL_changes { frames := 8, cells := 1, slots := 6, locals := 139 } [.ref (z.o), .int (nI 2), .int (nI n), .int (nI 1), .ref oa] st D z oa (OS z D sn T) g (nI 0) (CE 0 z D sn T (g_hand T n 1)) (OE 0 (nI ((hN T n + 1) % 8))) := by
  refine k_goH (cc := cL_changes) (maxL := 6) (hh := [(0, 76, 79, 30), (0, 76, 83, 32), (0, 76, 87, 34)]) (lv0 := [(0, .ref (z.o)), (1, .int (nI 2)), (2, .int (nI n)), (3, .int (nI 1)), (4, .ref oa)]) (by decide) rfl (Nat.le_of_ble_eq_true rfl) rfl ?_
  intro p e s m args below meth c Q ls hx hb hml hts hown hC hO hK hT hl htab hret
  obtain ⟨ol, S, Y, G, P, ch, hol, hP⟩ := hC
  have hD := q_D2 (ws' := wX z ol sn 0 T S Y G 0 P ch) hDX rfl
  have hS : va_S (AXo z oa) s.heap s.heap [] := va_S.rf
  refine lv_aload hx hb dL_changes_0 (lv_at hl 4 rfl) ?_
  refine lv_iconst (v := nI 0) hx hb dL_changes_2 (by decide) ?_
  refine lv_iload_n hx hb dL_changes_3 rfl (lv_at hl 1 rfl) ?_
  refine lv_if_ne (tgt := 16) hx hb dL_changes_4 (by decide) (fun c1 => ?_) (fun c1 => absurd c1 (by decide))
  refine lv_iload_n hx hb dL_changes_16 rfl (lv_at hl 1 rfl) ?_
  refine lv_iconst (v := nI 1) hx hb dL_changes_17 (by decide) ?_
  refine q_neN (tgt := 29) hx hb (by omega) (by omega) dL_changes_18 (by decide) (fun c2 => ?_) (fun c2 => absurd c2 (by decide))
  refine lv_iload_n hx hb dL_changes_29 rfl (lv_at hl 1 rfl) ?_
  refine lv_iconst (v := nI 2) hx hb dL_changes_30 (by decide) ?_
  refine q_neN (tgt := 43) hx hb (by omega) (by omega) dL_changes_31 (by decide) (fun c3 => absurd c3 (by decide)) (fun c3 => ?_)
  refine lv_aload_n hx hb dL_changes_34 rfl (lv_at hl 0 rfl) ?_
  refine lv_iload_n hx hb dL_changes_35 rfl (lv_at hl 2 rfl) ?_
  refine lv_iload_n hx hb dL_changes_36 rfl (lv_at hl 3 rfl) ?_
  refine q_ciK (BH := fun H => va_P D vwCl (wX z (so ol sn) (svn sn) 0 (g_hand T n 1) S Y (updG G (sr ol sn) T) 0 P ch) H) (va_runV (rm := { frames := 3, cells := 0, slots := 0, locals := 101 }) (As := [.int (nI n), .int (nI 1)]) (rest := [.int (nI 0), .ref oa]) ⟨hx, hb, hml, hown, hts⟩ (m2_hand_ok1 l D z ol sn 0 hol hsn T S Y G 0 P ch B hI n hk hD) (cwV 2 hts gL_changes_X2_hand rfl rfl rfl (by decide +kernel) ⟨Nat.le_of_ble_eq_true rfl, Nat.le_of_ble_eq_true rfl⟩) (q_pV (ci := 2) (q0 := 0) hP hK rfl rfl) rfl rfl hl.1 rfl (lv_room (Nat.le_of_ble_eq_true rfl)) dL_changes_37 ⟨Nat.le_of_ble_eq_true rfl, Nat.le_of_ble_eq_true rfl⟩) (fun t h => h) hS (fun q h => Or.inl h) (fun x H locs ex hP hk hS => ?_)
  have hO := wI_kept hO hoa hk
  have ex : x = nI ((hN T n + 1) % 8) := ex
  refine lv_goto (tgt := 75) hx hb dL_changes_40 (by decide) ?_
  refine k_st0 hx hb hK hO hS 0 rfl (Or.inr rfl) dL_changes_75 (fun H locs hO hk hS => ?_)
  have hP := hP.keptA wX_in (fun q h (e : q = oa) => hoa (e ▸ h)) hk
  refine lv_goto (tgt := 91) hx hb dL_changes_76 (by decide) ?_
  refine lv_iconst (v := nI 0) hx hb dL_changes_91 (by decide) ?_
  refine W.widen (k := 1) (n := 6) (Nat.le_of_ble_eq_true rfl) (Nat.le_of_ble_eq_true rfl) ?_
  exact hret _ _ _ _ _ (OU.of hol hsn hP) (fun _ => ex) hO hS dL_changes_92
set_option maxHeartbeats 4000000 in
set_option maxRecDepth 100000 in
theorem K_hand_ok0 (l : Launch) (hl9 : l.stackTraces = false) (D : va_G) (st : Nat → Nat) (z : Ad) (oa : Nat) (hoa : ¬ AX z oa) (hDX : va_D (fun _ => True) (wX z 0 0 0 f00 f00 f00 (fun _ => f00) 0 (0, 0, 0, 0) (fun _ => 0))) (g : Int32) (sn : Nat) (hsn : sn ≤ 6) (T : Nat → Int32) (B : Nat) (hI : Inv B T) (n : Nat) (hk : n < 3) : k_H l yL_changes wsL_changes { frames := 8, cells := 1, slots := 6, locals := 139 } [.ref (z.o), .int (nI 2), .int (nI n), .int (nI 0), .ref oa] st D z oa (OS z D sn T) g (nI 0) (CE 0 z D sn T (g_hand T n 7)) (OE 0 (nI ((hN T n + 7) % 8))) := by
  refine k_goH (cc := cL_changes) (maxL := 6) (hh := [(0, 76, 79, 30), (0, 76, 83, 32), (0, 76, 87, 34)]) (lv0 := [(0, .ref (z.o)), (1, .int (nI 2)), (2, .int (nI n)), (3, .int (nI 0)), (4, .ref oa)]) (by decide) rfl (Nat.le_of_ble_eq_true rfl) rfl ?_
  intro p e s m args below meth c Q ls hx hb hml hts hown hC hO hK hT hl htab hret
  obtain ⟨ol, S, Y, G, P, ch, hol, hP⟩ := hC
  have hD := q_D2 (ws' := wX z ol sn 0 T S Y G 0 P ch) hDX rfl
  have hS : va_S (AXo z oa) s.heap s.heap [] := va_S.rf
  refine lv_aload hx hb dL_changes_0 (lv_at hl 4 rfl) ?_
  refine lv_iconst (v := nI 0) hx hb dL_changes_2 (by decide) ?_
  refine lv_iload_n hx hb dL_changes_3 rfl (lv_at hl 1 rfl) ?_
  refine lv_if_ne (tgt := 16) hx hb dL_changes_4 (by decide) (fun c1 => ?_) (fun c1 => absurd c1 (by decide))
  refine lv_iload_n hx hb dL_changes_16 rfl (lv_at hl 1 rfl) ?_
  refine lv_iconst (v := nI 1) hx hb dL_changes_17 (by decide) ?_
  refine q_neN (tgt := 29) hx hb (by omega) (by omega) dL_changes_18 (by decide) (fun c2 => ?_) (fun c2 => absurd c2 (by decide))
  refine lv_iload_n hx hb dL_changes_29 rfl (lv_at hl 1 rfl) ?_
  refine lv_iconst (v := nI 2) hx hb dL_changes_30 (by decide) ?_
  refine q_neN (tgt := 43) hx hb (by omega) (by omega) dL_changes_31 (by decide) (fun c3 => absurd c3 (by decide)) (fun c3 => ?_)
  refine lv_aload_n hx hb dL_changes_34 rfl (lv_at hl 0 rfl) ?_
  refine lv_iload_n hx hb dL_changes_35 rfl (lv_at hl 2 rfl) ?_
  refine lv_iload_n hx hb dL_changes_36 rfl (lv_at hl 3 rfl) ?_
  refine q_ciK (BH := fun H => va_P D vwCl (wX z (so ol sn) (svn sn) 0 (g_hand T n 7) S Y (updG G (sr ol sn) T) 0 P ch) H) (va_runV (rm := { frames := 3, cells := 0, slots := 0, locals := 101 }) (As := [.int (nI n), .int (nI 0)]) (rest := [.int (nI 0), .ref oa]) ⟨hx, hb, hml, hown, hts⟩ (m2_hand_ok0 l D z ol sn 0 hol hsn T S Y G 0 P ch B hI n hk hD) (cwV 2 hts gL_changes_X2_hand rfl rfl rfl (by decide +kernel) ⟨Nat.le_of_ble_eq_true rfl, Nat.le_of_ble_eq_true rfl⟩) (q_pV (ci := 2) (q0 := 0) hP hK rfl rfl) rfl rfl hl.1 rfl (lv_room (Nat.le_of_ble_eq_true rfl)) dL_changes_37 ⟨Nat.le_of_ble_eq_true rfl, Nat.le_of_ble_eq_true rfl⟩) (fun t h => h) hS (fun q h => Or.inl h) (fun x H locs ex hP hk hS => ?_)
  have hO := wI_kept hO hoa hk
  have ex : x = nI ((hN T n + 7) % 8) := ex
  refine lv_goto (tgt := 75) hx hb dL_changes_40 (by decide) ?_
  refine k_st0 hx hb hK hO hS 0 rfl (Or.inr rfl) dL_changes_75 (fun H locs hO hk hS => ?_)
  have hP := hP.keptA wX_in (fun q h (e : q = oa) => hoa (e ▸ h)) hk
  refine lv_goto (tgt := 91) hx hb dL_changes_76 (by decide) ?_
  refine lv_iconst (v := nI 0) hx hb dL_changes_91 (by decide) ?_
  refine W.widen (k := 1) (n := 6) (Nat.le_of_ble_eq_true rfl) (Nat.le_of_ble_eq_true rfl) ?_
  exact hret _ _ _ _ _ (OU.of hol hsn hP) (fun _ => ex) hO hS dL_changes_92
set_option maxHeartbeats 4000000 in
set_option maxRecDepth 100000 in
theorem K_hand_1 (l : Launch) (hl9 : l.stackTraces = false) (D : va_G) (st : Nat → Nat) (z : Ad) (oa : Nat) (hoa : ¬ AX z oa) (hDX : va_D (fun _ => True) (wX z 0 0 0 f00 f00 f00 (fun _ => f00) 0 (0, 0, 0, 0) (fun _ => 0))) (g : Int32) (sn : Nat) (hsn : sn ≤ 6) (T : Nat → Int32) (B : Nat) (hI : Inv B T) (a b : Int32) (h0q : q_in (nI 0) (nI 2) a = false) : k_H l yL_changes wsL_changes { frames := 8, cells := 1, slots := 6, locals := 139 } [.ref (z.o), .int (nI 2), .int a, .int b, .ref oa] st D z oa (OS z D sn T) g (nI 1) (CE 1 z D sn T T) (OE 1 0) := by
  refine k_goH (cc := cL_changes) (maxL := 6) (hh := [(0, 76, 79, 30), (0, 76, 83, 32), (0, 76, 87, 34)]) (lv0 := [(0, .ref (z.o)), (1, .int (nI 2)), (2, .int a), (3, .int b), (4, .ref oa)]) (by decide) rfl (Nat.le_of_ble_eq_true rfl) rfl ?_
  intro p e s m args below meth c Q ls hx hb hml hts hown hC hO hK hT hl htab hret
  obtain ⟨ol, S, Y, G, P, ch, hol, hP⟩ := hC
  have hD := q_D2 (ws' := wX z ol sn 0 T S Y G 0 P ch) hDX rfl
  have hS : va_S (AXo z oa) s.heap s.heap [] := va_S.rf
  refine lv_aload hx hb dL_changes_0 (lv_at hl 4 rfl) ?_
  refine lv_iconst (v := nI 0) hx hb dL_changes_2 (by decide) ?_
  refine lv_iload_n hx hb dL_changes_3 rfl (lv_at hl 1 rfl) ?_
  refine lv_if_ne (tgt := 16) hx hb dL_changes_4 (by decide) (fun c1 => ?_) (fun c1 => absurd c1 (by decide))
  refine lv_iload_n hx hb dL_changes_16 rfl (lv_at hl 1 rfl) ?_
  refine lv_iconst (v := nI 1) hx hb dL_changes_17 (by decide) ?_
  refine q_neN (tgt := 29) hx hb (by omega) (by omega) dL_changes_18 (by decide) (fun c2 => ?_) (fun c2 => absurd c2 (by decide))
  refine lv_iload_n hx hb dL_changes_29 rfl (lv_at hl 1 rfl) ?_
  refine lv_iconst (v := nI 2) hx hb dL_changes_30 (by decide) ?_
  refine q_neN (tgt := 43) hx hb (by omega) (by omega) dL_changes_31 (by decide) (fun c3 => absurd c3 (by decide)) (fun c3 => ?_)
  refine lv_aload_n hx hb dL_changes_34 rfl (lv_at hl 0 rfl) ?_
  refine lv_iload_n hx hb dL_changes_35 rfl (lv_at hl 2 rfl) ?_
  refine lv_iload_n hx hb dL_changes_36 rfl (lv_at hl 3 rfl) ?_
  refine q_ctch (E := xI.cls) (own := RL) (name := xI.cls) (hh := [(0, 76, 79, 30), (0, 76, 83, 32), (0, 76, 87, 34)]) (vx_runV (rm := { frames := 7, cells := 1, slots := 6, locals := 102 }) (As := [.int a, .int b]) (rest := [.int (nI 0), .ref oa]) ⟨hx, hb, hml, hown, hts⟩ (m2_hand_1 l hl9 D st z ol sn 0 T S Y G 0 P ch B hI a b h0q) (cwV 2 hts gL_changes_X2_hand rfl rfl rfl (by decide +kernel) ⟨Nat.le_of_ble_eq_true rfl, Nat.le_of_ble_eq_true rfl⟩) (q_pVX (ci := 2) (q0 := 0) hP hK hT.1 hS (fun q h => Or.inl h) rfl rfl) rfl rfl hl.1 rfl (lv_room (Nat.le_of_ble_eq_true rfl)) dL_changes_37 ⟨Nat.le_of_ble_eq_true rfl, Nat.le_of_ble_eq_true rfl⟩) hS (fun q h => h.elim) hown htab (tableOf []) ⟨0, 76, 79, 30⟩ (tableOf [(0, 76, 83, 32), (0, 76, 87, 34)]) rfl (fun _ h => nomatch h) rfl (by decide) (hts (.classLink RL 30 xI.cls) (by decide +kernel)) (va_Nw.use rfl hT.1.c1) (fun q H locs hP hk hS => ?_)
  have hO := wI_kept hO (fun h => h) hk
  refine lv_astore (lv' := [(5, .ref q), (0, .ref (z.o)), (1, .int (nI 2)), (2, .int a), (3, .int b), (4, .ref oa)]) hx hb dL_changes_79 hl (by decide) rfl (fun ls hl => ?_)
  refine lv_iconst (v := nI 1) hx hb dL_changes_81 (by decide) ?_
  exact hret _ _ _ _ _ (show OS z D sn T _ from ⟨ol, S, Y, G, P, ch, hol, hP⟩) (fun h => nomatch h) hO hS dL_changes_82
set_option maxHeartbeats 4000000 in
set_option maxRecDepth 100000 in
theorem K_hand_2 (l : Launch) (hl9 : l.stackTraces = false) (D : va_G) (st : Nat → Nat) (z : Ad) (oa : Nat) (hoa : ¬ AX z oa) (hDX : va_D (fun _ => True) (wX z 0 0 0 f00 f00 f00 (fun _ => f00) 0 (0, 0, 0, 0) (fun _ => 0))) (g : Int32) (sn : Nat) (hsn : sn ≤ 6) (T : Nat → Int32) (B : Nat) (hI : Inv B T) (n : Nat) (hk : n < 3) (b : Int32) (h1q : q_in (nI 0) (nI 1) b = false) : k_H l yL_changes wsL_changes { frames := 8, cells := 1, slots := 6, locals := 139 } [.ref (z.o), .int (nI 2), .int (nI n), .int b, .ref oa] st D z oa (OS z D sn T) g (nI 2) (CE 2 z D sn T T) (OE 2 0) := by
  refine k_goH (cc := cL_changes) (maxL := 6) (hh := [(0, 76, 79, 30), (0, 76, 83, 32), (0, 76, 87, 34)]) (lv0 := [(0, .ref (z.o)), (1, .int (nI 2)), (2, .int (nI n)), (3, .int b), (4, .ref oa)]) (by decide) rfl (Nat.le_of_ble_eq_true rfl) rfl ?_
  intro p e s m args below meth c Q ls hx hb hml hts hown hC hO hK hT hl htab hret
  obtain ⟨ol, S, Y, G, P, ch, hol, hP⟩ := hC
  have hD := q_D2 (ws' := wX z ol sn 0 T S Y G 0 P ch) hDX rfl
  have hS : va_S (AXo z oa) s.heap s.heap [] := va_S.rf
  refine lv_aload hx hb dL_changes_0 (lv_at hl 4 rfl) ?_
  refine lv_iconst (v := nI 0) hx hb dL_changes_2 (by decide) ?_
  refine lv_iload_n hx hb dL_changes_3 rfl (lv_at hl 1 rfl) ?_
  refine lv_if_ne (tgt := 16) hx hb dL_changes_4 (by decide) (fun c1 => ?_) (fun c1 => absurd c1 (by decide))
  refine lv_iload_n hx hb dL_changes_16 rfl (lv_at hl 1 rfl) ?_
  refine lv_iconst (v := nI 1) hx hb dL_changes_17 (by decide) ?_
  refine q_neN (tgt := 29) hx hb (by omega) (by omega) dL_changes_18 (by decide) (fun c2 => ?_) (fun c2 => absurd c2 (by decide))
  refine lv_iload_n hx hb dL_changes_29 rfl (lv_at hl 1 rfl) ?_
  refine lv_iconst (v := nI 2) hx hb dL_changes_30 (by decide) ?_
  refine q_neN (tgt := 43) hx hb (by omega) (by omega) dL_changes_31 (by decide) (fun c3 => absurd c3 (by decide)) (fun c3 => ?_)
  refine lv_aload_n hx hb dL_changes_34 rfl (lv_at hl 0 rfl) ?_
  refine lv_iload_n hx hb dL_changes_35 rfl (lv_at hl 2 rfl) ?_
  refine lv_iload_n hx hb dL_changes_36 rfl (lv_at hl 3 rfl) ?_
  refine q_ctch (E := xA.cls) (own := RL) (name := xA.cls) (hh := [(0, 76, 79, 30), (0, 76, 83, 32), (0, 76, 87, 34)]) (vx_runV (rm := { frames := 7, cells := 1, slots := 6, locals := 104 }) (As := [.int (nI n), .int b]) (rest := [.int (nI 0), .ref oa]) ⟨hx, hb, hml, hown, hts⟩ (m2_hand_2 l hl9 D st z ol sn 0 T S Y G 0 P ch B hI n hk b h1q) (cwV 2 hts gL_changes_X2_hand rfl rfl rfl (by decide +kernel) ⟨Nat.le_of_ble_eq_true rfl, Nat.le_of_ble_eq_true rfl⟩) (q_pVX (ci := 2) (q0 := 0) hP hK hT.1 hS (fun q h => Or.inl h) rfl rfl) rfl rfl hl.1 rfl (lv_room (Nat.le_of_ble_eq_true rfl)) dL_changes_37 ⟨Nat.le_of_ble_eq_true rfl, Nat.le_of_ble_eq_true rfl⟩) hS (fun q h => h.elim) hown htab (tableOf [(0, 76, 79, 30)]) ⟨0, 76, 83, 32⟩ (tableOf [(0, 76, 87, 34)]) rfl (fun zz hz => by rw [List.mem_singleton.mp hz]; exact Or.inr ⟨by decide, xI.cls, hts _ (by decide +kernel), hT.2.1⟩) rfl (by decide) (hts (.classLink RL 32 xA.cls) (by decide +kernel)) (va_Nw.use rfl hT.1.c2) (fun q H locs hP hk hS => ?_)
  have hO := wI_kept hO (fun h => h) hk
  refine lv_astore (lv' := [(5, .ref q), (0, .ref (z.o)), (1, .int (nI 2)), (2, .int (nI n)), (3, .int b), (4, .ref oa)]) hx hb dL_changes_83 hl (by decide) rfl (fun ls hl => ?_)
  refine lv_iconst (v := nI 2) hx hb dL_changes_85 (by decide) ?_
  exact hret _ _ _ _ _ (show OS z D sn T _ from ⟨ol, S, Y, G, P, ch, hol, hP⟩) (fun h => nomatch h) hO hS dL_changes_86
set_option maxHeartbeats 4000000 in
set_option maxRecDepth 100000 in
theorem K_round_ok (l : Launch) (hl9 : l.stackTraces = false) (D : va_G) (st : Nat → Nat) (z : Ad) (oa : Nat) (hoa : ¬ AX z oa) (hDX : va_D (fun _ => True) (wX z 0 0 0 f00 f00 f00 (fun _ => f00) 0 (0, 0, 0, 0) (fun _ => 0))) (g : Int32) (sn : Nat) (hsn : sn ≤ 6) (T : Nat → Int32) (B : Nat) (hI : Inv B T) (n : Nat) (hk : n < 3) (b : Int32) (hB : B + 1600 < 2000000000) : k_H l yL_changes wsL_changes { frames := 8, cells := 1, slots := 6, locals := 139 } [.ref (z.o), .int (nI 3), .int (nI n), .int b, .ref oa] st D z oa (OS z D sn T) g (nI 0) (CE 0 z D sn T (g_rn 8 T n)) (OE 0 (nI (g_rc 8 T n))) := by
  refine k_goH (cc := cL_changes) (maxL := 6) (hh := [(0, 76, 79, 30), (0, 76, 83, 32), (0, 76, 87, 34)]) (lv0 := [(0, .ref (z.o)), (1, .int (nI 3)), (2, .int (nI n)), (3, .int b), (4, .ref oa)]) (by decide) rfl (Nat.le_of_ble_eq_true rfl) rfl ?_
  intro p e s m args below meth c Q ls hx hb hml hts hown hC hO hK hT hl htab hret
  obtain ⟨ol, S, Y, G, P, ch, hol, hP⟩ := hC
  have hD := q_D2 (ws' := wX z ol sn 0 T S Y G 0 P ch) hDX rfl
  have hS : va_S (AXo z oa) s.heap s.heap [] := va_S.rf
  refine lv_aload hx hb dL_changes_0 (lv_at hl 4 rfl) ?_
  refine lv_iconst (v := nI 0) hx hb dL_changes_2 (by decide) ?_
  refine lv_iload_n hx hb dL_changes_3 rfl (lv_at hl 1 rfl) ?_
  refine lv_if_ne (tgt := 16) hx hb dL_changes_4 (by decide) (fun c1 => ?_) (fun c1 => absurd c1 (by decide))
  refine lv_iload_n hx hb dL_changes_16 rfl (lv_at hl 1 rfl) ?_
  refine lv_iconst (v := nI 1) hx hb dL_changes_17 (by decide) ?_
  refine q_neN (tgt := 29) hx hb (by omega) (by omega) dL_changes_18 (by decide) (fun c2 => ?_) (fun c2 => absurd c2 (by decide))
  refine lv_iload_n hx hb dL_changes_29 rfl (lv_at hl 1 rfl) ?_
  refine lv_iconst (v := nI 2) hx hb dL_changes_30 (by decide) ?_
  refine q_neN (tgt := 43) hx hb (by omega) (by omega) dL_changes_31 (by decide) (fun c3 => ?_) (fun c3 => absurd c3 (by decide))
  refine lv_iload_n hx hb dL_changes_43 rfl (lv_at hl 1 rfl) ?_
  refine lv_iconst (v := nI 3) hx hb dL_changes_44 (by decide) ?_
  refine q_neN (tgt := 56) hx hb (by omega) (by omega) dL_changes_45 (by decide) (fun c4 => absurd c4 (by decide)) (fun c4 => ?_)
  refine lv_aload_n hx hb dL_changes_48 rfl (lv_at hl 0 rfl) ?_
  refine lv_iload_n hx hb dL_changes_49 rfl (lv_at hl 2 rfl) ?_
  refine q_ciK (BH := fun H => va_P D vwCl (wX z (so ol sn) (svn sn) 0 (g_rn 8 T n) S Y (updG G (sr ol sn) T) 0 P ch) H) (va_runV (rm := { frames := 5, cells := 0, slots := 0, locals := 118 }) (As := [.int (nI n)]) (rest := [.int (nI 0), .ref oa]) ⟨hx, hb, hml, hown, hts⟩ (m2_round_ok l D z ol sn 0 hol hsn T S Y G 0 P ch B hI n hk hB hD) (cwV 1 hts gL_changes_X2_round rfl rfl rfl (by decide +kernel) ⟨Nat.le_of_ble_eq_true rfl, Nat.le_of_ble_eq_true rfl⟩) (q_pV (ci := 2) (q0 := 0) hP hK rfl rfl) rfl rfl hl.1 rfl (lv_room (Nat.le_of_ble_eq_true rfl)) dL_changes_50 ⟨Nat.le_of_ble_eq_true rfl, Nat.le_of_ble_eq_true rfl⟩) (fun t h => h) hS (fun q h => Or.inl h) (fun x H locs ex hP hk hS => ?_)
  have hO := wI_kept hO hoa hk
  have ex : x = nI (g_rc 8 T n) := ex
  refine lv_goto (tgt := 75) hx hb dL_changes_53 (by decide) ?_
  refine k_st0 hx hb hK hO hS 0 rfl (Or.inr rfl) dL_changes_75 (fun H locs hO hk hS => ?_)
  have hP := hP.keptA wX_in (fun q h (e : q = oa) => hoa (e ▸ h)) hk
  refine lv_goto (tgt := 91) hx hb dL_changes_76 (by decide) ?_
  refine lv_iconst (v := nI 0) hx hb dL_changes_91 (by decide) ?_
  refine W.widen (k := 1) (n := 6) (Nat.le_of_ble_eq_true rfl) (Nat.le_of_ble_eq_true rfl) ?_
  exact hret _ _ _ _ _ (OU.of hol hsn hP) (fun _ => ex) hO hS dL_changes_92
set_option maxHeartbeats 4000000 in
set_option maxRecDepth 100000 in
theorem K_round_1 (l : Launch) (hl9 : l.stackTraces = false) (D : va_G) (st : Nat → Nat) (z : Ad) (oa : Nat) (hoa : ¬ AX z oa) (hDX : va_D (fun _ => True) (wX z 0 0 0 f00 f00 f00 (fun _ => f00) 0 (0, 0, 0, 0) (fun _ => 0))) (g : Int32) (sn : Nat) (hsn : sn ≤ 6) (T : Nat → Int32) (B : Nat) (hI : Inv B T) (a b : Int32) (h0q : q_in (nI 0) (nI 2) a = false) : k_H l yL_changes wsL_changes { frames := 8, cells := 1, slots := 6, locals := 139 } [.ref (z.o), .int (nI 3), .int a, .int b, .ref oa] st D z oa (OS z D sn T) g (nI 1) (CE 1 z D sn T T) (OE 1 0) := by
  refine k_goH (cc := cL_changes) (maxL := 6) (hh := [(0, 76, 79, 30), (0, 76, 83, 32), (0, 76, 87, 34)]) (lv0 := [(0, .ref (z.o)), (1, .int (nI 3)), (2, .int a), (3, .int b), (4, .ref oa)]) (by decide) rfl (Nat.le_of_ble_eq_true rfl) rfl ?_
  intro p e s m args below meth c Q ls hx hb hml hts hown hC hO hK hT hl htab hret
  obtain ⟨ol, S, Y, G, P, ch, hol, hP⟩ := hC
  have hD := q_D2 (ws' := wX z ol sn 0 T S Y G 0 P ch) hDX rfl
  have hS : va_S (AXo z oa) s.heap s.heap [] := va_S.rf
  refine lv_aload hx hb dL_changes_0 (lv_at hl 4 rfl) ?_
  refine lv_iconst (v := nI 0) hx hb dL_changes_2 (by decide) ?_
  refine lv_iload_n hx hb dL_changes_3 rfl (lv_at hl 1 rfl) ?_
  refine lv_if_ne (tgt := 16) hx hb dL_changes_4 (by decide) (fun c1 => ?_) (fun c1 => absurd c1 (by decide))
  refine lv_iload_n hx hb dL_changes_16 rfl (lv_at hl 1 rfl) ?_
  refine lv_iconst (v := nI 1) hx hb dL_changes_17 (by decide) ?_
  refine q_neN (tgt := 29) hx hb (by omega) (by omega) dL_changes_18 (by decide) (fun c2 => ?_) (fun c2 => absurd c2 (by decide))
  refine lv_iload_n hx hb dL_changes_29 rfl (lv_at hl 1 rfl) ?_
  refine lv_iconst (v := nI 2) hx hb dL_changes_30 (by decide) ?_
  refine q_neN (tgt := 43) hx hb (by omega) (by omega) dL_changes_31 (by decide) (fun c3 => ?_) (fun c3 => absurd c3 (by decide))
  refine lv_iload_n hx hb dL_changes_43 rfl (lv_at hl 1 rfl) ?_
  refine lv_iconst (v := nI 3) hx hb dL_changes_44 (by decide) ?_
  refine q_neN (tgt := 56) hx hb (by omega) (by omega) dL_changes_45 (by decide) (fun c4 => absurd c4 (by decide)) (fun c4 => ?_)
  refine lv_aload_n hx hb dL_changes_48 rfl (lv_at hl 0 rfl) ?_
  refine lv_iload_n hx hb dL_changes_49 rfl (lv_at hl 2 rfl) ?_
  refine q_ctch (E := xI.cls) (own := RL) (name := xI.cls) (hh := [(0, 76, 79, 30), (0, 76, 83, 32), (0, 76, 87, 34)]) (vx_runV (rm := { frames := 7, cells := 1, slots := 6, locals := 102 }) (As := [.int a]) (rest := [.int (nI 0), .ref oa]) ⟨hx, hb, hml, hown, hts⟩ (m2_round_1 l hl9 D st z ol sn 0 T S Y G 0 P ch B hI a h0q) (cwV 1 hts gL_changes_X2_round rfl rfl rfl (by decide +kernel) ⟨Nat.le_of_ble_eq_true rfl, Nat.le_of_ble_eq_true rfl⟩) (q_pVX (ci := 2) (q0 := 0) hP hK hT.1 hS (fun q h => Or.inl h) rfl rfl) rfl rfl hl.1 rfl (lv_room (Nat.le_of_ble_eq_true rfl)) dL_changes_50 ⟨Nat.le_of_ble_eq_true rfl, Nat.le_of_ble_eq_true rfl⟩) hS (fun q h => h.elim) hown htab (tableOf []) ⟨0, 76, 79, 30⟩ (tableOf [(0, 76, 83, 32), (0, 76, 87, 34)]) rfl (fun _ h => nomatch h) rfl (by decide) (hts (.classLink RL 30 xI.cls) (by decide +kernel)) (va_Nw.use rfl hT.1.c1) (fun q H locs hP hk hS => ?_)
  have hO := wI_kept hO (fun h => h) hk
  refine lv_astore (lv' := [(5, .ref q), (0, .ref (z.o)), (1, .int (nI 3)), (2, .int a), (3, .int b), (4, .ref oa)]) hx hb dL_changes_79 hl (by decide) rfl (fun ls hl => ?_)
  refine lv_iconst (v := nI 1) hx hb dL_changes_81 (by decide) ?_
  exact hret _ _ _ _ _ (show OS z D sn T _ from ⟨ol, S, Y, G, P, ch, hol, hP⟩) (fun h => nomatch h) hO hS dL_changes_82
set_option maxHeartbeats 4000000 in
set_option maxRecDepth 100000 in
theorem K_sip_ok (l : Launch) (hl9 : l.stackTraces = false) (D : va_G) (st : Nat → Nat) (z : Ad) (oa : Nat) (hoa : ¬ AX z oa) (hDX : va_D (fun _ => True) (wX z 0 0 0 f00 f00 f00 (fun _ => f00) 0 (0, 0, 0, 0) (fun _ => 0))) (g : Int32) (sn : Nat) (hsn : sn ≤ 6) (T : Nat → Int32) (B : Nat) (hI : Inv B T) (n : Nat) (hg : n < 8) (b : Int32) : k_H l yL_changes wsL_changes { frames := 8, cells := 1, slots := 6, locals := 139 } [.ref (z.o), .int (nI 4), .int (nI n), .int b, .ref oa] st D z oa (OS z D sn T) g (nI 0) (CE 0 z D sn T (g_drink T n)) (OE 0 (g_dr T n)) := by
  refine k_goH (cc := cL_changes) (maxL := 6) (hh := [(0, 76, 79, 30), (0, 76, 83, 32), (0, 76, 87, 34)]) (lv0 := [(0, .ref (z.o)), (1, .int (nI 4)), (2, .int (nI n)), (3, .int b), (4, .ref oa)]) (by decide) rfl (Nat.le_of_ble_eq_true rfl) rfl ?_
  intro p e s m args below meth c Q ls hx hb hml hts hown hC hO hK hT hl htab hret
  obtain ⟨ol, S, Y, G, P, ch, hol, hP⟩ := hC
  have hD := q_D2 (ws' := wX z ol sn 0 T S Y G 0 P ch) hDX rfl
  have hS : va_S (AXo z oa) s.heap s.heap [] := va_S.rf
  refine lv_aload hx hb dL_changes_0 (lv_at hl 4 rfl) ?_
  refine lv_iconst (v := nI 0) hx hb dL_changes_2 (by decide) ?_
  refine lv_iload_n hx hb dL_changes_3 rfl (lv_at hl 1 rfl) ?_
  refine lv_if_ne (tgt := 16) hx hb dL_changes_4 (by decide) (fun c1 => ?_) (fun c1 => absurd c1 (by decide))
  refine lv_iload_n hx hb dL_changes_16 rfl (lv_at hl 1 rfl) ?_
  refine lv_iconst (v := nI 1) hx hb dL_changes_17 (by decide) ?_
  refine q_neN (tgt := 29) hx hb (by omega) (by omega) dL_changes_18 (by decide) (fun c2 => ?_) (fun c2 => absurd c2 (by decide))
  refine lv_iload_n hx hb dL_changes_29 rfl (lv_at hl 1 rfl) ?_
  refine lv_iconst (v := nI 2) hx hb dL_changes_30 (by decide) ?_
  refine q_neN (tgt := 43) hx hb (by omega) (by omega) dL_changes_31 (by decide) (fun c3 => ?_) (fun c3 => absurd c3 (by decide))
  refine lv_iload_n hx hb dL_changes_43 rfl (lv_at hl 1 rfl) ?_
  refine lv_iconst (v := nI 3) hx hb dL_changes_44 (by decide) ?_
  refine q_neN (tgt := 56) hx hb (by omega) (by omega) dL_changes_45 (by decide) (fun c4 => ?_) (fun c4 => absurd c4 (by decide))
  refine lv_iload_n hx hb dL_changes_56 rfl (lv_at hl 1 rfl) ?_
  refine lv_iconst (v := nI 4) hx hb dL_changes_57 (by decide) ?_
  refine q_neN (tgt := 69) hx hb (by omega) (by omega) dL_changes_58 (by decide) (fun c5 => absurd c5 (by decide)) (fun c5 => ?_)
  refine lv_aload_n hx hb dL_changes_61 rfl (lv_at hl 0 rfl) ?_
  refine lv_iload_n hx hb dL_changes_62 rfl (lv_at hl 2 rfl) ?_
  refine q_ciK (BH := fun H => va_P D vwCl (wX z (so ol sn) (svn sn) 0 (g_drink T n) S Y (updG G (sr ol sn) T) 0 P ch) H) (va_runV (rm := { frames := 3, cells := 0, slots := 0, locals := 101 }) (As := [.int (nI n)]) (rest := [.int (nI 0), .ref oa]) ⟨hx, hb, hml, hown, hts⟩ (m2_sip_ok l D z ol sn 0 hol hsn T S Y G 0 P ch B hI n hg hD) (cwV 1 hts gL_changes_X2_sip rfl rfl rfl (by decide +kernel) ⟨Nat.le_of_ble_eq_true rfl, Nat.le_of_ble_eq_true rfl⟩) (q_pV (ci := 2) (q0 := 0) hP hK rfl rfl) rfl rfl hl.1 rfl (lv_room (Nat.le_of_ble_eq_true rfl)) dL_changes_63 ⟨Nat.le_of_ble_eq_true rfl, Nat.le_of_ble_eq_true rfl⟩) (fun t h => h) hS (fun q h => Or.inl h) (fun x H locs ex hP hk hS => ?_)
  have hO := wI_kept hO hoa hk
  have ex : x = g_dr T n := ex
  refine lv_goto (tgt := 75) hx hb dL_changes_66 (by decide) ?_
  refine k_st0 hx hb hK hO hS 0 rfl (Or.inr rfl) dL_changes_75 (fun H locs hO hk hS => ?_)
  have hP := hP.keptA wX_in (fun q h (e : q = oa) => hoa (e ▸ h)) hk
  refine lv_goto (tgt := 91) hx hb dL_changes_76 (by decide) ?_
  refine lv_iconst (v := nI 0) hx hb dL_changes_91 (by decide) ?_
  refine W.widen (k := 1) (n := 6) (Nat.le_of_ble_eq_true rfl) (Nat.le_of_ble_eq_true rfl) ?_
  exact hret _ _ _ _ _ (OU.of hol hsn hP) (fun _ => ex) hO hS dL_changes_92
set_option maxHeartbeats 4000000 in
set_option maxRecDepth 100000 in
theorem K_sip_1 (l : Launch) (hl9 : l.stackTraces = false) (D : va_G) (st : Nat → Nat) (z : Ad) (oa : Nat) (hoa : ¬ AX z oa) (hDX : va_D (fun _ => True) (wX z 0 0 0 f00 f00 f00 (fun _ => f00) 0 (0, 0, 0, 0) (fun _ => 0))) (g : Int32) (sn : Nat) (hsn : sn ≤ 6) (T : Nat → Int32) (B : Nat) (hI : Inv B T) (a b : Int32) (h0q : q_in (nI 0) (nI 7) a = false) : k_H l yL_changes wsL_changes { frames := 8, cells := 1, slots := 6, locals := 139 } [.ref (z.o), .int (nI 4), .int a, .int b, .ref oa] st D z oa (OS z D sn T) g (nI 1) (CE 1 z D sn T T) (OE 1 0) := by
  refine k_goH (cc := cL_changes) (maxL := 6) (hh := [(0, 76, 79, 30), (0, 76, 83, 32), (0, 76, 87, 34)]) (lv0 := [(0, .ref (z.o)), (1, .int (nI 4)), (2, .int a), (3, .int b), (4, .ref oa)]) (by decide) rfl (Nat.le_of_ble_eq_true rfl) rfl ?_
  intro p e s m args below meth c Q ls hx hb hml hts hown hC hO hK hT hl htab hret
  obtain ⟨ol, S, Y, G, P, ch, hol, hP⟩ := hC
  have hD := q_D2 (ws' := wX z ol sn 0 T S Y G 0 P ch) hDX rfl
  have hS : va_S (AXo z oa) s.heap s.heap [] := va_S.rf
  refine lv_aload hx hb dL_changes_0 (lv_at hl 4 rfl) ?_
  refine lv_iconst (v := nI 0) hx hb dL_changes_2 (by decide) ?_
  refine lv_iload_n hx hb dL_changes_3 rfl (lv_at hl 1 rfl) ?_
  refine lv_if_ne (tgt := 16) hx hb dL_changes_4 (by decide) (fun c1 => ?_) (fun c1 => absurd c1 (by decide))
  refine lv_iload_n hx hb dL_changes_16 rfl (lv_at hl 1 rfl) ?_
  refine lv_iconst (v := nI 1) hx hb dL_changes_17 (by decide) ?_
  refine q_neN (tgt := 29) hx hb (by omega) (by omega) dL_changes_18 (by decide) (fun c2 => ?_) (fun c2 => absurd c2 (by decide))
  refine lv_iload_n hx hb dL_changes_29 rfl (lv_at hl 1 rfl) ?_
  refine lv_iconst (v := nI 2) hx hb dL_changes_30 (by decide) ?_
  refine q_neN (tgt := 43) hx hb (by omega) (by omega) dL_changes_31 (by decide) (fun c3 => ?_) (fun c3 => absurd c3 (by decide))
  refine lv_iload_n hx hb dL_changes_43 rfl (lv_at hl 1 rfl) ?_
  refine lv_iconst (v := nI 3) hx hb dL_changes_44 (by decide) ?_
  refine q_neN (tgt := 56) hx hb (by omega) (by omega) dL_changes_45 (by decide) (fun c4 => ?_) (fun c4 => absurd c4 (by decide))
  refine lv_iload_n hx hb dL_changes_56 rfl (lv_at hl 1 rfl) ?_
  refine lv_iconst (v := nI 4) hx hb dL_changes_57 (by decide) ?_
  refine q_neN (tgt := 69) hx hb (by omega) (by omega) dL_changes_58 (by decide) (fun c5 => absurd c5 (by decide)) (fun c5 => ?_)
  refine lv_aload_n hx hb dL_changes_61 rfl (lv_at hl 0 rfl) ?_
  refine lv_iload_n hx hb dL_changes_62 rfl (lv_at hl 2 rfl) ?_
  refine q_ctch (E := xI.cls) (own := RL) (name := xI.cls) (hh := [(0, 76, 79, 30), (0, 76, 83, 32), (0, 76, 87, 34)]) (vx_runV (rm := { frames := 7, cells := 1, slots := 6, locals := 102 }) (As := [.int a]) (rest := [.int (nI 0), .ref oa]) ⟨hx, hb, hml, hown, hts⟩ (m2_sip_1 l hl9 D st z ol sn 0 T S Y G 0 P ch B hI a h0q) (cwV 1 hts gL_changes_X2_sip rfl rfl rfl (by decide +kernel) ⟨Nat.le_of_ble_eq_true rfl, Nat.le_of_ble_eq_true rfl⟩) (q_pVX (ci := 2) (q0 := 0) hP hK hT.1 hS (fun q h => Or.inl h) rfl rfl) rfl rfl hl.1 rfl (lv_room (Nat.le_of_ble_eq_true rfl)) dL_changes_63 ⟨Nat.le_of_ble_eq_true rfl, Nat.le_of_ble_eq_true rfl⟩) hS (fun q h => h.elim) hown htab (tableOf []) ⟨0, 76, 79, 30⟩ (tableOf [(0, 76, 83, 32), (0, 76, 87, 34)]) rfl (fun _ h => nomatch h) rfl (by decide) (hts (.classLink RL 30 xI.cls) (by decide +kernel)) (va_Nw.use rfl hT.1.c1) (fun q H locs hP hk hS => ?_)
  have hO := wI_kept hO (fun h => h) hk
  refine lv_astore (lv' := [(5, .ref q), (0, .ref (z.o)), (1, .int (nI 4)), (2, .int a), (3, .int b), (4, .ref oa)]) hx hb dL_changes_79 hl (by decide) rfl (fun ls hl => ?_)
  refine lv_iconst (v := nI 1) hx hb dL_changes_81 (by decide) ?_
  exact hret _ _ _ _ _ (show OS z D sn T _ from ⟨ol, S, Y, G, P, ch, hol, hP⟩) (fun h => nomatch h) hO hS dL_changes_82
set_option maxHeartbeats 4000000 in
set_option maxRecDepth 100000 in
theorem K_cup_ok (l : Launch) (hl9 : l.stackTraces = false) (D : va_G) (st : Nat → Nat) (z : Ad) (oa : Nat) (hoa : ¬ AX z oa) (hDX : va_D (fun _ => True) (wX z 0 0 0 f00 f00 f00 (fun _ => f00) 0 (0, 0, 0, 0) (fun _ => 0))) (g : Int32) (sn : Nat) (hsn : sn ≤ 6) (T : Nat → Int32) (B : Nat) (hI : Inv B T) (n : Nat) (hg : n < 8) (b : Int32) (h1q : q_in (nI 10) (nI 40) b = true) (ht : T (8 + n) ≤ b) : k_H l yL_changes wsL_changes { frames := 8, cells := 1, slots := 6, locals := 139 } [.ref (z.o), .int (nI 5), .int (nI n), .int b, .ref oa] st D z oa (OS z D sn T) g (nI 0) (CE 0 z D sn T (upd T n b)) (OE 0 (T n)) := by
  refine k_goH (cc := cL_changes) (maxL := 6) (hh := [(0, 76, 79, 30), (0, 76, 83, 32), (0, 76, 87, 34)]) (lv0 := [(0, .ref (z.o)), (1, .int (nI 5)), (2, .int (nI n)), (3, .int b), (4, .ref oa)]) (by decide) rfl (Nat.le_of_ble_eq_true rfl) rfl ?_
  intro p e s m args below meth c Q ls hx hb hml hts hown hC hO hK hT hl htab hret
  obtain ⟨ol, S, Y, G, P, ch, hol, hP⟩ := hC
  have hD := q_D2 (ws' := wX z ol sn 0 T S Y G 0 P ch) hDX rfl
  have hS : va_S (AXo z oa) s.heap s.heap [] := va_S.rf
  refine lv_aload hx hb dL_changes_0 (lv_at hl 4 rfl) ?_
  refine lv_iconst (v := nI 0) hx hb dL_changes_2 (by decide) ?_
  refine lv_iload_n hx hb dL_changes_3 rfl (lv_at hl 1 rfl) ?_
  refine lv_if_ne (tgt := 16) hx hb dL_changes_4 (by decide) (fun c1 => ?_) (fun c1 => absurd c1 (by decide))
  refine lv_iload_n hx hb dL_changes_16 rfl (lv_at hl 1 rfl) ?_
  refine lv_iconst (v := nI 1) hx hb dL_changes_17 (by decide) ?_
  refine q_neN (tgt := 29) hx hb (by omega) (by omega) dL_changes_18 (by decide) (fun c2 => ?_) (fun c2 => absurd c2 (by decide))
  refine lv_iload_n hx hb dL_changes_29 rfl (lv_at hl 1 rfl) ?_
  refine lv_iconst (v := nI 2) hx hb dL_changes_30 (by decide) ?_
  refine q_neN (tgt := 43) hx hb (by omega) (by omega) dL_changes_31 (by decide) (fun c3 => ?_) (fun c3 => absurd c3 (by decide))
  refine lv_iload_n hx hb dL_changes_43 rfl (lv_at hl 1 rfl) ?_
  refine lv_iconst (v := nI 3) hx hb dL_changes_44 (by decide) ?_
  refine q_neN (tgt := 56) hx hb (by omega) (by omega) dL_changes_45 (by decide) (fun c4 => ?_) (fun c4 => absurd c4 (by decide))
  refine lv_iload_n hx hb dL_changes_56 rfl (lv_at hl 1 rfl) ?_
  refine lv_iconst (v := nI 4) hx hb dL_changes_57 (by decide) ?_
  refine q_neN (tgt := 69) hx hb (by omega) (by omega) dL_changes_58 (by decide) (fun c5 => ?_) (fun c5 => absurd c5 (by decide))
  refine lv_aload_n hx hb dL_changes_69 rfl (lv_at hl 0 rfl) ?_
  refine lv_iload_n hx hb dL_changes_70 rfl (lv_at hl 2 rfl) ?_
  refine lv_iload_n hx hb dL_changes_71 rfl (lv_at hl 3 rfl) ?_
  refine q_ciK (BH := fun H => va_P D vwCl (wX z (so ol sn) (svn sn) 0 (upd T n b) S Y (updG G (sr ol sn) T) 0 P ch) H) (va_runV (rm := { frames := 3, cells := 0, slots := 0, locals := 101 }) (As := [.int (nI n), .int b]) (rest := [.int (nI 0), .ref oa]) ⟨hx, hb, hml, hown, hts⟩ (m2_cup_ok l D z ol sn 0 hol hsn T S Y G 0 P ch B hI n hg b h1q ht hD) (cwV 2 hts gL_changes_X2_cup rfl rfl rfl (by decide +kernel) ⟨Nat.le_of_ble_eq_true rfl, Nat.le_of_ble_eq_true rfl⟩) (q_pV (ci := 2) (q0 := 0) hP hK rfl rfl) rfl rfl hl.1 rfl (lv_room (Nat.le_of_ble_eq_true rfl)) dL_changes_72 ⟨Nat.le_of_ble_eq_true rfl, Nat.le_of_ble_eq_true rfl⟩) (fun t h => h) hS (fun q h => Or.inl h) (fun x H locs ex hP hk hS => ?_)
  have hO := wI_kept hO hoa hk
  have ex : x = T n := ex
  refine k_st0 hx hb hK hO hS 0 rfl (Or.inr rfl) dL_changes_75 (fun H locs hO hk hS => ?_)
  have hP := hP.keptA wX_in (fun q h (e : q = oa) => hoa (e ▸ h)) hk
  refine lv_goto (tgt := 91) hx hb dL_changes_76 (by decide) ?_
  refine lv_iconst (v := nI 0) hx hb dL_changes_91 (by decide) ?_
  refine W.widen (k := 1) (n := 6) (Nat.le_of_ble_eq_true rfl) (Nat.le_of_ble_eq_true rfl) ?_
  exact hret _ _ _ _ _ (OU.of hol hsn hP) (fun _ => ex) hO hS dL_changes_92
set_option maxHeartbeats 4000000 in
set_option maxRecDepth 100000 in
theorem K_cup_1 (l : Launch) (hl9 : l.stackTraces = false) (D : va_G) (st : Nat → Nat) (z : Ad) (oa : Nat) (hoa : ¬ AX z oa) (hDX : va_D (fun _ => True) (wX z 0 0 0 f00 f00 f00 (fun _ => f00) 0 (0, 0, 0, 0) (fun _ => 0))) (g : Int32) (sn : Nat) (hsn : sn ≤ 6) (T : Nat → Int32) (B : Nat) (hI : Inv B T) (a b : Int32) (h0q : q_in (nI 0) (nI 7) a = false) : k_H l yL_changes wsL_changes { frames := 8, cells := 1, slots := 6, locals := 139 } [.ref (z.o), .int (nI 5), .int a, .int b, .ref oa] st D z oa (OS z D sn T) g (nI 1) (CE 1 z D sn T T) (OE 1 0) := by
  refine k_goH (cc := cL_changes) (maxL := 6) (hh := [(0, 76, 79, 30), (0, 76, 83, 32), (0, 76, 87, 34)]) (lv0 := [(0, .ref (z.o)), (1, .int (nI 5)), (2, .int a), (3, .int b), (4, .ref oa)]) (by decide) rfl (Nat.le_of_ble_eq_true rfl) rfl ?_
  intro p e s m args below meth c Q ls hx hb hml hts hown hC hO hK hT hl htab hret
  obtain ⟨ol, S, Y, G, P, ch, hol, hP⟩ := hC
  have hD := q_D2 (ws' := wX z ol sn 0 T S Y G 0 P ch) hDX rfl
  have hS : va_S (AXo z oa) s.heap s.heap [] := va_S.rf
  refine lv_aload hx hb dL_changes_0 (lv_at hl 4 rfl) ?_
  refine lv_iconst (v := nI 0) hx hb dL_changes_2 (by decide) ?_
  refine lv_iload_n hx hb dL_changes_3 rfl (lv_at hl 1 rfl) ?_
  refine lv_if_ne (tgt := 16) hx hb dL_changes_4 (by decide) (fun c1 => ?_) (fun c1 => absurd c1 (by decide))
  refine lv_iload_n hx hb dL_changes_16 rfl (lv_at hl 1 rfl) ?_
  refine lv_iconst (v := nI 1) hx hb dL_changes_17 (by decide) ?_
  refine q_neN (tgt := 29) hx hb (by omega) (by omega) dL_changes_18 (by decide) (fun c2 => ?_) (fun c2 => absurd c2 (by decide))
  refine lv_iload_n hx hb dL_changes_29 rfl (lv_at hl 1 rfl) ?_
  refine lv_iconst (v := nI 2) hx hb dL_changes_30 (by decide) ?_
  refine q_neN (tgt := 43) hx hb (by omega) (by omega) dL_changes_31 (by decide) (fun c3 => ?_) (fun c3 => absurd c3 (by decide))
  refine lv_iload_n hx hb dL_changes_43 rfl (lv_at hl 1 rfl) ?_
  refine lv_iconst (v := nI 3) hx hb dL_changes_44 (by decide) ?_
  refine q_neN (tgt := 56) hx hb (by omega) (by omega) dL_changes_45 (by decide) (fun c4 => ?_) (fun c4 => absurd c4 (by decide))
  refine lv_iload_n hx hb dL_changes_56 rfl (lv_at hl 1 rfl) ?_
  refine lv_iconst (v := nI 4) hx hb dL_changes_57 (by decide) ?_
  refine q_neN (tgt := 69) hx hb (by omega) (by omega) dL_changes_58 (by decide) (fun c5 => ?_) (fun c5 => absurd c5 (by decide))
  refine lv_aload_n hx hb dL_changes_69 rfl (lv_at hl 0 rfl) ?_
  refine lv_iload_n hx hb dL_changes_70 rfl (lv_at hl 2 rfl) ?_
  refine lv_iload_n hx hb dL_changes_71 rfl (lv_at hl 3 rfl) ?_
  refine q_ctch (E := xI.cls) (own := RL) (name := xI.cls) (hh := [(0, 76, 79, 30), (0, 76, 83, 32), (0, 76, 87, 34)]) (vx_runV (rm := { frames := 7, cells := 1, slots := 6, locals := 102 }) (As := [.int a, .int b]) (rest := [.int (nI 0), .ref oa]) ⟨hx, hb, hml, hown, hts⟩ (m2_cup_1 l hl9 D st z ol sn 0 T S Y G 0 P ch B hI a b h0q) (cwV 2 hts gL_changes_X2_cup rfl rfl rfl (by decide +kernel) ⟨Nat.le_of_ble_eq_true rfl, Nat.le_of_ble_eq_true rfl⟩) (q_pVX (ci := 2) (q0 := 0) hP hK hT.1 hS (fun q h => Or.inl h) rfl rfl) rfl rfl hl.1 rfl (lv_room (Nat.le_of_ble_eq_true rfl)) dL_changes_72 ⟨Nat.le_of_ble_eq_true rfl, Nat.le_of_ble_eq_true rfl⟩) hS (fun q h => h.elim) hown htab (tableOf []) ⟨0, 76, 79, 30⟩ (tableOf [(0, 76, 83, 32), (0, 76, 87, 34)]) rfl (fun _ h => nomatch h) rfl (by decide) (hts (.classLink RL 30 xI.cls) (by decide +kernel)) (va_Nw.use rfl hT.1.c1) (fun q H locs hP hk hS => ?_)
  have hO := wI_kept hO (fun h => h) hk
  refine lv_astore (lv' := [(5, .ref q), (0, .ref (z.o)), (1, .int (nI 5)), (2, .int a), (3, .int b), (4, .ref oa)]) hx hb dL_changes_79 hl (by decide) rfl (fun ls hl => ?_)
  refine lv_iconst (v := nI 1) hx hb dL_changes_81 (by decide) ?_
  exact hret _ _ _ _ _ (show OS z D sn T _ from ⟨ol, S, Y, G, P, ch, hol, hP⟩) (fun h => nomatch h) hO hS dL_changes_82
set_option maxHeartbeats 4000000 in
set_option maxRecDepth 100000 in
theorem K_cup_2 (l : Launch) (hl9 : l.stackTraces = false) (D : va_G) (st : Nat → Nat) (z : Ad) (oa : Nat) (hoa : ¬ AX z oa) (hDX : va_D (fun _ => True) (wX z 0 0 0 f00 f00 f00 (fun _ => f00) 0 (0, 0, 0, 0) (fun _ => 0))) (g : Int32) (sn : Nat) (hsn : sn ≤ 6) (T : Nat → Int32) (B : Nat) (hI : Inv B T) (n : Nat) (hg : n < 8) (b : Int32) (h1q : q_in (nI 10) (nI 40) b = false) : k_H l yL_changes wsL_changes { frames := 8, cells := 1, slots := 6, locals := 139 } [.ref (z.o), .int (nI 5), .int (nI n), .int b, .ref oa] st D z oa (OS z D sn T) g (nI 2) (CE 2 z D sn T T) (OE 2 0) := by
  refine k_goH (cc := cL_changes) (maxL := 6) (hh := [(0, 76, 79, 30), (0, 76, 83, 32), (0, 76, 87, 34)]) (lv0 := [(0, .ref (z.o)), (1, .int (nI 5)), (2, .int (nI n)), (3, .int b), (4, .ref oa)]) (by decide) rfl (Nat.le_of_ble_eq_true rfl) rfl ?_
  intro p e s m args below meth c Q ls hx hb hml hts hown hC hO hK hT hl htab hret
  obtain ⟨ol, S, Y, G, P, ch, hol, hP⟩ := hC
  have hD := q_D2 (ws' := wX z ol sn 0 T S Y G 0 P ch) hDX rfl
  have hS : va_S (AXo z oa) s.heap s.heap [] := va_S.rf
  refine lv_aload hx hb dL_changes_0 (lv_at hl 4 rfl) ?_
  refine lv_iconst (v := nI 0) hx hb dL_changes_2 (by decide) ?_
  refine lv_iload_n hx hb dL_changes_3 rfl (lv_at hl 1 rfl) ?_
  refine lv_if_ne (tgt := 16) hx hb dL_changes_4 (by decide) (fun c1 => ?_) (fun c1 => absurd c1 (by decide))
  refine lv_iload_n hx hb dL_changes_16 rfl (lv_at hl 1 rfl) ?_
  refine lv_iconst (v := nI 1) hx hb dL_changes_17 (by decide) ?_
  refine q_neN (tgt := 29) hx hb (by omega) (by omega) dL_changes_18 (by decide) (fun c2 => ?_) (fun c2 => absurd c2 (by decide))
  refine lv_iload_n hx hb dL_changes_29 rfl (lv_at hl 1 rfl) ?_
  refine lv_iconst (v := nI 2) hx hb dL_changes_30 (by decide) ?_
  refine q_neN (tgt := 43) hx hb (by omega) (by omega) dL_changes_31 (by decide) (fun c3 => ?_) (fun c3 => absurd c3 (by decide))
  refine lv_iload_n hx hb dL_changes_43 rfl (lv_at hl 1 rfl) ?_
  refine lv_iconst (v := nI 3) hx hb dL_changes_44 (by decide) ?_
  refine q_neN (tgt := 56) hx hb (by omega) (by omega) dL_changes_45 (by decide) (fun c4 => ?_) (fun c4 => absurd c4 (by decide))
  refine lv_iload_n hx hb dL_changes_56 rfl (lv_at hl 1 rfl) ?_
  refine lv_iconst (v := nI 4) hx hb dL_changes_57 (by decide) ?_
  refine q_neN (tgt := 69) hx hb (by omega) (by omega) dL_changes_58 (by decide) (fun c5 => ?_) (fun c5 => absurd c5 (by decide))
  refine lv_aload_n hx hb dL_changes_69 rfl (lv_at hl 0 rfl) ?_
  refine lv_iload_n hx hb dL_changes_70 rfl (lv_at hl 2 rfl) ?_
  refine lv_iload_n hx hb dL_changes_71 rfl (lv_at hl 3 rfl) ?_
  refine q_ctch (E := xA.cls) (own := RL) (name := xA.cls) (hh := [(0, 76, 79, 30), (0, 76, 83, 32), (0, 76, 87, 34)]) (vx_runV (rm := { frames := 7, cells := 1, slots := 6, locals := 104 }) (As := [.int (nI n), .int b]) (rest := [.int (nI 0), .ref oa]) ⟨hx, hb, hml, hown, hts⟩ (m2_cup_2 l hl9 D st z ol sn 0 T S Y G 0 P ch B hI n hg b h1q) (cwV 2 hts gL_changes_X2_cup rfl rfl rfl (by decide +kernel) ⟨Nat.le_of_ble_eq_true rfl, Nat.le_of_ble_eq_true rfl⟩) (q_pVX (ci := 2) (q0 := 0) hP hK hT.1 hS (fun q h => Or.inl h) rfl rfl) rfl rfl hl.1 rfl (lv_room (Nat.le_of_ble_eq_true rfl)) dL_changes_72 ⟨Nat.le_of_ble_eq_true rfl, Nat.le_of_ble_eq_true rfl⟩) hS (fun q h => h.elim) hown htab (tableOf [(0, 76, 79, 30)]) ⟨0, 76, 83, 32⟩ (tableOf [(0, 76, 87, 34)]) rfl (fun zz hz => by rw [List.mem_singleton.mp hz]; exact Or.inr ⟨by decide, xI.cls, hts _ (by decide +kernel), hT.2.1⟩) rfl (by decide) (hts (.classLink RL 32 xA.cls) (by decide +kernel)) (va_Nw.use rfl hT.1.c2) (fun q H locs hP hk hS => ?_)
  have hO := wI_kept hO (fun h => h) hk
  refine lv_astore (lv' := [(5, .ref q), (0, .ref (z.o)), (1, .int (nI 5)), (2, .int (nI n)), (3, .int b), (4, .ref oa)]) hx hb dL_changes_83 hl (by decide) rfl (fun ls hl => ?_)
  refine lv_iconst (v := nI 2) hx hb dL_changes_85 (by decide) ?_
  exact hret _ _ _ _ _ (show OS z D sn T _ from ⟨ol, S, Y, G, P, ch, hol, hP⟩) (fun h => nomatch h) hO hS dL_changes_86
set_option maxHeartbeats 4000000 in
set_option maxRecDepth 100000 in
theorem K_cup_3 (l : Launch) (hl9 : l.stackTraces = false) (D : va_G) (st : Nat → Nat) (z : Ad) (oa : Nat) (hoa : ¬ AX z oa) (hDX : va_D (fun _ => True) (wX z 0 0 0 f00 f00 f00 (fun _ => f00) 0 (0, 0, 0, 0) (fun _ => 0))) (g : Int32) (sn : Nat) (hsn : sn ≤ 6) (T : Nat → Int32) (B : Nat) (hI : Inv B T) (n : Nat) (hg : n < 8) (b : Int32) (h1q : q_in (nI 10) (nI 40) b = true) (ht : ¬ T (8 + n) ≤ b) : k_H l yL_changes wsL_changes { frames := 8, cells := 1, slots := 6, locals := 139 } [.ref (z.o), .int (nI 5), .int (nI n), .int b, .ref oa] st D z oa (OS z D sn T) g (nI 3) (CE 3 z D sn T T) (OE 3 0) := by
  refine k_goH (cc := cL_changes) (maxL := 6) (hh := [(0, 76, 79, 30), (0, 76, 83, 32), (0, 76, 87, 34)]) (lv0 := [(0, .ref (z.o)), (1, .int (nI 5)), (2, .int (nI n)), (3, .int b), (4, .ref oa)]) (by decide) rfl (Nat.le_of_ble_eq_true rfl) rfl ?_
  intro p e s m args below meth c Q ls hx hb hml hts hown hC hO hK hT hl htab hret
  obtain ⟨ol, S, Y, G, P, ch, hol, hP⟩ := hC
  have hD := q_D2 (ws' := wX z ol sn 0 T S Y G 0 P ch) hDX rfl
  have hS : va_S (AXo z oa) s.heap s.heap [] := va_S.rf
  refine lv_aload hx hb dL_changes_0 (lv_at hl 4 rfl) ?_
  refine lv_iconst (v := nI 0) hx hb dL_changes_2 (by decide) ?_
  refine lv_iload_n hx hb dL_changes_3 rfl (lv_at hl 1 rfl) ?_
  refine lv_if_ne (tgt := 16) hx hb dL_changes_4 (by decide) (fun c1 => ?_) (fun c1 => absurd c1 (by decide))
  refine lv_iload_n hx hb dL_changes_16 rfl (lv_at hl 1 rfl) ?_
  refine lv_iconst (v := nI 1) hx hb dL_changes_17 (by decide) ?_
  refine q_neN (tgt := 29) hx hb (by omega) (by omega) dL_changes_18 (by decide) (fun c2 => ?_) (fun c2 => absurd c2 (by decide))
  refine lv_iload_n hx hb dL_changes_29 rfl (lv_at hl 1 rfl) ?_
  refine lv_iconst (v := nI 2) hx hb dL_changes_30 (by decide) ?_
  refine q_neN (tgt := 43) hx hb (by omega) (by omega) dL_changes_31 (by decide) (fun c3 => ?_) (fun c3 => absurd c3 (by decide))
  refine lv_iload_n hx hb dL_changes_43 rfl (lv_at hl 1 rfl) ?_
  refine lv_iconst (v := nI 3) hx hb dL_changes_44 (by decide) ?_
  refine q_neN (tgt := 56) hx hb (by omega) (by omega) dL_changes_45 (by decide) (fun c4 => ?_) (fun c4 => absurd c4 (by decide))
  refine lv_iload_n hx hb dL_changes_56 rfl (lv_at hl 1 rfl) ?_
  refine lv_iconst (v := nI 4) hx hb dL_changes_57 (by decide) ?_
  refine q_neN (tgt := 69) hx hb (by omega) (by omega) dL_changes_58 (by decide) (fun c5 => ?_) (fun c5 => absurd c5 (by decide))
  refine lv_aload_n hx hb dL_changes_69 rfl (lv_at hl 0 rfl) ?_
  refine lv_iload_n hx hb dL_changes_70 rfl (lv_at hl 2 rfl) ?_
  refine lv_iload_n hx hb dL_changes_71 rfl (lv_at hl 3 rfl) ?_
  refine q_ctch (E := xS.cls) (own := RL) (name := xS.cls) (hh := [(0, 76, 79, 30), (0, 76, 83, 32), (0, 76, 87, 34)]) (vx_runV (rm := { frames := 6, cells := 1, slots := 6, locals := 82 }) (As := [.int (nI n), .int b]) (rest := [.int (nI 0), .ref oa]) ⟨hx, hb, hml, hown, hts⟩ (m2_cup_3 l hl9 D st z ol sn 0 T S Y G 0 P ch B hI n hg b h1q ht) (cwV 2 hts gL_changes_X2_cup rfl rfl rfl (by decide +kernel) ⟨Nat.le_of_ble_eq_true rfl, Nat.le_of_ble_eq_true rfl⟩) (q_pVX (ci := 2) (q0 := 0) hP hK hT.1 hS (fun q h => Or.inl h) rfl rfl) rfl rfl hl.1 rfl (lv_room (Nat.le_of_ble_eq_true rfl)) dL_changes_72 ⟨Nat.le_of_ble_eq_true rfl, Nat.le_of_ble_eq_true rfl⟩) hS (fun q h => h.elim) hown htab (tableOf [(0, 76, 79, 30), (0, 76, 83, 32)]) ⟨0, 76, 87, 34⟩ (tableOf []) rfl (fun zz hz => (List.mem_cons.mp hz).elim (fun e => by rw [e]; exact Or.inr ⟨by decide, xI.cls, hts _ (by decide +kernel), hT.2.2.1⟩) (fun hz => by rw [List.mem_singleton.mp hz]; exact Or.inr ⟨by decide, xA.cls, hts _ (by decide +kernel), hT.2.2.2⟩)) rfl (by decide) (hts (.classLink RL 34 xS.cls) (by decide +kernel)) (va_Nw.use rfl hT.1.c3) (fun q H locs hP hk hS => ?_)
  have hO := wI_kept hO (fun h => h) hk
  refine lv_astore (lv' := [(5, .ref q), (0, .ref (z.o)), (1, .int (nI 5)), (2, .int (nI n)), (3, .int b), (4, .ref oa)]) hx hb dL_changes_87 hl (by decide) rfl (fun ls hl => ?_)
  refine lv_iconst (v := nI 3) hx hb dL_changes_89 (by decide) ?_
  exact hret _ _ _ _ _ (show OS z D sn T _ from ⟨ol, S, Y, G, P, ch, hol, hP⟩) (fun h => nomatch h) hO hS dL_changes_90
set_option maxHeartbeats 4000000 in
set_option maxRecDepth 100000 in
theorem K_like_ok (l : Launch) (hl9 : l.stackTraces = false) (D : va_G) (st : Nat → Nat) (z : Ad) (oa : Nat) (hoa : ¬ AX z oa) (hDX : va_D (fun _ => True) (wX z 0 0 0 f00 f00 f00 (fun _ => f00) 0 (0, 0, 0, 0) (fun _ => 0))) (g : Int32) (sn : Nat) (hsn : sn ≤ 6) (T : Nat → Int32) (B : Nat) (hI : Inv B T) (n : Nat) (hg : n < 8) (xt xr xl : Int32) (h1q : q_in (nI 1) (nI 20) xt = true) (h2q : q_in (nI 0) (nI 10) xr = true) (h3q : q_in (-20) (nI 20) xl = true) : k_H l yL_likes wsL_likes { frames := 8, cells := 1, slots := 6, locals := 129 } [.ref (z.o), .int (nI n), .int xt, .int xr, .int xl, .ref oa] st D z oa (OS z D sn T) g (nI 0) (CE 0 z D sn T (g_like T n xt xr xl)) (OE 0 (T (16 + n))) := by
  refine k_goH (cc := cL_likes) (maxL := 7) (hh := [(0, 13, 16, 30), (0, 13, 20, 32)]) (lv0 := [(0, .ref (z.o)), (1, .int (nI n)), (2, .int xt), (3, .int xr), (4, .int xl), (5, .ref oa)]) (by decide) rfl (Nat.le_of_ble_eq_true rfl) rfl ?_
  intro p e s m args below meth c Q ls hx hb hml hts hown hC hO hK hT hl htab hret
  obtain ⟨ol, S, Y, G, P, ch, hol, hP⟩ := hC
  have hD := q_D2 (ws' := wX z ol sn 0 T S Y G 0 P ch) hDX rfl
  have hS : va_S (AXo z oa) s.heap s.heap [] := va_S.rf
  refine lv_aload hx hb dL_likes_0 (lv_at hl 5 rfl) ?_
  refine lv_iconst (v := nI 0) hx hb dL_likes_2 (by decide) ?_
  refine lv_aload_n hx hb dL_likes_3 rfl (lv_at hl 0 rfl) ?_
  refine lv_iload_n hx hb dL_likes_4 rfl (lv_at hl 1 rfl) ?_
  refine lv_iload_n hx hb dL_likes_5 rfl (lv_at hl 2 rfl) ?_
  refine lv_iload_n hx hb dL_likes_6 rfl (lv_at hl 3 rfl) ?_
  refine lv_iload hx hb dL_likes_7 (lv_at hl 4 rfl) ?_
  refine q_ciK (BH := fun H => va_P D vwCl (wX z (so ol sn) (svn sn) 0 (g_like T n xt xr xl) S Y (updG G (sr ol sn) T) 0 P ch) H) (va_runV (rm := { frames := 3, cells := 0, slots := 0, locals := 101 }) (As := [.int (nI n), .int xt, .int xr, .int xl]) (rest := [.int (nI 0), .ref oa]) ⟨hx, hb, hml, hown, hts⟩ (m2_like_ok l D z ol sn 0 hol hsn T S Y G 0 P ch B hI n hg xt xr xl h1q h2q h3q hD) (cwV 4 hts gL_likes_X2_like rfl rfl rfl (by decide +kernel) ⟨Nat.le_of_ble_eq_true rfl, Nat.le_of_ble_eq_true rfl⟩) (q_pV (ci := 2) (q0 := 0) hP hK rfl rfl) rfl rfl hl.1 rfl (lv_room (Nat.le_of_ble_eq_true rfl)) dL_likes_9 ⟨Nat.le_of_ble_eq_true rfl, Nat.le_of_ble_eq_true rfl⟩) (fun t h => h) hS (fun q h => Or.inl h) (fun x H locs ex hP hk hS => ?_)
  have hO := wI_kept hO hoa hk
  have ex : x = T (16 + n) := ex
  refine k_st0 hx hb hK hO hS 0 rfl (Or.inr rfl) dL_likes_12 (fun H locs hO hk hS => ?_)
  have hP := hP.keptA wX_in (fun q h (e : q = oa) => hoa (e ▸ h)) hk
  refine lv_goto (tgt := 24) hx hb dL_likes_13 (by decide) ?_
  refine lv_iconst (v := nI 0) hx hb dL_likes_24 (by decide) ?_
  refine W.widen (k := 1) (n := 6) (Nat.le_of_ble_eq_true rfl) (Nat.le_of_ble_eq_true rfl) ?_
  exact hret _ _ _ _ _ (OU.of hol hsn hP) (fun _ => ex) hO hS dL_likes_25
set_option maxHeartbeats 4000000 in
set_option maxRecDepth 100000 in
theorem K_like_1 (l : Launch) (hl9 : l.stackTraces = false) (D : va_G) (st : Nat → Nat) (z : Ad) (oa : Nat) (hoa : ¬ AX z oa) (hDX : va_D (fun _ => True) (wX z 0 0 0 f00 f00 f00 (fun _ => f00) 0 (0, 0, 0, 0) (fun _ => 0))) (g : Int32) (sn : Nat) (hsn : sn ≤ 6) (T : Nat → Int32) (B : Nat) (hI : Inv B T) (a : Int32) (xt xr xl : Int32) (h0q : q_in (nI 0) (nI 7) a = false) : k_H l yL_likes wsL_likes { frames := 8, cells := 1, slots := 6, locals := 129 } [.ref (z.o), .int a, .int xt, .int xr, .int xl, .ref oa] st D z oa (OS z D sn T) g (nI 1) (CE 1 z D sn T T) (OE 1 0) := by
  refine k_goH (cc := cL_likes) (maxL := 7) (hh := [(0, 13, 16, 30), (0, 13, 20, 32)]) (lv0 := [(0, .ref (z.o)), (1, .int a), (2, .int xt), (3, .int xr), (4, .int xl), (5, .ref oa)]) (by decide) rfl (Nat.le_of_ble_eq_true rfl) rfl ?_
  intro p e s m args below meth c Q ls hx hb hml hts hown hC hO hK hT hl htab hret
  obtain ⟨ol, S, Y, G, P, ch, hol, hP⟩ := hC
  have hD := q_D2 (ws' := wX z ol sn 0 T S Y G 0 P ch) hDX rfl
  have hS : va_S (AXo z oa) s.heap s.heap [] := va_S.rf
  refine lv_aload hx hb dL_likes_0 (lv_at hl 5 rfl) ?_
  refine lv_iconst (v := nI 0) hx hb dL_likes_2 (by decide) ?_
  refine lv_aload_n hx hb dL_likes_3 rfl (lv_at hl 0 rfl) ?_
  refine lv_iload_n hx hb dL_likes_4 rfl (lv_at hl 1 rfl) ?_
  refine lv_iload_n hx hb dL_likes_5 rfl (lv_at hl 2 rfl) ?_
  refine lv_iload_n hx hb dL_likes_6 rfl (lv_at hl 3 rfl) ?_
  refine lv_iload hx hb dL_likes_7 (lv_at hl 4 rfl) ?_
  refine q_ctch (E := xI.cls) (own := RL) (name := xI.cls) (hh := [(0, 13, 16, 30), (0, 13, 20, 32)]) (vx_runV (rm := { frames := 7, cells := 1, slots := 6, locals := 102 }) (As := [.int a, .int xt, .int xr, .int xl]) (rest := [.int (nI 0), .ref oa]) ⟨hx, hb, hml, hown, hts⟩ (m2_like_1 l hl9 D st z ol sn 0 T S Y G 0 P ch B hI a xt xr xl h0q) (cwV 4 hts gL_likes_X2_like rfl rfl rfl (by decide +kernel) ⟨Nat.le_of_ble_eq_true rfl, Nat.le_of_ble_eq_true rfl⟩) (q_pVX (ci := 2) (q0 := 0) hP hK hT.1 hS (fun q h => Or.inl h) rfl rfl) rfl rfl hl.1 rfl (lv_room (Nat.le_of_ble_eq_true rfl)) dL_likes_9 ⟨Nat.le_of_ble_eq_true rfl, Nat.le_of_ble_eq_true rfl⟩) hS (fun q h => h.elim) hown htab (tableOf []) ⟨0, 13, 16, 30⟩ (tableOf [(0, 13, 20, 32)]) rfl (fun _ h => nomatch h) rfl (by decide) (hts (.classLink RL 30 xI.cls) (by decide +kernel)) (va_Nw.use rfl hT.1.c1) (fun q H locs hP hk hS => ?_)
  have hO := wI_kept hO (fun h => h) hk
  refine lv_astore (lv' := [(6, .ref q), (0, .ref (z.o)), (1, .int a), (2, .int xt), (3, .int xr), (4, .int xl), (5, .ref oa)]) hx hb dL_likes_16 hl (by decide) rfl (fun ls hl => ?_)
  refine lv_iconst (v := nI 1) hx hb dL_likes_18 (by decide) ?_
  exact hret _ _ _ _ _ (show OS z D sn T _ from ⟨ol, S, Y, G, P, ch, hol, hP⟩) (fun h => nomatch h) hO hS dL_likes_19
set_option maxHeartbeats 4000000 in
set_option maxRecDepth 100000 in
theorem K_like_2a (l : Launch) (hl9 : l.stackTraces = false) (D : va_G) (st : Nat → Nat) (z : Ad) (oa : Nat) (hoa : ¬ AX z oa) (hDX : va_D (fun _ => True) (wX z 0 0 0 f00 f00 f00 (fun _ => f00) 0 (0, 0, 0, 0) (fun _ => 0))) (g : Int32) (sn : Nat) (hsn : sn ≤ 6) (T : Nat → Int32) (B : Nat) (hI : Inv B T) (n : Nat) (hg : n < 8) (xt xr xl : Int32) (h1q : q_in (nI 1) (nI 20) xt = false) : k_H l yL_likes wsL_likes { frames := 8, cells := 1, slots := 6, locals := 129 } [.ref (z.o), .int (nI n), .int xt, .int xr, .int xl, .ref oa] st D z oa (OS z D sn T) g (nI 2) (CE 2 z D sn T T) (OE 2 0) := by
  refine k_goH (cc := cL_likes) (maxL := 7) (hh := [(0, 13, 16, 30), (0, 13, 20, 32)]) (lv0 := [(0, .ref (z.o)), (1, .int (nI n)), (2, .int xt), (3, .int xr), (4, .int xl), (5, .ref oa)]) (by decide) rfl (Nat.le_of_ble_eq_true rfl) rfl ?_
  intro p e s m args below meth c Q ls hx hb hml hts hown hC hO hK hT hl htab hret
  obtain ⟨ol, S, Y, G, P, ch, hol, hP⟩ := hC
  have hD := q_D2 (ws' := wX z ol sn 0 T S Y G 0 P ch) hDX rfl
  have hS : va_S (AXo z oa) s.heap s.heap [] := va_S.rf
  refine lv_aload hx hb dL_likes_0 (lv_at hl 5 rfl) ?_
  refine lv_iconst (v := nI 0) hx hb dL_likes_2 (by decide) ?_
  refine lv_aload_n hx hb dL_likes_3 rfl (lv_at hl 0 rfl) ?_
  refine lv_iload_n hx hb dL_likes_4 rfl (lv_at hl 1 rfl) ?_
  refine lv_iload_n hx hb dL_likes_5 rfl (lv_at hl 2 rfl) ?_
  refine lv_iload_n hx hb dL_likes_6 rfl (lv_at hl 3 rfl) ?_
  refine lv_iload hx hb dL_likes_7 (lv_at hl 4 rfl) ?_
  refine q_ctch (E := xA.cls) (own := RL) (name := xA.cls) (hh := [(0, 13, 16, 30), (0, 13, 20, 32)]) (vx_runV (rm := { frames := 7, cells := 1, slots := 6, locals := 104 }) (As := [.int (nI n), .int xt, .int xr, .int xl]) (rest := [.int (nI 0), .ref oa]) ⟨hx, hb, hml, hown, hts⟩ (m2_like_2a l hl9 D st z ol sn 0 T S Y G 0 P ch B hI n hg xt xr xl h1q) (cwV 4 hts gL_likes_X2_like rfl rfl rfl (by decide +kernel) ⟨Nat.le_of_ble_eq_true rfl, Nat.le_of_ble_eq_true rfl⟩) (q_pVX (ci := 2) (q0 := 0) hP hK hT.1 hS (fun q h => Or.inl h) rfl rfl) rfl rfl hl.1 rfl (lv_room (Nat.le_of_ble_eq_true rfl)) dL_likes_9 ⟨Nat.le_of_ble_eq_true rfl, Nat.le_of_ble_eq_true rfl⟩) hS (fun q h => h.elim) hown htab (tableOf [(0, 13, 16, 30)]) ⟨0, 13, 20, 32⟩ (tableOf []) rfl (fun zz hz => by rw [List.mem_singleton.mp hz]; exact Or.inr ⟨by decide, xI.cls, hts _ (by decide +kernel), hT.2.1⟩) rfl (by decide) (hts (.classLink RL 32 xA.cls) (by decide +kernel)) (va_Nw.use rfl hT.1.c2) (fun q H locs hP hk hS => ?_)
  have hO := wI_kept hO (fun h => h) hk
  refine lv_astore (lv' := [(6, .ref q), (0, .ref (z.o)), (1, .int (nI n)), (2, .int xt), (3, .int xr), (4, .int xl), (5, .ref oa)]) hx hb dL_likes_20 hl (by decide) rfl (fun ls hl => ?_)
  refine lv_iconst (v := nI 2) hx hb dL_likes_22 (by decide) ?_
  exact hret _ _ _ _ _ (show OS z D sn T _ from ⟨ol, S, Y, G, P, ch, hol, hP⟩) (fun h => nomatch h) hO hS dL_likes_23
set_option maxHeartbeats 4000000 in
set_option maxRecDepth 100000 in
theorem K_like_2b (l : Launch) (hl9 : l.stackTraces = false) (D : va_G) (st : Nat → Nat) (z : Ad) (oa : Nat) (hoa : ¬ AX z oa) (hDX : va_D (fun _ => True) (wX z 0 0 0 f00 f00 f00 (fun _ => f00) 0 (0, 0, 0, 0) (fun _ => 0))) (g : Int32) (sn : Nat) (hsn : sn ≤ 6) (T : Nat → Int32) (B : Nat) (hI : Inv B T) (n : Nat) (hg : n < 8) (xt xr xl : Int32) (h1q : q_in (nI 1) (nI 20) xt = true) (h2q : q_in (nI 0) (nI 10) xr = false) : k_H l yL_likes wsL_likes { frames := 8, cells := 1, slots := 6, locals := 129 } [.ref (z.o), .int (nI n), .int xt, .int xr, .int xl, .ref oa] st D z oa (OS z D sn T) g (nI 2) (CE 2 z D sn T T) (OE 2 0) := by
  refine k_goH (cc := cL_likes) (maxL := 7) (hh := [(0, 13, 16, 30), (0, 13, 20, 32)]) (lv0 := [(0, .ref (z.o)), (1, .int (nI n)), (2, .int xt), (3, .int xr), (4, .int xl), (5, .ref oa)]) (by decide) rfl (Nat.le_of_ble_eq_true rfl) rfl ?_
  intro p e s m args below meth c Q ls hx hb hml hts hown hC hO hK hT hl htab hret
  obtain ⟨ol, S, Y, G, P, ch, hol, hP⟩ := hC
  have hD := q_D2 (ws' := wX z ol sn 0 T S Y G 0 P ch) hDX rfl
  have hS : va_S (AXo z oa) s.heap s.heap [] := va_S.rf
  refine lv_aload hx hb dL_likes_0 (lv_at hl 5 rfl) ?_
  refine lv_iconst (v := nI 0) hx hb dL_likes_2 (by decide) ?_
  refine lv_aload_n hx hb dL_likes_3 rfl (lv_at hl 0 rfl) ?_
  refine lv_iload_n hx hb dL_likes_4 rfl (lv_at hl 1 rfl) ?_
  refine lv_iload_n hx hb dL_likes_5 rfl (lv_at hl 2 rfl) ?_
  refine lv_iload_n hx hb dL_likes_6 rfl (lv_at hl 3 rfl) ?_
  refine lv_iload hx hb dL_likes_7 (lv_at hl 4 rfl) ?_
  refine q_ctch (E := xA.cls) (own := RL) (name := xA.cls) (hh := [(0, 13, 16, 30), (0, 13, 20, 32)]) (vx_runV (rm := { frames := 7, cells := 1, slots := 6, locals := 104 }) (As := [.int (nI n), .int xt, .int xr, .int xl]) (rest := [.int (nI 0), .ref oa]) ⟨hx, hb, hml, hown, hts⟩ (m2_like_2b l hl9 D st z ol sn 0 T S Y G 0 P ch B hI n hg xt xr xl h1q h2q) (cwV 4 hts gL_likes_X2_like rfl rfl rfl (by decide +kernel) ⟨Nat.le_of_ble_eq_true rfl, Nat.le_of_ble_eq_true rfl⟩) (q_pVX (ci := 2) (q0 := 0) hP hK hT.1 hS (fun q h => Or.inl h) rfl rfl) rfl rfl hl.1 rfl (lv_room (Nat.le_of_ble_eq_true rfl)) dL_likes_9 ⟨Nat.le_of_ble_eq_true rfl, Nat.le_of_ble_eq_true rfl⟩) hS (fun q h => h.elim) hown htab (tableOf [(0, 13, 16, 30)]) ⟨0, 13, 20, 32⟩ (tableOf []) rfl (fun zz hz => by rw [List.mem_singleton.mp hz]; exact Or.inr ⟨by decide, xI.cls, hts _ (by decide +kernel), hT.2.1⟩) rfl (by decide) (hts (.classLink RL 32 xA.cls) (by decide +kernel)) (va_Nw.use rfl hT.1.c2) (fun q H locs hP hk hS => ?_)
  have hO := wI_kept hO (fun h => h) hk
  refine lv_astore (lv' := [(6, .ref q), (0, .ref (z.o)), (1, .int (nI n)), (2, .int xt), (3, .int xr), (4, .int xl), (5, .ref oa)]) hx hb dL_likes_20 hl (by decide) rfl (fun ls hl => ?_)
  refine lv_iconst (v := nI 2) hx hb dL_likes_22 (by decide) ?_
  exact hret _ _ _ _ _ (show OS z D sn T _ from ⟨ol, S, Y, G, P, ch, hol, hP⟩) (fun h => nomatch h) hO hS dL_likes_23
set_option maxHeartbeats 4000000 in
set_option maxRecDepth 100000 in
theorem K_like_2c (l : Launch) (hl9 : l.stackTraces = false) (D : va_G) (st : Nat → Nat) (z : Ad) (oa : Nat) (hoa : ¬ AX z oa) (hDX : va_D (fun _ => True) (wX z 0 0 0 f00 f00 f00 (fun _ => f00) 0 (0, 0, 0, 0) (fun _ => 0))) (g : Int32) (sn : Nat) (hsn : sn ≤ 6) (T : Nat → Int32) (B : Nat) (hI : Inv B T) (n : Nat) (hg : n < 8) (xt xr xl : Int32) (h1q : q_in (nI 1) (nI 20) xt = true) (h2q : q_in (nI 0) (nI 10) xr = true) (h3q : q_in (-20) (nI 20) xl = false) : k_H l yL_likes wsL_likes { frames := 8, cells := 1, slots := 6, locals := 129 } [.ref (z.o), .int (nI n), .int xt, .int xr, .int xl, .ref oa] st D z oa (OS z D sn T) g (nI 2) (CE 2 z D sn T T) (OE 2 0) := by
  refine k_goH (cc := cL_likes) (maxL := 7) (hh := [(0, 13, 16, 30), (0, 13, 20, 32)]) (lv0 := [(0, .ref (z.o)), (1, .int (nI n)), (2, .int xt), (3, .int xr), (4, .int xl), (5, .ref oa)]) (by decide) rfl (Nat.le_of_ble_eq_true rfl) rfl ?_
  intro p e s m args below meth c Q ls hx hb hml hts hown hC hO hK hT hl htab hret
  obtain ⟨ol, S, Y, G, P, ch, hol, hP⟩ := hC
  have hD := q_D2 (ws' := wX z ol sn 0 T S Y G 0 P ch) hDX rfl
  have hS : va_S (AXo z oa) s.heap s.heap [] := va_S.rf
  refine lv_aload hx hb dL_likes_0 (lv_at hl 5 rfl) ?_
  refine lv_iconst (v := nI 0) hx hb dL_likes_2 (by decide) ?_
  refine lv_aload_n hx hb dL_likes_3 rfl (lv_at hl 0 rfl) ?_
  refine lv_iload_n hx hb dL_likes_4 rfl (lv_at hl 1 rfl) ?_
  refine lv_iload_n hx hb dL_likes_5 rfl (lv_at hl 2 rfl) ?_
  refine lv_iload_n hx hb dL_likes_6 rfl (lv_at hl 3 rfl) ?_
  refine lv_iload hx hb dL_likes_7 (lv_at hl 4 rfl) ?_
  refine q_ctch (E := xA.cls) (own := RL) (name := xA.cls) (hh := [(0, 13, 16, 30), (0, 13, 20, 32)]) (vx_runV (rm := { frames := 7, cells := 1, slots := 6, locals := 104 }) (As := [.int (nI n), .int xt, .int xr, .int xl]) (rest := [.int (nI 0), .ref oa]) ⟨hx, hb, hml, hown, hts⟩ (m2_like_2c l hl9 D st z ol sn 0 T S Y G 0 P ch B hI n hg xt xr xl h1q h2q h3q) (cwV 4 hts gL_likes_X2_like rfl rfl rfl (by decide +kernel) ⟨Nat.le_of_ble_eq_true rfl, Nat.le_of_ble_eq_true rfl⟩) (q_pVX (ci := 2) (q0 := 0) hP hK hT.1 hS (fun q h => Or.inl h) rfl rfl) rfl rfl hl.1 rfl (lv_room (Nat.le_of_ble_eq_true rfl)) dL_likes_9 ⟨Nat.le_of_ble_eq_true rfl, Nat.le_of_ble_eq_true rfl⟩) hS (fun q h => h.elim) hown htab (tableOf [(0, 13, 16, 30)]) ⟨0, 13, 20, 32⟩ (tableOf []) rfl (fun zz hz => by rw [List.mem_singleton.mp hz]; exact Or.inr ⟨by decide, xI.cls, hts _ (by decide +kernel), hT.2.1⟩) rfl (by decide) (hts (.classLink RL 32 xA.cls) (by decide +kernel)) (va_Nw.use rfl hT.1.c2) (fun q H locs hP hk hS => ?_)
  have hO := wI_kept hO (fun h => h) hk
  refine lv_astore (lv' := [(6, .ref q), (0, .ref (z.o)), (1, .int (nI n)), (2, .int xt), (3, .int xr), (4, .int xl), (5, .ref oa)]) hx hb dL_likes_20 hl (by decide) rfl (fun ls hl => ?_)
  refine lv_iconst (v := nI 2) hx hb dL_likes_22 (by decide) ?_
  exact hret _ _ _ _ _ (show OS z D sn T _ from ⟨ol, S, Y, G, P, ch, hol, hP⟩) (fun h => nomatch h) hO hS dL_likes_23
