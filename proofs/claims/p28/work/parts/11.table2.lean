set_option maxHeartbeats 4000000 in
set_option maxRecDepth 100000 in
theorem m1_hasRoomFor (l : Launch) (D : va_G) (cI : ClassId) (a r k : Nat) (f : Nat → Int32) (t : Int32) (hk : k < 3) : q_I l yX1_hasRoomFor wsX1_hasRoomFor { frames := 0, cells := 0, slots := 0, locals := 0 } [.ref a, .int (nI k), .int t] (q_bp D (wT a r cI f) [(cI, .int)]) (fun v => v = g_hr f k t) (fun H => True) (fun _ => False) 0 0 := by
  refine q_goI (cc := cX1_hasRoomFor) (maxL := 3) (ty := .boolean) (lv0 := [(0, .ref a), (1, .int (nI k)), (2, .int t)]) (by decide) rfl (Nat.le_of_ble_eq_true rfl) rfl ?_
  intro p e s m args below meth c Q ls hx hb hml hts hown hP hK hl hret
  have hi1 : ∀ w ∈ wsX10, w ∈ wsX1_hasRoomFor := by decide +kernel
  have hfl11 := hts (.fieldLink RX1 11 "WhisperedPots$Table" "row" "[I") (by decide +kernel)
  have hS : va_S (fun _ => False) s.heap s.heap [] := va_S.rf
  refine lv_aload_n hx hb dX1_hasRoomFor_0 rfl (lv_at hl 0 rfl) ?_
  refine va_get (D := D) (ci := 1) (v := .ref r) (C := RX1) (T := TX1) (N := 1) hx hb hts hi1 hown hK hP 0 rfl rfl 0 (by decide) hfl11 (fun _ h9 => h9) rfl dX1_hasRoomFor_1 ?_
  refine lv_bipush (v := nI 75) hx hb dX1_hasRoomFor_4 (by decide) ?_
  refine lv_iload_n hx hb dX1_hasRoomFor_6 rfl (lv_at hl 1 rfl) ?_
  refine q_addN hx hb (75 + k) (by omega) dX1_hasRoomFor_7 ?_
  refine q_ld hx hb hK hP 1 0 rfl rfl (j := (75 + k)) (by omega) (by omega) rfl dX1_hasRoomFor_8 ?_
  refine lv_iload_n hx hb dX1_hasRoomFor_9 rfl (lv_at hl 2 rfl) ?_
  refine lv_iadd hx hb dX1_hasRoomFor_10 ?_
  refine lv_sipush (v := nI 200) hx hb dX1_hasRoomFor_11 (by decide) ?_
  refine lv_icmp_gt (tgt := 21) hx hb dX1_hasRoomFor_14 (by decide) (fun c1 => ?_) (fun c1 => ?_)
  ·
    refine lv_iconst (v := nI 0) hx hb dX1_hasRoomFor_21 (by decide) ?_
    refine hret _ _ _ _ _ (by first | rfl | decide) ?_ trivial hS dX1_hasRoomFor_22
    skip
    first | rfl | (simp only [g_hr, c1, ↓reduceIte]; done) | (simp only [g_hr, c1, ↓reduceIte]; rfl)
  ·
    refine lv_iconst (v := nI 1) hx hb dX1_hasRoomFor_17 (by decide) ?_
    refine lv_goto (tgt := 22) hx hb dX1_hasRoomFor_18 (by decide) ?_
    refine hret _ _ _ _ _ (by first | rfl | decide) ?_ trivial hS dX1_hasRoomFor_22
    skip
    first | rfl | (simp only [g_hr, c1, ↓reduceIte]; done) | (simp only [g_hr, c1, ↓reduceIte]; rfl)
set_option maxHeartbeats 4000000 in
set_option maxRecDepth 100000 in
theorem m1_potsWith (l : Launch) (D : va_G) (cI : ClassId) (a r g : Nat) (f : Nat → Int32) (hg : g < 8) (hO : ∀ k, k < 3 → Ok1 f k) : q_I l yX1_potsWith wsX1_potsWith { frames := 0, cells := 0, slots := 0, locals := 0 } [.ref a, .int (nI g)] (q_bp D (wT a r cI f) [(cI, .int)]) (fun v => v = g_mk f g 3) (fun H => True) (fun _ => False) 0 0 := by
  refine q_goI (cc := cX1_potsWith) (maxL := 4) (ty := .int) (lv0 := [(0, .ref a), (1, .int (nI g))]) (by decide) rfl (Nat.le_of_ble_eq_true rfl) rfl ?_
  intro p e s m args below meth c Q ls hx hb hml hts hown hP hK hl hret
  have hi1 : ∀ w ∈ wsX10, w ∈ wsX1_potsWith := by decide +kernel
  have hfl11 := hts (.fieldLink RX1 11 "WhisperedPots$Table" "row" "[I") (by decide +kernel)
  have hS : va_S (fun _ => False) s.heap s.heap [] := va_S.rf
  refine lv_iconst (v := nI 0) hx hb dX1_potsWith_0 (by decide) ?_
  refine lv_istore_n (lv' := [(2, .int (nI 0)), (0, .ref a), (1, .int (nI g))]) hx hb dX1_potsWith_1 rfl hl (by decide) rfl (fun ls hl => ?_)
  refine lv_iconst (v := nI 0) hx hb dX1_potsWith_2 (by decide) ?_
  refine lv_istore_n (lv' := [(3, .int (nI 0)), (2, .int (nI 0)), (0, .ref a), (1, .int (nI g))]) hx hb dX1_potsWith_3 rfl hl (by decide) rfl (fun ls hl => ?_)
  have LP : ∀ (n i : Nat)  (H : Heap) (locs : List Loc) (ls : Array Slot), i + n = 3 → va_P D vwCl (wT a r cI f) H → va_S (fun _ => False) s.heap H locs → lv_has ls 4 [(3, .int (nI i)), (2, .int (g_mk f g i)), (0, .ref a), (1, .int (nI g))] → W p l e { frames := 0, cells := 0, slots := 0, locals := 0 } s m args below meth c H locs 0 0 Q (F0 m 4 ls []) := by
    intro n
    induction n with
    | zero =>
      intro i  H locs ls hi  hP hS hl
      obtain rfl : i = 3 := by omega
      refine lv_iload_n hx hb dX1_potsWith_4 rfl (lv_at hl 0 rfl) ?_
      refine lv_iconst (v := nI 3) hx hb dX1_potsWith_5 (by decide) ?_
      refine q_geN (tgt := 34) hx hb (by omega) (by omega) dX1_potsWith_6 (by decide) (fun c1 => ?_) (fun c1 => absurd c1 (by omega))
      refine lv_iload_n hx hb dX1_potsWith_34 rfl (lv_at hl 1 rfl) ?_
      refine hret _ _ _ _ _ rfl ?_ trivial hS dX1_potsWith_35
      skip
      first | rfl | (simp only [g_mk, ↓reduceIte]; done) | (simp only [g_mk, ↓reduceIte]; rfl)
    | succ n ih =>
      intro i  H locs ls hi  hP hS hl
      refine lv_iload_n hx hb dX1_potsWith_4 rfl (lv_at hl 0 rfl) ?_
      refine lv_iconst (v := nI 3) hx hb dX1_potsWith_5 (by decide) ?_
      refine q_geN (tgt := 34) hx hb (by omega) (by omega) dX1_potsWith_6 (by decide) (fun c2 => absurd c2 (by omega)) (fun c2 => ?_)
      refine lv_aload_n hx hb dX1_potsWith_9 rfl (lv_at hl 2 rfl) ?_
      refine va_get (D := D) (ci := 1) (v := .ref r) (C := RX1) (T := TX1) (N := 1) hx hb hts hi1 hown hK hP 0 rfl rfl 0 (by decide) hfl11 (fun _ h9 => h9) rfl dX1_potsWith_10 ?_
      refine lv_bipush (v := nI 72) hx hb dX1_potsWith_13 (by decide) ?_
      refine lv_iload_n hx hb dX1_potsWith_15 rfl (lv_at hl 0 rfl) ?_
      refine q_addN hx hb (72 + i) (by omega) dX1_potsWith_16 ?_
      refine q_ld hx hb hK hP 1 0 rfl rfl (j := (72 + i)) (by omega) (by omega) rfl dX1_potsWith_17 ?_
      refine lv_iload_n hx hb dX1_potsWith_18 rfl (lv_at hl 3 rfl) ?_
      refine lv_icmp_ne (tgt := 28) hx hb dX1_potsWith_19 (by decide) (fun c3 => ?_) (fun c3 => ?_)
      ·
        refine lv_iinc (v := (nI (i + 1))) (lv' := [(3, .int (nI (i + 1))), (2, .int (g_mk f g i)), (0, .ref a), (1, .int (nI g))]) hx hb dX1_potsWith_28 hl (k := 0) rfl (q_inc i 1 (i + 1) (by omega)) (by decide) rfl (fun ls hl => ?_)
        refine lv_goto (tgt := 4) hx hb dX1_potsWith_31 (by decide) ?_
        have hq4 : (g_mk f g i) = (g_mk f g (i + 1)) := by
          skip
          simp only [g_mk, c3, ↓reduceIte]
        rw [hq4] at hl
        exact ih (i + 1) _ _ _ (by omega) hP hS (lv_sub hl [0, 1, 2, 3] rfl)
      ·
        refine lv_iload_n hx hb dX1_potsWith_22 rfl (lv_at hl 1 rfl) ?_
        refine lv_iconst (v := nI 1) hx hb dX1_potsWith_23 (by decide) ?_
        refine lv_iload_n hx hb dX1_potsWith_24 rfl (lv_at hl 0 rfl) ?_
        refine lv_ishl hx hb dX1_potsWith_25 ?_
        refine lv_ior hx hb dX1_potsWith_26 ?_
        refine lv_topi (fun x5 e5 => ?_)
        refine lv_istore_n (lv' := [(2, .int x5), (3, .int (nI i)), (0, .ref a), (1, .int (nI g))]) hx hb dX1_potsWith_27 rfl hl (by decide) rfl (fun ls hl => ?_)
        refine lv_iinc (v := (nI (i + 1))) (lv' := [(3, .int (nI (i + 1))), (2, .int x5), (0, .ref a), (1, .int (nI g))]) hx hb dX1_potsWith_28 hl (k := 1) rfl (q_inc i 1 (i + 1) (by omega)) (by decide) rfl (fun ls hl => ?_)
        refine lv_goto (tgt := 4) hx hb dX1_potsWith_31 (by decide) ?_
        have hq6 : x5 = (g_mk f g (i + 1)) := by
          subst e5
          simp only [g_mk, c3, ↓reduceIte]
        rw [hq6] at hl
        exact ih (i + 1) _ _ _ (by omega) hP hS (lv_sub hl [0, 1, 2, 3] rfl)
  exact LP 3 0  _ _ _ (by omega)  hP hS (lv_sub hl [0, 1, 2, 3] rfl)
set_option maxHeartbeats 4000000 in
set_option maxRecDepth 100000 in
theorem m1_sumOf (l : Launch) (D : va_G) (cI : ClassId) (a r b n0 : Nat) (f : Nat → Int32) (hb0 : b + n0 ≤ 138) : q_I l yX1_sumOf wsX1_sumOf { frames := 0, cells := 0, slots := 0, locals := 0 } [.ref a, .int (nI b), .int (nI n0)] (q_bp D (wT a r cI f) [(cI, .int)]) (fun v => v = g_sm f b n0) (fun H => True) (fun _ => False) 0 0 := by
  refine q_goI (cc := cX1_sumOf) (maxL := 5) (ty := .int) (lv0 := [(0, .ref a), (1, .int (nI b)), (2, .int (nI n0))]) (by decide) rfl (Nat.le_of_ble_eq_true rfl) rfl ?_
  intro p e s m args below meth c Q ls hx hb hml hts hown hP hK hl hret
  have hi1 : ∀ w ∈ wsX10, w ∈ wsX1_sumOf := by decide +kernel
  have hfl11 := hts (.fieldLink RX1 11 "WhisperedPots$Table" "row" "[I") (by decide +kernel)
  have hS : va_S (fun _ => False) s.heap s.heap [] := va_S.rf
  refine lv_iconst (v := nI 0) hx hb dX1_sumOf_0 (by decide) ?_
  refine lv_istore_n (lv' := [(3, .int (nI 0)), (0, .ref a), (1, .int (nI b)), (2, .int (nI n0))]) hx hb dX1_sumOf_1 rfl hl (by decide) rfl (fun ls hl => ?_)
  refine lv_iconst (v := nI 0) hx hb dX1_sumOf_2 (by decide) ?_
  refine lv_istore (lv' := [(4, .int (nI 0)), (3, .int (nI 0)), (0, .ref a), (1, .int (nI b)), (2, .int (nI n0))]) hx hb dX1_sumOf_3 hl (by decide) rfl (fun ls hl => ?_)
  have LP : ∀ (n i : Nat)  (H : Heap) (locs : List Loc) (ls : Array Slot), i + n = n0 → va_P D vwCl (wT a r cI f) H → va_S (fun _ => False) s.heap H locs → lv_has ls 5 [(4, .int (nI i)), (3, .int (g_sm f b i)), (0, .ref a), (1, .int (nI b)), (2, .int (nI n0))] → W p l e { frames := 0, cells := 0, slots := 0, locals := 0 } s m args below meth c H locs 0 0 Q (F0 m 5 ls []) := by
    intro n
    induction n with
    | zero =>
      intro i  H locs ls hi  hP hS hl
      obtain rfl : i = n0 := by omega
      refine lv_iload hx hb dX1_sumOf_5 (lv_at hl 0 rfl) ?_
      refine lv_iload_n hx hb dX1_sumOf_7 rfl (lv_at hl 4 rfl) ?_
      refine q_geN (tgt := 29) hx hb (by omega) (by omega) dX1_sumOf_8 (by decide) (fun c1 => ?_) (fun c1 => absurd c1 (by omega))
      refine lv_iload_n hx hb dX1_sumOf_29 rfl (lv_at hl 1 rfl) ?_
      refine hret _ _ _ _ _ rfl ?_ trivial hS dX1_sumOf_30
      skip
      first | rfl | (simp only [g_sm, ↓reduceIte]; done) | (simp only [g_sm, ↓reduceIte]; rfl)
    | succ n ih =>
      intro i  H locs ls hi  hP hS hl
      refine lv_iload hx hb dX1_sumOf_5 (lv_at hl 0 rfl) ?_
      refine lv_iload_n hx hb dX1_sumOf_7 rfl (lv_at hl 4 rfl) ?_
      refine q_geN (tgt := 29) hx hb (by omega) (by omega) dX1_sumOf_8 (by decide) (fun c2 => absurd c2 (by omega)) (fun c2 => ?_)
      refine lv_iload_n hx hb dX1_sumOf_11 rfl (lv_at hl 1 rfl) ?_
      refine lv_aload_n hx hb dX1_sumOf_12 rfl (lv_at hl 2 rfl) ?_
      refine va_get (D := D) (ci := 1) (v := .ref r) (C := RX1) (T := TX1) (N := 1) hx hb hts hi1 hown hK hP 0 rfl rfl 0 (by decide) hfl11 (fun _ h9 => h9) rfl dX1_sumOf_13 ?_
      refine lv_iload_n hx hb dX1_sumOf_16 rfl (lv_at hl 3 rfl) ?_
      refine lv_iload hx hb dX1_sumOf_17 (lv_at hl 0 rfl) ?_
      refine q_addN hx hb (b + i) (by omega) dX1_sumOf_19 ?_
      refine q_ld hx hb hK hP 1 0 rfl rfl (j := (b + i)) (by omega) (by omega) rfl dX1_sumOf_20 ?_
      refine lv_iadd hx hb dX1_sumOf_21 ?_
      refine lv_topi (fun x3 e3 => ?_)
      refine lv_istore_n (lv' := [(3, .int x3), (4, .int (nI i)), (0, .ref a), (1, .int (nI b)), (2, .int (nI n0))]) hx hb dX1_sumOf_22 rfl hl (by decide) rfl (fun ls hl => ?_)
      refine lv_iinc (v := (nI (i + 1))) (lv' := [(4, .int (nI (i + 1))), (3, .int x3), (0, .ref a), (1, .int (nI b)), (2, .int (nI n0))]) hx hb dX1_sumOf_23 hl (k := 1) rfl (q_inc i 1 (i + 1) (by omega)) (by decide) rfl (fun ls hl => ?_)
      refine lv_goto (tgt := 5) hx hb dX1_sumOf_26 (by decide) ?_
      have hq4 : x3 = (g_sm f b (i + 1)) := by
        subst e3
        rfl
      rw [hq4] at hl
      exact ih (i + 1) _ _ _ (by omega) hP hS (lv_sub hl [0, 1, 2, 3, 4] rfl)
  exact LP (n0 - 0) 0  _ _ _ (by omega)  hP hS (lv_sub hl [0, 1, 2, 3, 4] rfl)
set_option maxHeartbeats 4000000 in
set_option maxRecDepth 100000 in
theorem m1_sumOverGuests (l : Launch) (D : va_G) (cI : ClassId) (a r b : Nat) (f : Nat → Int32) (hb0 : b + 8 ≤ 138) : q_I l yX1_sumOverGuests wsX1_sumOverGuests { frames := 1, cells := 0, slots := 0, locals := 24 } [.ref a, .int (nI b)] (q_bp D (wT a r cI f) [(cI, .int)]) (fun v => v = g_sm f b 8) (fun H => True) (fun _ => False) 0 0 := by
  refine q_goI (cc := cX1_sumOverGuests) (maxL := 2) (ty := .int) (lv0 := [(0, .ref a), (1, .int (nI b))]) (by decide) rfl (Nat.le_of_ble_eq_true rfl) rfl ?_
  intro p e s m args below meth c Q ls hx hb hml hts hown hP hK hl hret
  have hi1 : ∀ w ∈ wsX10, w ∈ wsX1_sumOverGuests := by decide +kernel
  have hfl11 := hts (.fieldLink RX1 11 "WhisperedPots$Table" "row" "[I") (by decide +kernel)
  have hS : va_S (fun _ => False) s.heap s.heap [] := va_S.rf
  refine lv_aload_n hx hb dX1_sumOverGuests_0 rfl (lv_at hl 0 rfl) ?_
  refine lv_iload_n hx hb dX1_sumOverGuests_1 rfl (lv_at hl 1 rfl) ?_
  refine lv_bipush (v := nI 8) hx hb dX1_sumOverGuests_2 (by decide) ?_
  refine q_ciR (va_runV (rm := { frames := 0, cells := 0, slots := 0, locals := 0 }) (As := [.int (nI b), .int (nI 8)]) (rest := []) ⟨hx, hb, hml, hown, hts⟩ (m1_sumOf l D cI a r b 8 f (by omega)) (cwV 2 hts gX1_sumOverGuests_X1_sumOf rfl rfl rfl (by decide +kernel) ⟨Nat.le_of_ble_eq_true rfl, Nat.le_of_ble_eq_true rfl⟩) (q_pV (ci := 1) (q0 := 0) hP hK rfl rfl) rfl rfl hl.1 rfl (lv_room (Nat.le_of_ble_eq_true rfl)) dX1_sumOverGuests_4 ⟨Nat.le_of_ble_eq_true rfl, Nat.le_of_ble_eq_true rfl⟩) hP hS (fun x1 H locs e1 hP hS => ?_)
  have e1 : x1 = g_sm f b 8 := e1
  refine hret _ _ _ _ _ rfl ?_ trivial hS dX1_sumOverGuests_7
  subst e1
  first | rfl | (simp only [g_sm, ↓reduceIte]; done) | (simp only [g_sm, ↓reduceIte]; rfl)
set_option maxHeartbeats 4000000 in
set_option maxRecDepth 100000 in
theorem m1_teaInPots (l : Launch) (D : va_G) (cI : ClassId) (a r : Nat) (f : Nat → Int32) : q_I l yX1_teaInPots wsX1_teaInPots { frames := 1, cells := 0, slots := 0, locals := 24 } [.ref a] (q_bp D (wT a r cI f) [(cI, .int)]) (fun v => v = g_sm f 75 3) (fun H => True) (fun _ => False) 0 0 := by
  refine q_goI (cc := cX1_teaInPots) (maxL := 1) (ty := .int) (lv0 := [(0, .ref a)]) (by decide) rfl (Nat.le_of_ble_eq_true rfl) rfl ?_
  intro p e s m args below meth c Q ls hx hb hml hts hown hP hK hl hret
  have hi1 : ∀ w ∈ wsX10, w ∈ wsX1_teaInPots := by decide +kernel
  have hfl11 := hts (.fieldLink RX1 11 "WhisperedPots$Table" "row" "[I") (by decide +kernel)
  have hS : va_S (fun _ => False) s.heap s.heap [] := va_S.rf
  refine lv_aload_n hx hb dX1_teaInPots_0 rfl (lv_at hl 0 rfl) ?_
  refine lv_bipush (v := nI 75) hx hb dX1_teaInPots_1 (by decide) ?_
  refine lv_iconst (v := nI 3) hx hb dX1_teaInPots_3 (by decide) ?_
  refine q_ciR (va_runV (rm := { frames := 0, cells := 0, slots := 0, locals := 0 }) (As := [.int (nI 75), .int (nI 3)]) (rest := []) ⟨hx, hb, hml, hown, hts⟩ (m1_sumOf l D cI a r 75 3 f (by omega)) (cwV 2 hts gX1_teaInPots_X1_sumOf rfl rfl rfl (by decide +kernel) ⟨Nat.le_of_ble_eq_true rfl, Nat.le_of_ble_eq_true rfl⟩) (q_pV (ci := 1) (q0 := 0) hP hK rfl rfl) rfl rfl hl.1 rfl (lv_room (Nat.le_of_ble_eq_true rfl)) dX1_teaInPots_4 ⟨Nat.le_of_ble_eq_true rfl, Nat.le_of_ble_eq_true rfl⟩) hP hS (fun x1 H locs e1 hP hS => ?_)
  have e1 : x1 = g_sm f 75 3 := e1
  refine hret _ _ _ _ _ rfl ?_ trivial hS dX1_teaInPots_7
  subst e1
  first | rfl | (simp only [g_sm, ↓reduceIte]; done) | (simp only [g_sm, ↓reduceIte]; rfl)
set_option maxHeartbeats 4000000 in
set_option maxRecDepth 100000 in
theorem m1_brewedSoFar (l : Launch) (D : va_G) (cI : ClassId) (a r : Nat) (f : Nat → Int32) : q_I l yX1_brewedSoFar wsX1_brewedSoFar { frames := 1, cells := 0, slots := 0, locals := 24 } [.ref a] (q_bp D (wT a r cI f) [(cI, .int)]) (fun v => v = g_sm f 81 3) (fun H => True) (fun _ => False) 0 0 := by
  refine q_goI (cc := cX1_brewedSoFar) (maxL := 1) (ty := .int) (lv0 := [(0, .ref a)]) (by decide) rfl (Nat.le_of_ble_eq_true rfl) rfl ?_
  intro p e s m args below meth c Q ls hx hb hml hts hown hP hK hl hret
  have hi1 : ∀ w ∈ wsX10, w ∈ wsX1_brewedSoFar := by decide +kernel
  have hfl11 := hts (.fieldLink RX1 11 "WhisperedPots$Table" "row" "[I") (by decide +kernel)
  have hS : va_S (fun _ => False) s.heap s.heap [] := va_S.rf
  refine lv_aload_n hx hb dX1_brewedSoFar_0 rfl (lv_at hl 0 rfl) ?_
  refine lv_bipush (v := nI 81) hx hb dX1_brewedSoFar_1 (by decide) ?_
  refine lv_iconst (v := nI 3) hx hb dX1_brewedSoFar_3 (by decide) ?_
  refine q_ciR (va_runV (rm := { frames := 0, cells := 0, slots := 0, locals := 0 }) (As := [.int (nI 81), .int (nI 3)]) (rest := []) ⟨hx, hb, hml, hown, hts⟩ (m1_sumOf l D cI a r 81 3 f (by omega)) (cwV 2 hts gX1_brewedSoFar_X1_sumOf rfl rfl rfl (by decide +kernel) ⟨Nat.le_of_ble_eq_true rfl, Nat.le_of_ble_eq_true rfl⟩) (q_pV (ci := 1) (q0 := 0) hP hK rfl rfl) rfl rfl hl.1 rfl (lv_room (Nat.le_of_ble_eq_true rfl)) dX1_brewedSoFar_4 ⟨Nat.le_of_ble_eq_true rfl, Nat.le_of_ble_eq_true rfl⟩) hP hS (fun x1 H locs e1 hP hS => ?_)
  have e1 : x1 = g_sm f 81 3 := e1
  refine hret _ _ _ _ _ rfl ?_ trivial hS dX1_brewedSoFar_7
  subst e1
  first | rfl | (simp only [g_sm, ↓reduceIte]; done) | (simp only [g_sm, ↓reduceIte]; rfl)
set_option maxHeartbeats 4000000 in
set_option maxRecDepth 100000 in
theorem m1_handedSoFar (l : Launch) (D : va_G) (cI : ClassId) (a r : Nat) (f : Nat → Int32) : q_I l yX1_handedSoFar wsX1_handedSoFar { frames := 1, cells := 0, slots := 0, locals := 24 } [.ref a] (q_bp D (wT a r cI f) [(cI, .int)]) (fun v => v = g_sm f 84 3) (fun H => True) (fun _ => False) 0 0 := by
  refine q_goI (cc := cX1_handedSoFar) (maxL := 1) (ty := .int) (lv0 := [(0, .ref a)]) (by decide) rfl (Nat.le_of_ble_eq_true rfl) rfl ?_
  intro p e s m args below meth c Q ls hx hb hml hts hown hP hK hl hret
  have hi1 : ∀ w ∈ wsX10, w ∈ wsX1_handedSoFar := by decide +kernel
  have hfl11 := hts (.fieldLink RX1 11 "WhisperedPots$Table" "row" "[I") (by decide +kernel)
  have hS : va_S (fun _ => False) s.heap s.heap [] := va_S.rf
  refine lv_aload_n hx hb dX1_handedSoFar_0 rfl (lv_at hl 0 rfl) ?_
  refine lv_bipush (v := nI 84) hx hb dX1_handedSoFar_1 (by decide) ?_
  refine lv_iconst (v := nI 3) hx hb dX1_handedSoFar_3 (by decide) ?_
  refine q_ciR (va_runV (rm := { frames := 0, cells := 0, slots := 0, locals := 0 }) (As := [.int (nI 84), .int (nI 3)]) (rest := []) ⟨hx, hb, hml, hown, hts⟩ (m1_sumOf l D cI a r 84 3 f (by omega)) (cwV 2 hts gX1_handedSoFar_X1_sumOf rfl rfl rfl (by decide +kernel) ⟨Nat.le_of_ble_eq_true rfl, Nat.le_of_ble_eq_true rfl⟩) (q_pV (ci := 1) (q0 := 0) hP hK rfl rfl) rfl rfl hl.1 rfl (lv_room (Nat.le_of_ble_eq_true rfl)) dX1_handedSoFar_4 ⟨Nat.le_of_ble_eq_true rfl, Nat.le_of_ble_eq_true rfl⟩) hP hS (fun x1 H locs e1 hP hS => ?_)
  have e1 : x1 = g_sm f 84 3 := e1
  refine hret _ _ _ _ _ rfl ?_ trivial hS dX1_handedSoFar_7
  subst e1
  first | rfl | (simp only [g_sm, ↓reduceIte]; done) | (simp only [g_sm, ↓reduceIte]; rfl)
set_option maxHeartbeats 4000000 in
set_option maxRecDepth 100000 in
theorem m1_teaByAccounts (l : Launch) (D : va_G) (cI : ClassId) (a r : Nat) (f : Nat → Int32) : q_I l yX1_teaByAccounts wsX1_teaByAccounts { frames := 2, cells := 0, slots := 0, locals := 45 } [.ref a] (q_bp D (wT a r cI f) [(cI, .int)]) (fun v => v = g_sm f 81 3 - g_sm f 48 8 - g_sm f 56 8) (fun H => True) (fun _ => False) 0 0 := by
  refine q_goI (cc := cX1_teaByAccounts) (maxL := 1) (ty := .int) (lv0 := [(0, .ref a)]) (by decide) rfl (Nat.le_of_ble_eq_true rfl) rfl ?_
  intro p e s m args below meth c Q ls hx hb hml hts hown hP hK hl hret
  have hi1 : ∀ w ∈ wsX10, w ∈ wsX1_teaByAccounts := by decide +kernel
  have hfl11 := hts (.fieldLink RX1 11 "WhisperedPots$Table" "row" "[I") (by decide +kernel)
  have hS : va_S (fun _ => False) s.heap s.heap [] := va_S.rf
  refine lv_aload_n hx hb dX1_teaByAccounts_0 rfl (lv_at hl 0 rfl) ?_
  refine q_ciR (va_runV (rm := { frames := 1, cells := 0, slots := 0, locals := 24 }) (As := []) (rest := []) ⟨hx, hb, hml, hown, hts⟩ (m1_brewedSoFar l D cI a r f) (cwV 0 hts gX1_teaByAccounts_X1_brewedSoFar rfl rfl rfl (by decide +kernel) ⟨Nat.le_of_ble_eq_true rfl, Nat.le_of_ble_eq_true rfl⟩) (q_pV (ci := 1) (q0 := 0) hP hK rfl rfl) rfl rfl hl.1 rfl (lv_room (Nat.le_of_ble_eq_true rfl)) dX1_teaByAccounts_1 ⟨Nat.le_of_ble_eq_true rfl, Nat.le_of_ble_eq_true rfl⟩) hP hS (fun x1 H locs e1 hP hS => ?_)
  have e1 : x1 = g_sm f 81 3 := e1
  refine lv_aload_n hx hb dX1_teaByAccounts_4 rfl (lv_at hl 0 rfl) ?_
  refine lv_bipush (v := nI 48) hx hb dX1_teaByAccounts_5 (by decide) ?_
  refine q_ciR (va_runV (rm := { frames := 1, cells := 0, slots := 0, locals := 24 }) (As := [.int (nI 48)]) (rest := [.int x1]) ⟨hx, hb, hml, hown, hts⟩ (m1_sumOverGuests l D cI a r 48 f (by omega)) (cwV 1 hts gX1_teaByAccounts_X1_sumOverGuests rfl rfl rfl (by decide +kernel) ⟨Nat.le_of_ble_eq_true rfl, Nat.le_of_ble_eq_true rfl⟩) (q_pV (ci := 1) (q0 := 0) hP hK rfl rfl) rfl rfl hl.1 rfl (lv_room (Nat.le_of_ble_eq_true rfl)) dX1_teaByAccounts_7 ⟨Nat.le_of_ble_eq_true rfl, Nat.le_of_ble_eq_true rfl⟩) hP hS (fun x2 H locs e2 hP hS => ?_)
  have e2 : x2 = g_sm f 48 8 := e2
  refine lv_isub hx hb dX1_teaByAccounts_10 ?_
  refine lv_aload_n hx hb dX1_teaByAccounts_11 rfl (lv_at hl 0 rfl) ?_
  refine lv_bipush (v := nI 56) hx hb dX1_teaByAccounts_12 (by decide) ?_
  refine q_ciR (va_runV (rm := { frames := 1, cells := 0, slots := 0, locals := 24 }) (As := [.int (nI 56)]) (rest := [.int (x1 - x2)]) ⟨hx, hb, hml, hown, hts⟩ (m1_sumOverGuests l D cI a r 56 f (by omega)) (cwV 1 hts gX1_teaByAccounts_X1_sumOverGuests rfl rfl rfl (by decide +kernel) ⟨Nat.le_of_ble_eq_true rfl, Nat.le_of_ble_eq_true rfl⟩) (q_pV (ci := 1) (q0 := 0) hP hK rfl rfl) rfl rfl hl.1 rfl (lv_room (Nat.le_of_ble_eq_true rfl)) dX1_teaByAccounts_14 ⟨Nat.le_of_ble_eq_true rfl, Nat.le_of_ble_eq_true rfl⟩) hP hS (fun x3 H locs e3 hP hS => ?_)
  have e3 : x3 = g_sm f 56 8 := e3
  refine lv_isub hx hb dX1_teaByAccounts_17 ?_
  refine hret _ _ _ _ _ rfl ?_ trivial hS dX1_teaByAccounts_18
  subst e3 e2 e1
  first | rfl | (simp only [g_sm, ↓reduceIte]; done) | (simp only [g_sm, ↓reduceIte]; rfl)
set_option maxHeartbeats 4000000 in
set_option maxRecDepth 100000 in
theorem m1_drinkFrom (l : Launch) (D : va_G) (cI : ClassId) (a r g : Nat) (f : Nat → Int32) (hg : g < 8) (hne : a ≠ r) : q_I l yX1_drinkFrom wsX1_drinkFrom { frames := 1, cells := 0, slots := 0, locals := 34 } [.ref a, .int (nI g)] (q_bp D (wT a r cI f) [(cI, .int)]) (fun v => v = g_dr f g) (fun H => va_at D vwCl (r, .inl (cI, 138, .inl (g_drink f g))) H) (fun q => q = r) 0 0 := by
  refine q_goI (cc := cX1_drinkFrom) (maxL := 3) (ty := .int) (lv0 := [(0, .ref a), (1, .int (nI g))]) (by decide) rfl (Nat.le_of_ble_eq_true rfl) rfl ?_
  intro p e s m args below meth c Q ls hx hb hml hts hown hP hK hl hret
  have hi1 : ∀ w ∈ wsX10, w ∈ wsX1_drinkFrom := by decide +kernel
  have hfl11 := hts (.fieldLink RX1 11 "WhisperedPots$Table" "row" "[I") (by decide +kernel)
  have hS : va_S (fun q => q = r) s.heap s.heap [] := va_S.rf
  have hD : va_D (fun _ => True) (wT a r cI f) := q_dT hne
  refine lv_aload_n hx hb dX1_drinkFrom_0 rfl (lv_at hl 0 rfl) ?_
  refine va_get (D := D) (ci := 1) (v := .ref r) (C := RX1) (T := TX1) (N := 1) hx hb hts hi1 hown hK hP 0 rfl rfl 0 (by decide) hfl11 (fun _ h9 => h9) rfl dX1_drinkFrom_1 ?_
  refine lv_bipush (v := nI 16) hx hb dX1_drinkFrom_4 (by decide) ?_
  refine lv_iload_n hx hb dX1_drinkFrom_6 rfl (lv_at hl 1 rfl) ?_
  refine q_addN hx hb (16 + g) (by omega) dX1_drinkFrom_7 ?_
  refine q_ld hx hb hK hP 1 0 rfl rfl (j := (16 + g)) (by omega) (by omega) rfl dX1_drinkFrom_8 ?_
  refine lv_aload_n hx hb dX1_drinkFrom_9 rfl (lv_at hl 0 rfl) ?_
  refine va_get (D := D) (ci := 1) (v := .ref r) (C := RX1) (T := TX1) (N := 1) hx hb hts hi1 hown hK hP 0 rfl rfl 0 (by decide) hfl11 (fun _ h9 => h9) rfl dX1_drinkFrom_10 ?_
  refine lv_bipush (v := nI 8) hx hb dX1_drinkFrom_13 (by decide) ?_
  refine lv_iload_n hx hb dX1_drinkFrom_15 rfl (lv_at hl 1 rfl) ?_
  refine q_addN hx hb (8 + g) (by omega) dX1_drinkFrom_16 ?_
  refine q_ld hx hb hK hP 1 0 rfl rfl (j := (8 + g)) (by omega) (by omega) rfl dX1_drinkFrom_17 ?_
  refine va_mmin hx hb (hml.trans hl.1.symm) hown (hts (.methodLink RX1 50 Lib.Math.min.name) (by decide +kernel)) (hts (.static Lib.Math.min.name) (by decide +kernel)) (hts (.initialized "java/lang/Math") (by decide +kernel)) (hts (.code Lib.Math.min.name Lib.Math.min.code 2 (some .int)) (by decide +kernel)) (Nat.le_of_ble_eq_true rfl) (Nat.le_of_ble_eq_true rfl) (Nat.zero_le _) (Nat.zero_le _) dX1_drinkFrom_18 ?_
  refine lv_topi (fun x1 e1 => ?_)
  refine lv_istore_n (lv' := [(2, .int x1), (0, .ref a), (1, .int (nI g))]) hx hb dX1_drinkFrom_21 rfl hl (by decide) rfl (fun ls hl => ?_)
  refine lv_aload_n hx hb dX1_drinkFrom_22 rfl (lv_at hl 1 rfl) ?_
  refine va_get (D := D) (ci := 1) (v := .ref r) (C := RX1) (T := TX1) (N := 1) hx hb hts hi1 hown hK hP 0 rfl rfl 0 (by decide) hfl11 (fun _ h9 => h9) rfl dX1_drinkFrom_23 ?_
  refine lv_bipush (v := nI 8) hx hb dX1_drinkFrom_26 (by decide) ?_
  refine lv_iload_n hx hb dX1_drinkFrom_28 rfl (lv_at hl 2 rfl) ?_
  refine q_addN hx hb (8 + g) (by omega) dX1_drinkFrom_29 ?_
  refine lv_dup2_11 hx hb dX1_drinkFrom_30 rfl rfl ?_
  refine q_ld hx hb hK hP 1 0 rfl rfl (j := (8 + g)) (by omega) (by omega) rfl dX1_drinkFrom_31 ?_
  refine lv_iload_n hx hb dX1_drinkFrom_32 rfl (lv_at hl 0 rfl) ?_
  refine lv_isub hx hb dX1_drinkFrom_33 ?_
  refine lv_topi (fun x2 e2 => ?_)
  refine q_st hx hb hK hP hD hS 1 0 rfl rfl rfl (j := (8 + g)) (by omega) (by omega) (fun g => wT a r cI g) (fun _ => rfl) dX1_drinkFrom_34 (fun H locs f3 hf3 hP hD hS => ?_)
  refine lv_aload_n hx hb dX1_drinkFrom_35 rfl (lv_at hl 1 rfl) ?_
  refine va_get (D := D) (ci := 1) (v := .ref r) (C := RX1) (T := TX1) (N := 1) hx hb hts hi1 hown hK hP 0 rfl rfl 0 (by decide) hfl11 (fun _ h9 => h9) rfl dX1_drinkFrom_36 ?_
  refine lv_bipush (v := nI 48) hx hb dX1_drinkFrom_39 (by decide) ?_
  refine lv_iload_n hx hb dX1_drinkFrom_41 rfl (lv_at hl 2 rfl) ?_
  refine q_addN hx hb (48 + g) (by omega) dX1_drinkFrom_42 ?_
  refine lv_dup2_11 hx hb dX1_drinkFrom_43 rfl rfl ?_
  refine q_ld hx hb hK hP 1 0 rfl rfl (j := (48 + g)) (by omega) (by omega) rfl dX1_drinkFrom_44 ?_
  refine lv_iload_n hx hb dX1_drinkFrom_45 rfl (lv_at hl 0 rfl) ?_
  refine lv_iadd hx hb dX1_drinkFrom_46 ?_
  refine lv_topi (fun x4 e4 => ?_)
  refine q_st hx hb hK hP hD hS 1 0 rfl rfl rfl (j := (48 + g)) (by omega) (by omega) (fun g => wT a r cI g) (fun _ => rfl) dX1_drinkFrom_47 (fun H locs f5 hf5 hP hD hS => ?_)
  refine lv_iload_n hx hb dX1_drinkFrom_48 rfl (lv_at hl 0 rfl) ?_
  have hE : f5 = g_drink f g := by
    subst hf5 e4 hf3 e2 e1
    first | rfl | (simp only [g_drink, g_dr, ↓reduceIte]; done) | (simp only [g_drink, g_dr, ↓reduceIte]; rfl)
  refine hret _ _ _ _ _ rfl ?_ (by rw [← hE]; exact hP 1 _ rfl) hS dX1_drinkFrom_49
  subst hf5 e4 hf3 e2 e1
  first | rfl | (simp only [g_drink, g_dr, ↓reduceIte]; done) | (simp only [g_drink, g_dr, ↓reduceIte]; rfl)
set_option maxHeartbeats 4000000 in
set_option maxRecDepth 100000 in
theorem m1_brewInto (l : Launch) (D : va_G) (cI : ClassId) (a r k : Nat) (f : Nat → Int32) (t : Int32) (hk : k < 3) (hne : a ≠ r) : q_I l yX1_brewInto wsX1_brewInto { frames := 0, cells := 0, slots := 0, locals := 0 } [.ref a, .int (nI k), .int t] (q_bp D (wT a r cI f) [(cI, .int)]) (fun v => v = g_brew f k t (75 + k)) (fun H => va_at D vwCl (r, .inl (cI, 138, .inl (g_brew f k t))) H) (fun q => q = r) 0 0 := by
  refine q_goI (cc := cX1_brewInto) (maxL := 3) (ty := .int) (lv0 := [(0, .ref a), (1, .int (nI k)), (2, .int t)]) (by decide) rfl (Nat.le_of_ble_eq_true rfl) rfl ?_
  intro p e s m args below meth c Q ls hx hb hml hts hown hP hK hl hret
  have hi1 : ∀ w ∈ wsX10, w ∈ wsX1_brewInto := by decide +kernel
  have hfl11 := hts (.fieldLink RX1 11 "WhisperedPots$Table" "row" "[I") (by decide +kernel)
  have hS : va_S (fun q => q = r) s.heap s.heap [] := va_S.rf
  have hD : va_D (fun _ => True) (wT a r cI f) := q_dT hne
  refine lv_aload_n hx hb dX1_brewInto_0 rfl (lv_at hl 0 rfl) ?_
  refine va_get (D := D) (ci := 1) (v := .ref r) (C := RX1) (T := TX1) (N := 1) hx hb hts hi1 hown hK hP 0 rfl rfl 0 (by decide) hfl11 (fun _ h9 => h9) rfl dX1_brewInto_1 ?_
  refine lv_bipush (v := nI 75) hx hb dX1_brewInto_4 (by decide) ?_
  refine lv_iload_n hx hb dX1_brewInto_6 rfl (lv_at hl 1 rfl) ?_
  refine q_addN hx hb (75 + k) (by omega) dX1_brewInto_7 ?_
  refine lv_dup2_11 hx hb dX1_brewInto_8 rfl rfl ?_
  refine q_ld hx hb hK hP 1 0 rfl rfl (j := (75 + k)) (by omega) (by omega) rfl dX1_brewInto_9 ?_
  refine lv_iload_n hx hb dX1_brewInto_10 rfl (lv_at hl 2 rfl) ?_
  refine lv_iadd hx hb dX1_brewInto_11 ?_
  refine lv_topi (fun x1 e1 => ?_)
  refine q_st hx hb hK hP hD hS 1 0 rfl rfl rfl (j := (75 + k)) (by omega) (by omega) (fun g => wT a r cI g) (fun _ => rfl) dX1_brewInto_12 (fun H locs f2 hf2 hP hD hS => ?_)
  refine lv_aload_n hx hb dX1_brewInto_13 rfl (lv_at hl 0 rfl) ?_
  refine va_get (D := D) (ci := 1) (v := .ref r) (C := RX1) (T := TX1) (N := 1) hx hb hts hi1 hown hK hP 0 rfl rfl 0 (by decide) hfl11 (fun _ h9 => h9) rfl dX1_brewInto_14 ?_
  refine lv_bipush (v := nI 81) hx hb dX1_brewInto_17 (by decide) ?_
  refine lv_iload_n hx hb dX1_brewInto_19 rfl (lv_at hl 1 rfl) ?_
  refine q_addN hx hb (81 + k) (by omega) dX1_brewInto_20 ?_
  refine lv_dup2_11 hx hb dX1_brewInto_21 rfl rfl ?_
  refine q_ld hx hb hK hP 1 0 rfl rfl (j := (81 + k)) (by omega) (by omega) rfl dX1_brewInto_22 ?_
  refine lv_iload_n hx hb dX1_brewInto_23 rfl (lv_at hl 2 rfl) ?_
  refine lv_iadd hx hb dX1_brewInto_24 ?_
  refine lv_topi (fun x3 e3 => ?_)
  refine q_st hx hb hK hP hD hS 1 0 rfl rfl rfl (j := (81 + k)) (by omega) (by omega) (fun g => wT a r cI g) (fun _ => rfl) dX1_brewInto_25 (fun H locs f4 hf4 hP hD hS => ?_)
  refine lv_aload_n hx hb dX1_brewInto_26 rfl (lv_at hl 0 rfl) ?_
  refine va_get (D := D) (ci := 1) (v := .ref r) (C := RX1) (T := TX1) (N := 1) hx hb hts hi1 hown hK hP 0 rfl rfl 0 (by decide) hfl11 (fun _ h9 => h9) rfl dX1_brewInto_27 ?_
  refine lv_bipush (v := nI 75) hx hb dX1_brewInto_30 (by decide) ?_
  refine lv_iload_n hx hb dX1_brewInto_32 rfl (lv_at hl 1 rfl) ?_
  refine q_addN hx hb (75 + k) (by omega) dX1_brewInto_33 ?_
  refine q_ld hx hb hK hP 1 0 rfl rfl (j := (75 + k)) (by omega) (by omega) rfl dX1_brewInto_34 ?_
  have hE : f4 = g_brew f k t := by
    subst hf4 e3 hf2 e1
    first | rfl | (simp only [g_brew, ↓reduceIte]; done) | (simp only [g_brew, ↓reduceIte]; rfl)
  refine hret _ _ _ _ _ rfl ?_ (by rw [← hE]; exact hP 1 _ rfl) hS dX1_brewInto_35
  subst hf4 e3 hf2 e1
  first | rfl | (simp only [g_brew, ↓reduceIte]; done) | (simp only [g_brew, ↓reduceIte]; rfl)
set_option maxHeartbeats 4000000 in
set_option maxRecDepth 100000 in
theorem m1_pourFrom (l : Launch) (D : va_G) (cI : ClassId) (a r k : Nat) (f : Nat → Int32) (hk : k < 3) (hO : Ok1 f k) (hne : a ≠ r) : q_I l yX1_pourFrom wsX1_pourFrom { frames := 3, cells := 0, slots := 0, locals := 69 } [.ref a, .int (nI k)] (q_bp D (wT a r cI f) [(cI, .int)]) (fun v => v = g_ov f k) (fun H => va_at D vwCl (r, .inl (cI, 138, .inl (g_pour f k))) H) (fun q => q = r) 0 0 := by
  refine q_goI (cc := cX1_pourFrom) (maxL := 5) (ty := .int) (lv0 := [(0, .ref a), (1, .int (nI k))]) (by decide) rfl (Nat.le_of_ble_eq_true rfl) rfl ?_
  intro p e s m args below meth c Q ls hx hb hml hts hown hP hK hl hret
  have hi1 : ∀ w ∈ wsX10, w ∈ wsX1_pourFrom := by decide +kernel
  have hfl11 := hts (.fieldLink RX1 11 "WhisperedPots$Table" "row" "[I") (by decide +kernel)
  have hS : va_S (fun q => q = r) s.heap s.heap [] := va_S.rf
  have hD : va_D (fun _ => True) (wT a r cI f) := q_dT hne
  have h8 := hO.2
  refine lv_aload_n hx hb dX1_pourFrom_0 rfl (lv_at hl 0 rfl) ?_
  refine va_get (D := D) (ci := 1) (v := .ref r) (C := RX1) (T := TX1) (N := 1) hx hb hts hi1 hown hK hP 0 rfl rfl 0 (by decide) hfl11 (fun _ h9 => h9) rfl dX1_pourFrom_1 ?_
  refine lv_bipush (v := nI 72) hx hb dX1_pourFrom_4 (by decide) ?_
  refine lv_iload_n hx hb dX1_pourFrom_6 rfl (lv_at hl 1 rfl) ?_
  refine q_addN hx hb (72 + k) (by omega) dX1_pourFrom_7 ?_
  refine q_ld hx hb hK hP 1 0 rfl rfl (j := (72 + k)) (v := (nI ((hN f k)))) (by omega) (by omega) hO.1 dX1_pourFrom_8 ?_
  refine lv_istore_n (lv' := [(2, .int (nI ((hN f k)))), (0, .ref a), (1, .int (nI k))]) hx hb dX1_pourFrom_9 rfl hl (by decide) rfl (fun ls hl => ?_)
  refine lv_aload_n hx hb dX1_pourFrom_10 rfl (lv_at hl 1 rfl) ?_
  refine lv_iload_n hx hb dX1_pourFrom_11 rfl (lv_at hl 2 rfl) ?_
  refine q_ciR (va_runV (rm := { frames := 2, cells := 0, slots := 0, locals := 44 }) (As := [.int (nI k)]) (rest := []) ⟨hx, hb, hml, hown, hts⟩ (m1_comesFrom l D cI a r k f hk hO) (cwV 1 hts gX1_pourFrom_X1_comesFrom rfl rfl rfl (by decide +kernel) ⟨Nat.le_of_ble_eq_true rfl, Nat.le_of_ble_eq_true rfl⟩) (q_pV (ci := 1) (q0 := 0) hP hK rfl rfl) rfl rfl hl.1 rfl (lv_room (Nat.le_of_ble_eq_true rfl)) dX1_pourFrom_12 ⟨Nat.le_of_ble_eq_true rfl, Nat.le_of_ble_eq_true rfl⟩) hP hS (fun x1 H locs e1 hP hS => ?_)
  have e1 : x1 = g_cm f k := e1
  refine lv_istore_n (lv' := [(3, .int x1), (2, .int (nI ((hN f k)))), (0, .ref a), (1, .int (nI k))]) hx hb dX1_pourFrom_15 rfl hl (by decide) rfl (fun ls hl => ?_)
  refine lv_iload_n hx hb dX1_pourFrom_16 rfl (lv_at hl 0 rfl) ?_
  refine lv_aload_n hx hb dX1_pourFrom_17 rfl (lv_at hl 2 rfl) ?_
  refine lv_iload_n hx hb dX1_pourFrom_18 rfl (lv_at hl 1 rfl) ?_
  refine q_ciR (va_runV (rm := { frames := 0, cells := 0, slots := 0, locals := 0 }) (As := [.int (nI ((hN f k)))]) (rest := [.int x1]) ⟨hx, hb, hml, hown, hts⟩ (m1_roomOf l D cI a r ((hN f k)) f (by omega)) (cwV 1 hts gX1_pourFrom_X1_roomOf rfl rfl rfl (by decide +kernel) ⟨Nat.le_of_ble_eq_true rfl, Nat.le_of_ble_eq_true rfl⟩) (q_pV (ci := 1) (q0 := 0) hP hK rfl rfl) rfl rfl hl.1 rfl (lv_room (Nat.le_of_ble_eq_true rfl)) dX1_pourFrom_19 ⟨Nat.le_of_ble_eq_true rfl, Nat.le_of_ble_eq_true rfl⟩) hP hS (fun x2 H locs e2 hP hS => ?_)
  have e2 : x2 = g_rm f ((hN f k)) := e2
  refine lv_isub hx hb dX1_pourFrom_22 ?_
  refine lv_iconst (v := nI 0) hx hb dX1_pourFrom_23 (by decide) ?_
  refine va_mmax hx hb (hml.trans hl.1.symm) hown (hts (.methodLink RX1 56 Lib.Math.max.name) (by decide +kernel)) (hts (.static Lib.Math.max.name) (by decide +kernel)) (hts (.initialized "java/lang/Math") (by decide +kernel)) (hts (.code Lib.Math.max.name Lib.Math.max.code 2 (some .int)) (by decide +kernel)) (Nat.le_of_ble_eq_true rfl) (Nat.le_of_ble_eq_true rfl) (Nat.zero_le _) (Nat.zero_le _) dX1_pourFrom_24 ?_
  refine lv_topi (fun x3 e3 => ?_)
  refine lv_istore (lv' := [(4, .int x3), (3, .int x1), (2, .int (nI ((hN f k)))), (0, .ref a), (1, .int (nI k))]) hx hb dX1_pourFrom_27 hl (by decide) rfl (fun ls hl => ?_)
  refine lv_aload_n hx hb dX1_pourFrom_29 rfl (lv_at hl 3 rfl) ?_
  refine va_get (D := D) (ci := 1) (v := .ref r) (C := RX1) (T := TX1) (N := 1) hx hb hts hi1 hown hK hP 0 rfl rfl 0 (by decide) hfl11 (fun _ h9 => h9) rfl dX1_pourFrom_30 ?_
  refine lv_bipush (v := nI 24) hx hb dX1_pourFrom_33 (by decide) ?_
  refine lv_iload_n hx hb dX1_pourFrom_35 rfl (lv_at hl 2 rfl) ?_
  refine q_addN hx hb (24 + (hN f k)) (by omega) dX1_pourFrom_36 ?_
  refine lv_aload_n hx hb dX1_pourFrom_37 rfl (lv_at hl 3 rfl) ?_
  refine lv_iload_n hx hb dX1_pourFrom_38 rfl (lv_at hl 4 rfl) ?_
  refine q_ciR (va_runV (rm := { frames := 1, cells := 0, slots := 0, locals := 34 }) (As := [.int (nI k)]) (rest := [.int (nI (24 + (hN f k))), .ref r]) ⟨hx, hb, hml, hown, hts⟩ (m1_trustAfter l D cI a r k f hk hO) (cwV 1 hts gX1_pourFrom_X1_trustAfter rfl rfl rfl (by decide +kernel) ⟨Nat.le_of_ble_eq_true rfl, Nat.le_of_ble_eq_true rfl⟩) (q_pV (ci := 1) (q0 := 0) hP hK rfl rfl) rfl rfl hl.1 rfl (lv_room (Nat.le_of_ble_eq_true rfl)) dX1_pourFrom_39 ⟨Nat.le_of_ble_eq_true rfl, Nat.le_of_ble_eq_true rfl⟩) hP hS (fun x4 H locs e4 hP hS => ?_)
  have e4 : x4 = g_tr f k := e4
  refine q_st hx hb hK hP hD hS 1 0 rfl rfl rfl (j := (24 + (hN f k))) (by omega) (by omega) (fun g => wT a r cI g) (fun _ => rfl) dX1_pourFrom_42 (fun H locs f5 hf5 hP hD hS => ?_)
  refine lv_aload_n hx hb dX1_pourFrom_43 rfl (lv_at hl 3 rfl) ?_
  refine va_get (D := D) (ci := 1) (v := .ref r) (C := RX1) (T := TX1) (N := 1) hx hb hts hi1 hown hK hP 0 rfl rfl 0 (by decide) hfl11 (fun _ h9 => h9) rfl dX1_pourFrom_44 ?_
  refine lv_bipush (v := nI 75) hx hb dX1_pourFrom_47 (by decide) ?_
  refine lv_iload_n hx hb dX1_pourFrom_49 rfl (lv_at hl 4 rfl) ?_
  refine q_addN hx hb (75 + k) (by omega) dX1_pourFrom_50 ?_
  refine lv_dup2_11 hx hb dX1_pourFrom_51 rfl rfl ?_
  refine q_ld hx hb hK hP 1 0 rfl rfl (j := (75 + k)) (by omega) (by omega) rfl dX1_pourFrom_52 ?_
  refine lv_iload_n hx hb dX1_pourFrom_53 rfl (lv_at hl 1 rfl) ?_
  refine lv_isub hx hb dX1_pourFrom_54 ?_
  refine lv_topi (fun x6 e6 => ?_)
  refine q_st hx hb hK hP hD hS 1 0 rfl rfl rfl (j := (75 + k)) (by omega) (by omega) (fun g => wT a r cI g) (fun _ => rfl) dX1_pourFrom_55 (fun H locs f7 hf7 hP hD hS => ?_)
  refine lv_aload_n hx hb dX1_pourFrom_56 rfl (lv_at hl 3 rfl) ?_
  refine va_get (D := D) (ci := 1) (v := .ref r) (C := RX1) (T := TX1) (N := 1) hx hb hts hi1 hown hK hP 0 rfl rfl 0 (by decide) hfl11 (fun _ h9 => h9) rfl dX1_pourFrom_57 ?_
  refine lv_bipush (v := nI 8) hx hb dX1_pourFrom_60 (by decide) ?_
  refine lv_iload_n hx hb dX1_pourFrom_62 rfl (lv_at hl 2 rfl) ?_
  refine q_addN hx hb (8 + (hN f k)) (by omega) dX1_pourFrom_63 ?_
  refine lv_dup2_11 hx hb dX1_pourFrom_64 rfl rfl ?_
  refine q_ld hx hb hK hP 1 0 rfl rfl (j := (8 + (hN f k))) (by omega) (by omega) rfl dX1_pourFrom_65 ?_
  refine lv_iload_n hx hb dX1_pourFrom_66 rfl (lv_at hl 1 rfl) ?_
  refine lv_iload hx hb dX1_pourFrom_67 (lv_at hl 0 rfl) ?_
  refine lv_isub hx hb dX1_pourFrom_69 ?_
  refine lv_iadd hx hb dX1_pourFrom_70 ?_
  refine lv_topi (fun x8 e8 => ?_)
  refine q_st hx hb hK hP hD hS 1 0 rfl rfl rfl (j := (8 + (hN f k))) (by omega) (by omega) (fun g => wT a r cI g) (fun _ => rfl) dX1_pourFrom_71 (fun H locs f9 hf9 hP hD hS => ?_)
  refine lv_aload_n hx hb dX1_pourFrom_72 rfl (lv_at hl 3 rfl) ?_
  refine va_get (D := D) (ci := 1) (v := .ref r) (C := RX1) (T := TX1) (N := 1) hx hb hts hi1 hown hK hP 0 rfl rfl 0 (by decide) hfl11 (fun _ h9 => h9) rfl dX1_pourFrom_73 ?_
  refine lv_bipush (v := nI 56) hx hb dX1_pourFrom_76 (by decide) ?_
  refine lv_iload_n hx hb dX1_pourFrom_78 rfl (lv_at hl 2 rfl) ?_
  refine q_addN hx hb (56 + (hN f k)) (by omega) dX1_pourFrom_79 ?_
  refine lv_dup2_11 hx hb dX1_pourFrom_80 rfl rfl ?_
  refine q_ld hx hb hK hP 1 0 rfl rfl (j := (56 + (hN f k))) (by omega) (by omega) rfl dX1_pourFrom_81 ?_
  refine lv_iload hx hb dX1_pourFrom_82 (lv_at hl 0 rfl) ?_
  refine lv_iadd hx hb dX1_pourFrom_84 ?_
  refine lv_topi (fun x10 e10 => ?_)
  refine q_st hx hb hK hP hD hS 1 0 rfl rfl rfl (j := (56 + (hN f k))) (by omega) (by omega) (fun g => wT a r cI g) (fun _ => rfl) dX1_pourFrom_85 (fun H locs f11 hf11 hP hD hS => ?_)
  refine lv_aload_n hx hb dX1_pourFrom_86 rfl (lv_at hl 3 rfl) ?_
  refine va_get (D := D) (ci := 1) (v := .ref r) (C := RX1) (T := TX1) (N := 1) hx hb hts hi1 hown hK hP 0 rfl rfl 0 (by decide) hfl11 (fun _ h9 => h9) rfl dX1_pourFrom_87 ?_
  refine lv_bipush (v := nI 64) hx hb dX1_pourFrom_90 (by decide) ?_
  refine lv_iload_n hx hb dX1_pourFrom_92 rfl (lv_at hl 2 rfl) ?_
  refine q_addN hx hb (64 + (hN f k)) (by omega) dX1_pourFrom_93 ?_
  refine lv_dup2_11 hx hb dX1_pourFrom_94 rfl rfl ?_
  refine q_ld hx hb hK hP 1 0 rfl rfl (j := (64 + (hN f k))) (by omega) (by omega) rfl dX1_pourFrom_95 ?_
  refine lv_iload_n hx hb dX1_pourFrom_96 rfl (lv_at hl 1 rfl) ?_
  refine lv_iadd hx hb dX1_pourFrom_97 ?_
  refine lv_topi (fun x12 e12 => ?_)
  refine q_st hx hb hK hP hD hS 1 0 rfl rfl rfl (j := (64 + (hN f k))) (by omega) (by omega) (fun g => wT a r cI g) (fun _ => rfl) dX1_pourFrom_98 (fun H locs f13 hf13 hP hD hS => ?_)
  refine lv_aload_n hx hb dX1_pourFrom_99 rfl (lv_at hl 3 rfl) ?_
  refine va_get (D := D) (ci := 1) (v := .ref r) (C := RX1) (T := TX1) (N := 1) hx hb hts hi1 hown hK hP 0 rfl rfl 0 (by decide) hfl11 (fun _ h9 => h9) rfl dX1_pourFrom_100 ?_
  refine lv_sipush (v := nI 136) hx hb dX1_pourFrom_103 (by decide) ?_
  refine lv_dup2_11 hx hb dX1_pourFrom_106 rfl rfl ?_
  refine q_ld hx hb hK hP 1 0 rfl rfl (j := 136) (by omega) (by omega) rfl dX1_pourFrom_107 ?_
  refine lv_iconst (v := nI 1) hx hb dX1_pourFrom_108 (by decide) ?_
  refine lv_iadd hx hb dX1_pourFrom_109 ?_
  refine lv_topi (fun x14 e14 => ?_)
  refine q_st hx hb hK hP hD hS 1 0 rfl rfl rfl (j := 136) (by omega) (by omega) (fun g => wT a r cI g) (fun _ => rfl) dX1_pourFrom_110 (fun H locs f15 hf15 hP hD hS => ?_)
  refine lv_iload hx hb dX1_pourFrom_111 (lv_at hl 0 rfl) ?_
  refine lv_if_le (tgt := 141) hx hb dX1_pourFrom_113 (by decide) (fun c16 => ?_) (fun c16 => ?_)
  ·
    refine lv_iload hx hb dX1_pourFrom_141 (lv_at hl 0 rfl) ?_
    have hE : f15 = g_pour f k := by
      subst hf15 e14 hf13 e12 hf11 e10 hf9 e8 hf7 e6 hf5 e4 e3 e2 e1
      first | rfl | (simp only [g_pour, g_pr6, g_ov, c16, ↓reduceIte]; done) | (simp only [g_pour, g_pr6, g_ov, c16, ↓reduceIte]; rfl)
    refine hret _ _ _ _ _ rfl ?_ (by rw [← hE]; exact hP 1 _ rfl) hS dX1_pourFrom_143
    subst hf15 e14 hf13 e12 hf11 e10 hf9 e8 hf7 e6 hf5 e4 e3 e2 e1
    first | rfl | (simp only [g_pour, g_pr6, g_ov, c16, ↓reduceIte]; done) | (simp only [g_pour, g_pr6, g_ov, c16, ↓reduceIte]; rfl)
  ·
    refine lv_aload_n hx hb dX1_pourFrom_116 rfl (lv_at hl 3 rfl) ?_
    refine va_get (D := D) (ci := 1) (v := .ref r) (C := RX1) (T := TX1) (N := 1) hx hb hts hi1 hown hK hP 0 rfl rfl 0 (by decide) hfl11 (fun _ h9 => h9) rfl dX1_pourFrom_117 ?_
    refine lv_bipush (v := nI 40) hx hb dX1_pourFrom_120 (by decide) ?_
    refine lv_iload_n hx hb dX1_pourFrom_122 rfl (lv_at hl 2 rfl) ?_
    refine q_addN hx hb (40 + (hN f k)) (by omega) dX1_pourFrom_123 ?_
    refine lv_dup2_11 hx hb dX1_pourFrom_124 rfl rfl ?_
    refine q_ld hx hb hK hP 1 0 rfl rfl (j := (40 + (hN f k))) (by omega) (by omega) rfl dX1_pourFrom_125 ?_
    refine lv_iconst (v := nI 1) hx hb dX1_pourFrom_126 (by decide) ?_
    refine lv_iadd hx hb dX1_pourFrom_127 ?_
    refine lv_topi (fun x17 e17 => ?_)
    refine q_st hx hb hK hP hD hS 1 0 rfl rfl rfl (j := (40 + (hN f k))) (by omega) (by omega) (fun g => wT a r cI g) (fun _ => rfl) dX1_pourFrom_128 (fun H locs f18 hf18 hP hD hS => ?_)
    refine lv_aload_n hx hb dX1_pourFrom_129 rfl (lv_at hl 3 rfl) ?_
    refine va_get (D := D) (ci := 1) (v := .ref r) (C := RX1) (T := TX1) (N := 1) hx hb hts hi1 hown hK hP 0 rfl rfl 0 (by decide) hfl11 (fun _ h9 => h9) rfl dX1_pourFrom_130 ?_
    refine lv_sipush (v := nI 137) hx hb dX1_pourFrom_133 (by decide) ?_
    refine lv_dup2_11 hx hb dX1_pourFrom_136 rfl rfl ?_
    refine q_ld hx hb hK hP 1 0 rfl rfl (j := 137) (by omega) (by omega) rfl dX1_pourFrom_137 ?_
    refine lv_iconst (v := nI 1) hx hb dX1_pourFrom_138 (by decide) ?_
    refine lv_iadd hx hb dX1_pourFrom_139 ?_
    refine lv_topi (fun x19 e19 => ?_)
    refine q_st hx hb hK hP hD hS 1 0 rfl rfl rfl (j := 137) (by omega) (by omega) (fun g => wT a r cI g) (fun _ => rfl) dX1_pourFrom_140 (fun H locs f20 hf20 hP hD hS => ?_)
    refine lv_iload hx hb dX1_pourFrom_141 (lv_at hl 0 rfl) ?_
    have hE : f20 = g_pour f k := by
      subst hf20 e19 hf18 e17 hf15 e14 hf13 e12 hf11 e10 hf9 e8 hf7 e6 hf5 e4 e3 e2 e1
      first | rfl | (simp only [g_pour, g_pr6, g_ov, c16, ↓reduceIte]; done) | (simp only [g_pour, g_pr6, g_ov, c16, ↓reduceIte]; rfl)
    refine hret _ _ _ _ _ rfl ?_ (by rw [← hE]; exact hP 1 _ rfl) hS dX1_pourFrom_143
    subst hf20 e19 hf18 e17 hf15 e14 hf13 e12 hf11 e10 hf9 e8 hf7 e6 hf5 e4 e3 e2 e1
    first | rfl | (simp only [g_pour, g_pr6, g_ov, c16, ↓reduceIte]; done) | (simp only [g_pour, g_pr6, g_ov, c16, ↓reduceIte]; rfl)

