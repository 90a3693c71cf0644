set_option maxHeartbeats 4000000 in
set_option maxRecDepth 100000 in
theorem m1_weightOf (l : Launch) (D : va_G) (cI : ClassId) (a r k : Nat) (f : Nat → Int32) (hk : k < 3) : q_I l yX1_weightOf wsX1_weightOf { frames := 0, cells := 0, slots := 0, locals := 0 } [.ref a, .int (nI k)] (q_bp D (wT a r cI f) [(cI, .int)]) (fun v => v = g_wt f k) (fun H => True) (fun _ => False) 0 0 := by
  refine q_goI (cc := cX1_weightOf) (maxL := 3) (ty := .int) (lv0 := [(0, .ref a), (1, .int (nI k))]) (by decide) rfl (Nat.le_of_ble_eq_true rfl) rfl ?_
  intro p e s m args below meth c Q ls hx hb hml hts hown hP hK hl hret
  have hi1 : ∀ w ∈ wsX10, w ∈ wsX1_weightOf := by decide +kernel
  have hfl11 := hts (.fieldLink RX1 11 "WhisperedPots$Table" "row" "[I") (by decide +kernel)
  have hS : va_S (fun _ => False) s.heap s.heap [] := va_S.rf
  refine lv_aload_n hx hb dX1_weightOf_0 rfl (lv_at hl 0 rfl) ?_
  refine va_get (D := D) (ci := 1) (v := .ref r) (C := RX1) (T := TX1) (N := 1) hx hb hts hi1 hown hK hP 0 rfl rfl 0 (by decide) hfl11 (fun _ h9 => h9) rfl dX1_weightOf_1 ?_
  refine lv_bipush (v := nI 75) hx hb dX1_weightOf_4 (by decide) ?_
  refine lv_iload_n hx hb dX1_weightOf_6 rfl (lv_at hl 1 rfl) ?_
  refine q_addN hx hb (75 + k) (by omega) dX1_weightOf_7 ?_
  refine q_ld hx hb hK hP 1 0 rfl rfl (j := (75 + k)) (by omega) (by omega) rfl dX1_weightOf_8 ?_
  refine lv_topi (fun x1 e1 => ?_)
  refine lv_istore_n (lv' := [(2, .int x1), (0, .ref a), (1, .int (nI k))]) hx hb dX1_weightOf_9 rfl hl (by decide) rfl (fun ls hl => ?_)
  refine lv_iload_n hx hb dX1_weightOf_10 rfl (lv_at hl 0 rfl) ?_
  refine lv_iload_n hx hb dX1_weightOf_11 rfl (lv_at hl 0 rfl) ?_
  refine lv_bipush (v := nI 20) hx hb dX1_weightOf_12 (by decide) ?_
  refine lv_irem hx hb dX1_weightOf_14 (by decide) ?_
  refine lv_isub hx hb dX1_weightOf_15 ?_
  refine hret _ _ _ _ _ rfl ?_ trivial hS dX1_weightOf_16
  subst e1
  first | rfl | (simp only [g_wt, ↓reduceIte]; done) | (simp only [g_wt, ↓reduceIte]; rfl)
set_option maxHeartbeats 4000000 in
set_option maxRecDepth 100000 in
theorem m1_guessOf (l : Launch) (D : va_G) (cI : ClassId) (a r k : Nat) (f : Nat → Int32) (hk : k < 3) (hO : Ok1 f k) : q_I l yX1_guessOf wsX1_guessOf { frames := 1, cells := 0, slots := 0, locals := 22 } [.ref a, .int (nI k)] (q_bp D (wT a r cI f) [(cI, .int)]) (fun v => v = g_gs f k) (fun H => True) (fun _ => False) 0 0 := by
  refine q_goI (cc := cX1_guessOf) (maxL := 3) (ty := .int) (lv0 := [(0, .ref a), (1, .int (nI k))]) (by decide) rfl (Nat.le_of_ble_eq_true rfl) rfl ?_
  intro p e s m args below meth c Q ls hx hb hml hts hown hP hK hl hret
  have hi1 : ∀ w ∈ wsX10, w ∈ wsX1_guessOf := by decide +kernel
  have hfl11 := hts (.fieldLink RX1 11 "WhisperedPots$Table" "row" "[I") (by decide +kernel)
  have hS : va_S (fun _ => False) s.heap s.heap [] := va_S.rf
  have h8 := hO.2
  refine lv_aload_n hx hb dX1_guessOf_0 rfl (lv_at hl 0 rfl) ?_
  refine va_get (D := D) (ci := 1) (v := .ref r) (C := RX1) (T := TX1) (N := 1) hx hb hts hi1 hown hK hP 0 rfl rfl 0 (by decide) hfl11 (fun _ h9 => h9) rfl dX1_guessOf_1 ?_
  refine lv_bipush (v := nI 24) hx hb dX1_guessOf_4 (by decide) ?_
  refine lv_aload_n hx hb dX1_guessOf_6 rfl (lv_at hl 0 rfl) ?_
  refine va_get (D := D) (ci := 1) (v := .ref r) (C := RX1) (T := TX1) (N := 1) hx hb hts hi1 hown hK hP 0 rfl rfl 0 (by decide) hfl11 (fun _ h9 => h9) rfl dX1_guessOf_7 ?_
  refine lv_bipush (v := nI 72) hx hb dX1_guessOf_10 (by decide) ?_
  refine lv_iload_n hx hb dX1_guessOf_12 rfl (lv_at hl 1 rfl) ?_
  refine q_addN hx hb (72 + k) (by omega) dX1_guessOf_13 ?_
  refine q_ld hx hb hK hP 1 0 rfl rfl (j := (72 + k)) (v := (nI ((hN f k)))) (by omega) (by omega) hO.1 dX1_guessOf_14 ?_
  refine q_addN hx hb (24 + (hN f k)) (by omega) dX1_guessOf_15 ?_
  refine q_ld hx hb hK hP 1 0 rfl rfl (j := (24 + (hN f k))) (by omega) (by omega) rfl dX1_guessOf_16 ?_
  refine lv_topi (fun x1 e1 => ?_)
  refine lv_istore_n (lv' := [(2, .int x1), (0, .ref a), (1, .int (nI k))]) hx hb dX1_guessOf_17 rfl hl (by decide) rfl (fun ls hl => ?_)
  refine lv_aload_n hx hb dX1_guessOf_18 rfl (lv_at hl 1 rfl) ?_
  refine va_get (D := D) (ci := 1) (v := .ref r) (C := RX1) (T := TX1) (N := 1) hx hb hts hi1 hown hK hP 0 rfl rfl 0 (by decide) hfl11 (fun _ h9 => h9) rfl dX1_guessOf_19 ?_
  refine lv_bipush (v := nI 78) hx hb dX1_guessOf_22 (by decide) ?_
  refine lv_iload_n hx hb dX1_guessOf_24 rfl (lv_at hl 2 rfl) ?_
  refine q_addN hx hb (78 + k) (by omega) dX1_guessOf_25 ?_
  refine q_ld hx hb hK hP 1 0 rfl rfl (j := (78 + k)) (by omega) (by omega) rfl dX1_guessOf_26 ?_
  refine lv_iload_n hx hb dX1_guessOf_27 rfl (lv_at hl 0 rfl) ?_
  refine lv_imul hx hb dX1_guessOf_28 ?_
  refine lv_aload_n hx hb dX1_guessOf_29 rfl (lv_at hl 1 rfl) ?_
  refine lv_iload_n hx hb dX1_guessOf_30 rfl (lv_at hl 2 rfl) ?_
  refine q_ciR (va_runV (rm := { frames := 0, cells := 0, slots := 0, locals := 0 }) (As := [.int (nI k)]) (rest := [.int ((f (78 + k)) * x1)]) ⟨hx, hb, hml, hown, hts⟩ (m1_weightOf l D cI a r k f hk) (cwV 1 hts gX1_guessOf_X1_weightOf rfl rfl rfl (by decide +kernel) ⟨Nat.le_of_ble_eq_true rfl, Nat.le_of_ble_eq_true rfl⟩) (q_pV (ci := 1) (q0 := 0) hP hK rfl rfl) rfl rfl hl.1 rfl (lv_room (Nat.le_of_ble_eq_true rfl)) dX1_guessOf_31 ⟨Nat.le_of_ble_eq_true rfl, Nat.le_of_ble_eq_true rfl⟩) hP hS (fun x2 H locs e2 hP hS => ?_)
  have e2 : x2 = g_wt f k := e2
  refine lv_bipush (v := nI 10) hx hb dX1_guessOf_34 (by decide) ?_
  refine lv_iload_n hx hb dX1_guessOf_36 rfl (lv_at hl 0 rfl) ?_
  refine lv_isub hx hb dX1_guessOf_37 ?_
  refine lv_imul hx hb dX1_guessOf_38 ?_
  refine lv_iadd hx hb dX1_guessOf_39 ?_
  refine lv_bipush (v := nI 10) hx hb dX1_guessOf_40 (by decide) ?_
  refine lv_idiv hx hb dX1_guessOf_42 (by decide) ?_
  refine hret _ _ _ _ _ rfl ?_ trivial hS dX1_guessOf_43
  subst e2 e1
  first | rfl | (simp only [g_gs, ↓reduceIte]; done) | (simp only [g_gs, ↓reduceIte]; rfl)
set_option maxHeartbeats 4000000 in
set_option maxRecDepth 100000 in
theorem m1_roomOf (l : Launch) (D : va_G) (cI : ClassId) (a r g : Nat) (f : Nat → Int32) (hg : g < 8) : q_I l yX1_roomOf wsX1_roomOf { frames := 0, cells := 0, slots := 0, locals := 0 } [.ref a, .int (nI g)] (q_bp D (wT a r cI f) [(cI, .int)]) (fun v => v = g_rm f g) (fun H => True) (fun _ => False) 0 0 := by
  refine q_goI (cc := cX1_roomOf) (maxL := 2) (ty := .int) (lv0 := [(0, .ref a), (1, .int (nI g))]) (by decide) rfl (Nat.le_of_ble_eq_true rfl) rfl ?_
  intro p e s m args below meth c Q ls hx hb hml hts hown hP hK hl hret
  have hi1 : ∀ w ∈ wsX10, w ∈ wsX1_roomOf := by decide +kernel
  have hfl11 := hts (.fieldLink RX1 11 "WhisperedPots$Table" "row" "[I") (by decide +kernel)
  have hS : va_S (fun _ => False) s.heap s.heap [] := va_S.rf
  refine lv_aload_n hx hb dX1_roomOf_0 rfl (lv_at hl 0 rfl) ?_
  refine va_get (D := D) (ci := 1) (v := .ref r) (C := RX1) (T := TX1) (N := 1) hx hb hts hi1 hown hK hP 0 rfl rfl 0 (by decide) hfl11 (fun _ h9 => h9) rfl dX1_roomOf_1 ?_
  refine lv_iconst (v := nI 0) hx hb dX1_roomOf_4 (by decide) ?_
  refine lv_iload_n hx hb dX1_roomOf_5 rfl (lv_at hl 1 rfl) ?_
  refine q_addN hx hb g (by omega) dX1_roomOf_6 ?_
  refine q_ld hx hb hK hP 1 0 rfl rfl (j := g) (by omega) (by omega) rfl dX1_roomOf_7 ?_
  refine lv_aload_n hx hb dX1_roomOf_8 rfl (lv_at hl 0 rfl) ?_
  refine va_get (D := D) (ci := 1) (v := .ref r) (C := RX1) (T := TX1) (N := 1) hx hb hts hi1 hown hK hP 0 rfl rfl 0 (by decide) hfl11 (fun _ h9 => h9) rfl dX1_roomOf_9 ?_
  refine lv_bipush (v := nI 8) hx hb dX1_roomOf_12 (by decide) ?_
  refine lv_iload_n hx hb dX1_roomOf_14 rfl (lv_at hl 1 rfl) ?_
  refine q_addN hx hb (8 + g) (by omega) dX1_roomOf_15 ?_
  refine q_ld hx hb hK hP 1 0 rfl rfl (j := (8 + g)) (by omega) (by omega) rfl dX1_roomOf_16 ?_
  refine lv_isub hx hb dX1_roomOf_17 ?_
  refine hret _ _ _ _ _ rfl ?_ trivial hS dX1_roomOf_18
  skip
  first | rfl | (simp only [g_rm, ↓reduceIte]; done) | (simp only [g_rm, ↓reduceIte]; rfl)
set_option maxHeartbeats 4000000 in
set_option maxRecDepth 100000 in
theorem m1_whyNotPour (l : Launch) (D : va_G) (cI : ClassId) (a r k : Nat) (f : Nat → Int32) (hk : k < 3) (hO : Ok1 f k) : q_I l yX1_whyNotPour wsX1_whyNotPour { frames := 1, cells := 0, slots := 0, locals := 21 } [.ref a, .int (nI k)] (q_bp D (wT a r cI f) [(cI, .int)]) (fun v => v = g_wy f k) (fun H => True) (fun _ => False) 0 0 := by
  refine q_goI (cc := cX1_whyNotPour) (maxL := 2) (ty := .int) (lv0 := [(0, .ref a), (1, .int (nI k))]) (by decide) rfl (Nat.le_of_ble_eq_true rfl) rfl ?_
  intro p e s m args below meth c Q ls hx hb hml hts hown hP hK hl hret
  have hi1 : ∀ w ∈ wsX10, w ∈ wsX1_whyNotPour := by decide +kernel
  have hfl11 := hts (.fieldLink RX1 11 "WhisperedPots$Table" "row" "[I") (by decide +kernel)
  have hS : va_S (fun _ => False) s.heap s.heap [] := va_S.rf
  have h8 := hO.2
  refine lv_aload_n hx hb dX1_whyNotPour_0 rfl (lv_at hl 0 rfl) ?_
  refine va_get (D := D) (ci := 1) (v := .ref r) (C := RX1) (T := TX1) (N := 1) hx hb hts hi1 hown hK hP 0 rfl rfl 0 (by decide) hfl11 (fun _ h9 => h9) rfl dX1_whyNotPour_1 ?_
  refine lv_bipush (v := nI 75) hx hb dX1_whyNotPour_4 (by decide) ?_
  refine lv_iload_n hx hb dX1_whyNotPour_6 rfl (lv_at hl 1 rfl) ?_
  refine q_addN hx hb (75 + k) (by omega) dX1_whyNotPour_7 ?_
  refine q_ld hx hb hK hP 1 0 rfl rfl (j := (75 + k)) (by omega) (by omega) rfl dX1_whyNotPour_8 ?_
  refine lv_if_ne (tgt := 14) hx hb dX1_whyNotPour_9 (by decide) (fun c1 => ?_) (fun c1 => ?_)
  ·
    refine lv_aload_n hx hb dX1_whyNotPour_14 rfl (lv_at hl 0 rfl) ?_
    refine lv_aload_n hx hb dX1_whyNotPour_15 rfl (lv_at hl 0 rfl) ?_
    refine va_get (D := D) (ci := 1) (v := .ref r) (C := RX1) (T := TX1) (N := 1) hx hb hts hi1 hown hK hP 0 rfl rfl 0 (by decide) hfl11 (fun _ h9 => h9) rfl dX1_whyNotPour_16 ?_
    refine lv_bipush (v := nI 72) hx hb dX1_whyNotPour_19 (by decide) ?_
    refine lv_iload_n hx hb dX1_whyNotPour_21 rfl (lv_at hl 1 rfl) ?_
    refine q_addN hx hb (72 + k) (by omega) dX1_whyNotPour_22 ?_
    refine q_ld hx hb hK hP 1 0 rfl rfl (j := (72 + k)) (v := (nI ((hN f k)))) (by omega) (by omega) hO.1 dX1_whyNotPour_23 ?_
    refine q_ciR (va_runV (rm := { frames := 0, cells := 0, slots := 0, locals := 0 }) (As := [.int (nI ((hN f k)))]) (rest := []) ⟨hx, hb, hml, hown, hts⟩ (m1_roomOf l D cI a r ((hN f k)) f (by omega)) (cwV 1 hts gX1_whyNotPour_X1_roomOf rfl rfl rfl (by decide +kernel) ⟨Nat.le_of_ble_eq_true rfl, Nat.le_of_ble_eq_true rfl⟩) (q_pV (ci := 1) (q0 := 0) hP hK rfl rfl) rfl rfl hl.1 rfl (lv_room (Nat.le_of_ble_eq_true rfl)) dX1_whyNotPour_24 ⟨Nat.le_of_ble_eq_true rfl, Nat.le_of_ble_eq_true rfl⟩) hP hS (fun x2 H locs e2 hP hS => ?_)
    have e2 : x2 = g_rm f ((hN f k)) := e2
    refine lv_if_ne (tgt := 32) hx hb dX1_whyNotPour_27 (by decide) (fun c3 => ?_) (fun c3 => ?_)
    ·
      refine lv_iconst (v := nI 0) hx hb dX1_whyNotPour_32 (by decide) ?_
      refine hret _ _ _ _ _ rfl ?_ trivial hS dX1_whyNotPour_33
      subst e2
      first | rfl | (simp only [g_wy, c1, c3, ↓reduceIte]; done) | (simp only [g_wy, c1, c3, ↓reduceIte]; rfl)
    ·
      refine lv_iconst (v := nI 2) hx hb dX1_whyNotPour_30 (by decide) ?_
      refine hret _ _ _ _ _ rfl ?_ trivial hS dX1_whyNotPour_31
      subst e2
      first | rfl | (simp only [g_wy, c1, c3, ↓reduceIte]; done) | (simp only [g_wy, c1, c3, ↓reduceIte]; rfl)
  ·
    refine lv_iconst (v := nI 1) hx hb dX1_whyNotPour_12 (by decide) ?_
    refine hret _ _ _ _ _ rfl ?_ trivial hS dX1_whyNotPour_13
    skip
    first | rfl | (simp only [g_wy, c1, ↓reduceIte]; done) | (simp only [g_wy, c1, ↓reduceIte]; rfl)
set_option maxHeartbeats 4000000 in
set_option maxRecDepth 100000 in
theorem m1_comesFrom (l : Launch) (D : va_G) (cI : ClassId) (a r k : Nat) (f : Nat → Int32) (hk : k < 3) (hO : Ok1 f k) : q_I l yX1_comesFrom wsX1_comesFrom { frames := 2, cells := 0, slots := 0, locals := 44 } [.ref a, .int (nI k)] (q_bp D (wT a r cI f) [(cI, .int)]) (fun v => v = g_cm f k) (fun H => True) (fun _ => False) 0 0 := by
  refine q_goI (cc := cX1_comesFrom) (maxL := 6) (ty := .int) (lv0 := [(0, .ref a), (1, .int (nI k))]) (by decide) rfl (Nat.le_of_ble_eq_true rfl) rfl ?_
  intro p e s m args below meth c Q ls hx hb hml hts hown hP hK hl hret
  have hi1 : ∀ w ∈ wsX10, w ∈ wsX1_comesFrom := by decide +kernel
  have hfl11 := hts (.fieldLink RX1 11 "WhisperedPots$Table" "row" "[I") (by decide +kernel)
  have hS : va_S (fun _ => False) s.heap s.heap [] := va_S.rf
  have h8 := hO.2
  refine lv_aload_n hx hb dX1_comesFrom_0 rfl (lv_at hl 0 rfl) ?_
  refine va_get (D := D) (ci := 1) (v := .ref r) (C := RX1) (T := TX1) (N := 1) hx hb hts hi1 hown hK hP 0 rfl rfl 0 (by decide) hfl11 (fun _ h9 => h9) rfl dX1_comesFrom_1 ?_
  refine lv_bipush (v := nI 75) hx hb dX1_comesFrom_4 (by decide) ?_
  refine lv_iload_n hx hb dX1_comesFrom_6 rfl (lv_at hl 1 rfl) ?_
  refine q_addN hx hb (75 + k) (by omega) dX1_comesFrom_7 ?_
  refine q_ld hx hb hK hP 1 0 rfl rfl (j := (75 + k)) (by omega) (by omega) rfl dX1_comesFrom_8 ?_
  refine lv_topi (fun x1 e1 => ?_)
  refine lv_istore_n (lv' := [(2, .int x1), (0, .ref a), (1, .int (nI k))]) hx hb dX1_comesFrom_9 rfl hl (by decide) rfl (fun ls hl => ?_)
  refine lv_aload_n hx hb dX1_comesFrom_10 rfl (lv_at hl 1 rfl) ?_
  refine lv_iload_n hx hb dX1_comesFrom_11 rfl (lv_at hl 2 rfl) ?_
  refine q_ciR (va_runV (rm := { frames := 1, cells := 0, slots := 0, locals := 22 }) (As := [.int (nI k)]) (rest := []) ⟨hx, hb, hml, hown, hts⟩ (m1_guessOf l D cI a r k f hk hO) (cwV 1 hts gX1_comesFrom_X1_guessOf rfl rfl rfl (by decide +kernel) ⟨Nat.le_of_ble_eq_true rfl, Nat.le_of_ble_eq_true rfl⟩) (q_pV (ci := 1) (q0 := 0) hP hK rfl rfl) rfl rfl hl.1 rfl (lv_room (Nat.le_of_ble_eq_true rfl)) dX1_comesFrom_12 ⟨Nat.le_of_ble_eq_true rfl, Nat.le_of_ble_eq_true rfl⟩) hP hS (fun x2 H locs e2 hP hS => ?_)
  have e2 : x2 = g_gs f k := e2
  refine lv_istore_n (lv' := [(3, .int x2), (2, .int x1), (0, .ref a), (1, .int (nI k))]) hx hb dX1_comesFrom_15 rfl hl (by decide) rfl (fun ls hl => ?_)
  refine lv_iload_n hx hb dX1_comesFrom_16 rfl (lv_at hl 0 rfl) ?_
  refine lv_if_le (tgt := 24) hx hb dX1_comesFrom_17 (by decide) (fun c3 => ?_) (fun c3 => ?_)
  ·
    refine lv_iconst (v := nI 1) hx hb dX1_comesFrom_24 (by decide) ?_
    refine lv_istore (lv' := [(4, .int (nI 1)), (3, .int x2), (2, .int x1), (0, .ref a), (1, .int (nI k))]) hx hb dX1_comesFrom_25 hl (by decide) rfl (fun ls hl => ?_)
    refine lv_aload_n hx hb dX1_comesFrom_27 rfl (lv_at hl 3 rfl) ?_
    refine lv_aload_n hx hb dX1_comesFrom_28 rfl (lv_at hl 3 rfl) ?_
    refine va_get (D := D) (ci := 1) (v := .ref r) (C := RX1) (T := TX1) (N := 1) hx hb hts hi1 hown hK hP 0 rfl rfl 0 (by decide) hfl11 (fun _ h9 => h9) rfl dX1_comesFrom_29 ?_
    refine lv_bipush (v := nI 72) hx hb dX1_comesFrom_32 (by decide) ?_
    refine lv_iload_n hx hb dX1_comesFrom_34 rfl (lv_at hl 4 rfl) ?_
    refine q_addN hx hb (72 + k) (by omega) dX1_comesFrom_35 ?_
    refine q_ld hx hb hK hP 1 0 rfl rfl (j := (72 + k)) (v := (nI ((hN f k)))) (by omega) (by omega) hO.1 dX1_comesFrom_36 ?_
    refine q_ciR (va_runV (rm := { frames := 0, cells := 0, slots := 0, locals := 0 }) (As := [.int (nI ((hN f k)))]) (rest := []) ⟨hx, hb, hml, hown, hts⟩ (m1_roomOf l D cI a r ((hN f k)) f (by omega)) (cwV 1 hts gX1_comesFrom_X1_roomOf rfl rfl rfl (by decide +kernel) ⟨Nat.le_of_ble_eq_true rfl, Nat.le_of_ble_eq_true rfl⟩) (q_pV (ci := 1) (q0 := 0) hP hK rfl rfl) rfl rfl hl.1 rfl (lv_room (Nat.le_of_ble_eq_true rfl)) dX1_comesFrom_37 ⟨Nat.le_of_ble_eq_true rfl, Nat.le_of_ble_eq_true rfl⟩) hP hS (fun x4 H locs e4 hP hS => ?_)
    have e4 : x4 = g_rm f ((hN f k)) := e4
    refine lv_iload_n hx hb dX1_comesFrom_40 rfl (lv_at hl 2 rfl) ?_
    refine lv_imul hx hb dX1_comesFrom_41 ?_
    refine lv_iload hx hb dX1_comesFrom_42 (lv_at hl 0 rfl) ?_
    refine lv_idiv hx hb dX1_comesFrom_44 (by first | (exact fun q => c3 (by rw [q]; decide)) | decide) ?_
    refine lv_topi (fun x5 e5 => ?_)
    refine lv_istore (lv' := [(5, .int x5), (4, .int (nI 1)), (3, .int x2), (2, .int x1), (0, .ref a), (1, .int (nI k))]) hx hb dX1_comesFrom_45 hl (by decide) rfl (fun ls hl => ?_)
    refine lv_iload hx hb dX1_comesFrom_47 (lv_at hl 0 rfl) ?_
    refine lv_iload_n hx hb dX1_comesFrom_49 rfl (lv_at hl 3 rfl) ?_
    refine lv_icmp_ge (tgt := 58) hx hb dX1_comesFrom_50 (by decide) (fun c6 => ?_) (fun c6 => ?_)
    ·
      refine lv_iload_n hx hb dX1_comesFrom_58 rfl (lv_at hl 3 rfl) ?_
      refine hret _ _ _ _ _ rfl ?_ trivial hS dX1_comesFrom_59
      subst e5 e4 e2 e1
      first | rfl | (simp only [g_cm, g_c0, g_dv, c3, c6, ↓reduceIte]; done) | (simp only [g_cm, g_c0, g_dv, c3, c6, ↓reduceIte]; rfl)
    ·
      refine lv_iload hx hb dX1_comesFrom_53 (lv_at hl 0 rfl) ?_
      refine lv_goto (tgt := 59) hx hb dX1_comesFrom_55 (by decide) ?_
      refine hret _ _ _ _ _ rfl ?_ trivial hS dX1_comesFrom_59
      subst e5 e4 e2 e1
      first | rfl | (simp only [g_cm, g_c0, g_dv, c3, c6, ↓reduceIte]; done) | (simp only [g_cm, g_c0, g_dv, c3, c6, ↓reduceIte]; rfl)
  ·
    refine lv_iload_n hx hb dX1_comesFrom_20 rfl (lv_at hl 0 rfl) ?_
    refine lv_goto (tgt := 25) hx hb dX1_comesFrom_21 (by decide) ?_
    refine lv_istore (lv' := [(4, .int x2), (3, .int x2), (2, .int x1), (0, .ref a), (1, .int (nI k))]) hx hb dX1_comesFrom_25 hl (by decide) rfl (fun ls hl => ?_)
    refine lv_aload_n hx hb dX1_comesFrom_27 rfl (lv_at hl 3 rfl) ?_
    refine lv_aload_n hx hb dX1_comesFrom_28 rfl (lv_at hl 3 rfl) ?_
    refine va_get (D := D) (ci := 1) (v := .ref r) (C := RX1) (T := TX1) (N := 1) hx hb hts hi1 hown hK hP 0 rfl rfl 0 (by decide) hfl11 (fun _ h9 => h9) rfl dX1_comesFrom_29 ?_
    refine lv_bipush (v := nI 72) hx hb dX1_comesFrom_32 (by decide) ?_
    refine lv_iload_n hx hb dX1_comesFrom_34 rfl (lv_at hl 4 rfl) ?_
    refine q_addN hx hb (72 + k) (by omega) dX1_comesFrom_35 ?_
    refine q_ld hx hb hK hP 1 0 rfl rfl (j := (72 + k)) (v := (nI ((hN f k)))) (by omega) (by omega) hO.1 dX1_comesFrom_36 ?_
    refine q_ciR (va_runV (rm := { frames := 0, cells := 0, slots := 0, locals := 0 }) (As := [.int (nI ((hN f k)))]) (rest := []) ⟨hx, hb, hml, hown, hts⟩ (m1_roomOf l D cI a r ((hN f k)) f (by omega)) (cwV 1 hts gX1_comesFrom_X1_roomOf rfl rfl rfl (by decide +kernel) ⟨Nat.le_of_ble_eq_true rfl, Nat.le_of_ble_eq_true rfl⟩) (q_pV (ci := 1) (q0 := 0) hP hK rfl rfl) rfl rfl hl.1 rfl (lv_room (Nat.le_of_ble_eq_true rfl)) dX1_comesFrom_37 ⟨Nat.le_of_ble_eq_true rfl, Nat.le_of_ble_eq_true rfl⟩) hP hS (fun x7 H locs e7 hP hS => ?_)
    have e7 : x7 = g_rm f ((hN f k)) := e7
    refine lv_iload_n hx hb dX1_comesFrom_40 rfl (lv_at hl 2 rfl) ?_
    refine lv_imul hx hb dX1_comesFrom_41 ?_
    refine lv_iload hx hb dX1_comesFrom_42 (lv_at hl 0 rfl) ?_
    refine lv_idiv hx hb dX1_comesFrom_44 (by first | (exact fun q => c3 (by rw [q]; decide)) | decide) ?_
    refine lv_topi (fun x8 e8 => ?_)
    refine lv_istore (lv' := [(5, .int x8), (4, .int x2), (3, .int x2), (2, .int x1), (0, .ref a), (1, .int (nI k))]) hx hb dX1_comesFrom_45 hl (by decide) rfl (fun ls hl => ?_)
    refine lv_iload hx hb dX1_comesFrom_47 (lv_at hl 0 rfl) ?_
    refine lv_iload_n hx hb dX1_comesFrom_49 rfl (lv_at hl 3 rfl) ?_
    refine lv_icmp_ge (tgt := 58) hx hb dX1_comesFrom_50 (by decide) (fun c9 => ?_) (fun c9 => ?_)
    ·
      refine lv_iload_n hx hb dX1_comesFrom_58 rfl (lv_at hl 3 rfl) ?_
      refine hret _ _ _ _ _ rfl ?_ trivial hS dX1_comesFrom_59
      subst e8 e7 e2 e1
      first | rfl | (simp only [g_cm, g_c0, g_dv, c3, c9, ↓reduceIte]; done) | (simp only [g_cm, g_c0, g_dv, c3, c9, ↓reduceIte]; rfl)
    ·
      refine lv_iload hx hb dX1_comesFrom_53 (lv_at hl 0 rfl) ?_
      refine lv_goto (tgt := 59) hx hb dX1_comesFrom_55 (by decide) ?_
      refine hret _ _ _ _ _ rfl ?_ trivial hS dX1_comesFrom_59
      subst e8 e7 e2 e1
      first | rfl | (simp only [g_cm, g_c0, g_dv, c3, c9, ↓reduceIte]; done) | (simp only [g_cm, g_c0, g_dv, c3, c9, ↓reduceIte]; rfl)
set_option maxHeartbeats 4000000 in
set_option maxRecDepth 100000 in
theorem m1_wouldSpillFrom (l : Launch) (D : va_G) (cI : ClassId) (a r k : Nat) (f : Nat → Int32) (hk : k < 3) (hO : Ok1 f k) : q_I l yX1_wouldSpillFrom wsX1_wouldSpillFrom { frames := 3, cells := 0, slots := 0, locals := 69 } [.ref a, .int (nI k)] (q_bp D (wT a r cI f) [(cI, .int)]) (fun v => v = g_sp f k) (fun H => True) (fun _ => False) 0 0 := by
  refine q_goI (cc := cX1_wouldSpillFrom) (maxL := 3) (ty := .int) (lv0 := [(0, .ref a), (1, .int (nI k))]) (by decide) rfl (Nat.le_of_ble_eq_true rfl) rfl ?_
  intro p e s m args below meth c Q ls hx hb hml hts hown hP hK hl hret
  have hi1 : ∀ w ∈ wsX10, w ∈ wsX1_wouldSpillFrom := by decide +kernel
  have hfl11 := hts (.fieldLink RX1 11 "WhisperedPots$Table" "row" "[I") (by decide +kernel)
  have hS : va_S (fun _ => False) s.heap s.heap [] := va_S.rf
  have h8 := hO.2
  refine lv_aload_n hx hb dX1_wouldSpillFrom_0 rfl (lv_at hl 0 rfl) ?_
  refine lv_iload_n hx hb dX1_wouldSpillFrom_1 rfl (lv_at hl 1 rfl) ?_
  refine q_ciR (va_runV (rm := { frames := 2, cells := 0, slots := 0, locals := 44 }) (As := [.int (nI k)]) (rest := []) ⟨hx, hb, hml, hown, hts⟩ (m1_comesFrom l D cI a r k f hk hO) (cwV 1 hts gX1_wouldSpillFrom_X1_comesFrom rfl rfl rfl (by decide +kernel) ⟨Nat.le_of_ble_eq_true rfl, Nat.le_of_ble_eq_true rfl⟩) (q_pV (ci := 1) (q0 := 0) hP hK rfl rfl) rfl rfl hl.1 rfl (lv_room (Nat.le_of_ble_eq_true rfl)) dX1_wouldSpillFrom_2 ⟨Nat.le_of_ble_eq_true rfl, Nat.le_of_ble_eq_true rfl⟩) hP hS (fun x1 H locs e1 hP hS => ?_)
  have e1 : x1 = g_cm f k := e1
  refine lv_aload_n hx hb dX1_wouldSpillFrom_5 rfl (lv_at hl 0 rfl) ?_
  refine lv_aload_n hx hb dX1_wouldSpillFrom_6 rfl (lv_at hl 0 rfl) ?_
  refine va_get (D := D) (ci := 1) (v := .ref r) (C := RX1) (T := TX1) (N := 1) hx hb hts hi1 hown hK hP 0 rfl rfl 0 (by decide) hfl11 (fun _ h9 => h9) rfl dX1_wouldSpillFrom_7 ?_
  refine lv_bipush (v := nI 72) hx hb dX1_wouldSpillFrom_10 (by decide) ?_
  refine lv_iload_n hx hb dX1_wouldSpillFrom_12 rfl (lv_at hl 1 rfl) ?_
  refine q_addN hx hb (72 + k) (by omega) dX1_wouldSpillFrom_13 ?_
  refine q_ld hx hb hK hP 1 0 rfl rfl (j := (72 + k)) (v := (nI ((hN f k)))) (by omega) (by omega) hO.1 dX1_wouldSpillFrom_14 ?_
  refine q_ciR (va_runV (rm := { frames := 0, cells := 0, slots := 0, locals := 0 }) (As := [.int (nI ((hN f k)))]) (rest := [.int x1]) ⟨hx, hb, hml, hown, hts⟩ (m1_roomOf l D cI a r ((hN f k)) f (by omega)) (cwV 1 hts gX1_wouldSpillFrom_X1_roomOf rfl rfl rfl (by decide +kernel) ⟨Nat.le_of_ble_eq_true rfl, Nat.le_of_ble_eq_true rfl⟩) (q_pV (ci := 1) (q0 := 0) hP hK rfl rfl) rfl rfl hl.1 rfl (lv_room (Nat.le_of_ble_eq_true rfl)) dX1_wouldSpillFrom_15 ⟨Nat.le_of_ble_eq_true rfl, Nat.le_of_ble_eq_true rfl⟩) hP hS (fun x2 H locs e2 hP hS => ?_)
  have e2 : x2 = g_rm f ((hN f k)) := e2
  refine lv_isub hx hb dX1_wouldSpillFrom_18 ?_
  refine lv_topi (fun x3 e3 => ?_)
  refine lv_istore_n (lv' := [(2, .int x3), (0, .ref a), (1, .int (nI k))]) hx hb dX1_wouldSpillFrom_19 rfl hl (by decide) rfl (fun ls hl => ?_)
  refine lv_iload_n hx hb dX1_wouldSpillFrom_20 rfl (lv_at hl 0 rfl) ?_
  refine lv_if_le (tgt := 28) hx hb dX1_wouldSpillFrom_21 (by decide) (fun c4 => ?_) (fun c4 => ?_)
  ·
    refine lv_iconst (v := nI 0) hx hb dX1_wouldSpillFrom_28 (by decide) ?_
    refine hret _ _ _ _ _ rfl ?_ trivial hS dX1_wouldSpillFrom_29
    subst e3 e2 e1
    first | rfl | (simp only [g_sp, c4, ↓reduceIte]; done) | (simp only [g_sp, c4, ↓reduceIte]; rfl)
  ·
    refine lv_iload_n hx hb dX1_wouldSpillFrom_24 rfl (lv_at hl 0 rfl) ?_
    refine lv_goto (tgt := 29) hx hb dX1_wouldSpillFrom_25 (by decide) ?_
    refine hret _ _ _ _ _ rfl ?_ trivial hS dX1_wouldSpillFrom_29
    subst e3 e2 e1
    first | rfl | (simp only [g_sp, c4, ↓reduceIte]; done) | (simp only [g_sp, c4, ↓reduceIte]; rfl)
set_option maxHeartbeats 4000000 in
set_option maxRecDepth 100000 in
theorem m1_trustAfter (l : Launch) (D : va_G) (cI : ClassId) (a r k : Nat) (f : Nat → Int32) (hk : k < 3) (hO : Ok1 f k) : q_I l yX1_trustAfter wsX1_trustAfter { frames := 1, cells := 0, slots := 0, locals := 34 } [.ref a, .int (nI k)] (q_bp D (wT a r cI f) [(cI, .int)]) (fun v => v = g_tr f k) (fun H => True) (fun _ => False) 0 0 := by
  refine q_goI (cc := cX1_trustAfter) (maxL := 6) (ty := .int) (lv0 := [(0, .ref a), (1, .int (nI k))]) (by decide) rfl (Nat.le_of_ble_eq_true rfl) rfl ?_
  intro p e s m args below meth c Q ls hx hb hml hts hown hP hK hl hret
  have hi1 : ∀ w ∈ wsX10, w ∈ wsX1_trustAfter := by decide +kernel
  have hfl11 := hts (.fieldLink RX1 11 "WhisperedPots$Table" "row" "[I") (by decide +kernel)
  have hS : va_S (fun _ => False) s.heap s.heap [] := va_S.rf
  have h8 := hO.2
  refine lv_aload_n hx hb dX1_trustAfter_0 rfl (lv_at hl 0 rfl) ?_
  refine va_get (D := D) (ci := 1) (v := .ref r) (C := RX1) (T := TX1) (N := 1) hx hb hts hi1 hown hK hP 0 rfl rfl 0 (by decide) hfl11 (fun _ h9 => h9) rfl dX1_trustAfter_1 ?_
  refine lv_bipush (v := nI 75) hx hb dX1_trustAfter_4 (by decide) ?_
  refine lv_iload_n hx hb dX1_trustAfter_6 rfl (lv_at hl 1 rfl) ?_
  refine q_addN hx hb (75 + k) (by omega) dX1_trustAfter_7 ?_
  refine q_ld hx hb hK hP 1 0 rfl rfl (j := (75 + k)) (by omega) (by omega) rfl dX1_trustAfter_8 ?_
  refine lv_topi (fun x1 e1 => ?_)
  refine lv_istore_n (lv' := [(2, .int x1), (0, .ref a), (1, .int (nI k))]) hx hb dX1_trustAfter_9 rfl hl (by decide) rfl (fun ls hl => ?_)
  refine lv_aload_n hx hb dX1_trustAfter_10 rfl (lv_at hl 1 rfl) ?_
  refine va_get (D := D) (ci := 1) (v := .ref r) (C := RX1) (T := TX1) (N := 1) hx hb hts hi1 hown hK hP 0 rfl rfl 0 (by decide) hfl11 (fun _ h9 => h9) rfl dX1_trustAfter_11 ?_
  refine lv_bipush (v := nI 24) hx hb dX1_trustAfter_14 (by decide) ?_
  refine lv_aload_n hx hb dX1_trustAfter_16 rfl (lv_at hl 1 rfl) ?_
  refine va_get (D := D) (ci := 1) (v := .ref r) (C := RX1) (T := TX1) (N := 1) hx hb hts hi1 hown hK hP 0 rfl rfl 0 (by decide) hfl11 (fun _ h9 => h9) rfl dX1_trustAfter_17 ?_
  refine lv_bipush (v := nI 72) hx hb dX1_trustAfter_20 (by decide) ?_
  refine lv_iload_n hx hb dX1_trustAfter_22 rfl (lv_at hl 2 rfl) ?_
  refine q_addN hx hb (72 + k) (by omega) dX1_trustAfter_23 ?_
  refine q_ld hx hb hK hP 1 0 rfl rfl (j := (72 + k)) (v := (nI ((hN f k)))) (by omega) (by omega) hO.1 dX1_trustAfter_24 ?_
  refine q_addN hx hb (24 + (hN f k)) (by omega) dX1_trustAfter_25 ?_
  refine q_ld hx hb hK hP 1 0 rfl rfl (j := (24 + (hN f k))) (by omega) (by omega) rfl dX1_trustAfter_26 ?_
  refine lv_topi (fun x2 e2 => ?_)
  refine lv_istore_n (lv' := [(3, .int x2), (2, .int x1), (0, .ref a), (1, .int (nI k))]) hx hb dX1_trustAfter_27 rfl hl (by decide) rfl (fun ls hl => ?_)
  refine lv_aload_n hx hb dX1_trustAfter_28 rfl (lv_at hl 2 rfl) ?_
  refine va_get (D := D) (ci := 1) (v := .ref r) (C := RX1) (T := TX1) (N := 1) hx hb hts hi1 hown hK hP 0 rfl rfl 0 (by decide) hfl11 (fun _ h9 => h9) rfl dX1_trustAfter_29 ?_
  refine lv_bipush (v := nI 78) hx hb dX1_trustAfter_32 (by decide) ?_
  refine lv_iload_n hx hb dX1_trustAfter_34 rfl (lv_at hl 3 rfl) ?_
  refine q_addN hx hb (78 + k) (by omega) dX1_trustAfter_35 ?_
  refine q_ld hx hb hK hP 1 0 rfl rfl (j := (78 + k)) (by omega) (by omega) rfl dX1_trustAfter_36 ?_
  refine lv_iload_n hx hb dX1_trustAfter_37 rfl (lv_at hl 1 rfl) ?_
  refine lv_isub hx hb dX1_trustAfter_38 ?_
  refine va_mabs hx hb (hml.trans hl.1.symm) hown (hts (.methodLink RX1 34 Lib.Math.abs.name) (by decide +kernel)) (hts (.static Lib.Math.abs.name) (by decide +kernel)) (hts (.initialized "java/lang/Math") (by decide +kernel)) (hts (.code Lib.Math.abs.name Lib.Math.abs.code 1 (some .int)) (by decide +kernel)) (Nat.le_of_ble_eq_true rfl) (Nat.le_of_ble_eq_true rfl) (Nat.zero_le _) (Nat.zero_le _) dX1_trustAfter_39 ?_
  refine lv_topi (fun x3 e3 => ?_)
  refine lv_istore (lv' := [(4, .int x3), (3, .int x2), (2, .int x1), (0, .ref a), (1, .int (nI k))]) hx hb dX1_trustAfter_42 hl (by decide) rfl (fun ls hl => ?_)
  refine lv_aload_n hx hb dX1_trustAfter_44 rfl (lv_at hl 3 rfl) ?_
  refine lv_iload_n hx hb dX1_trustAfter_45 rfl (lv_at hl 4 rfl) ?_
  refine q_ciR (va_runV (rm := { frames := 0, cells := 0, slots := 0, locals := 0 }) (As := [.int (nI k)]) (rest := []) ⟨hx, hb, hml, hown, hts⟩ (m1_weightOf l D cI a r k f hk) (cwV 1 hts gX1_trustAfter_X1_weightOf rfl rfl rfl (by decide +kernel) ⟨Nat.le_of_ble_eq_true rfl, Nat.le_of_ble_eq_true rfl⟩) (q_pV (ci := 1) (q0 := 0) hP hK rfl rfl) rfl rfl hl.1 rfl (lv_room (Nat.le_of_ble_eq_true rfl)) dX1_trustAfter_46 ⟨Nat.le_of_ble_eq_true rfl, Nat.le_of_ble_eq_true rfl⟩) hP hS (fun x4 H locs e4 hP hS => ?_)
  have e4 : x4 = g_wt f k := e4
  refine lv_iload_n hx hb dX1_trustAfter_49 rfl (lv_at hl 2 rfl) ?_
  refine lv_isub hx hb dX1_trustAfter_50 ?_
  refine va_mabs hx hb (hml.trans hl.1.symm) hown (hts (.methodLink RX1 34 Lib.Math.abs.name) (by decide +kernel)) (hts (.static Lib.Math.abs.name) (by decide +kernel)) (hts (.initialized "java/lang/Math") (by decide +kernel)) (hts (.code Lib.Math.abs.name Lib.Math.abs.code 1 (some .int)) (by decide +kernel)) (Nat.le_of_ble_eq_true rfl) (Nat.le_of_ble_eq_true rfl) (Nat.zero_le _) (Nat.zero_le _) dX1_trustAfter_51 ?_
  refine lv_topi (fun x5 e5 => ?_)
  refine lv_istore (lv' := [(5, .int x5), (4, .int x3), (3, .int x2), (2, .int x1), (0, .ref a), (1, .int (nI k))]) hx hb dX1_trustAfter_54 hl (by decide) rfl (fun ls hl => ?_)
  refine lv_iload hx hb dX1_trustAfter_56 (lv_at hl 1 rfl) ?_
  refine lv_iload hx hb dX1_trustAfter_58 (lv_at hl 0 rfl) ?_
  refine lv_icmp_ge (tgt := 77) hx hb dX1_trustAfter_60 (by decide) (fun c6 => ?_) (fun c6 => ?_)
  ·
    refine lv_iload hx hb dX1_trustAfter_77 (lv_at hl 1 rfl) ?_
    refine lv_iload hx hb dX1_trustAfter_79 (lv_at hl 0 rfl) ?_
    refine lv_icmp_le (tgt := 96) hx hb dX1_trustAfter_81 (by decide) (fun c7 => ?_) (fun c7 => ?_)
    ·
      refine lv_iload_n hx hb dX1_trustAfter_96 rfl (lv_at hl 2 rfl) ?_
      refine hret _ _ _ _ _ rfl ?_ trivial hS dX1_trustAfter_97
      subst e5 e4 e3 e2 e1
      first | rfl | (simp only [g_tr, g_ab, c6, c7, ↓reduceIte]; done) | (simp only [g_tr, g_ab, c6, c7, ↓reduceIte]; rfl)
    ·
      refine lv_iload_n hx hb dX1_trustAfter_84 rfl (lv_at hl 2 rfl) ?_
      refine lv_if_le (tgt := 94) hx hb dX1_trustAfter_85 (by decide) (fun c8 => ?_) (fun c8 => ?_)
      ·
        refine lv_iload_n hx hb dX1_trustAfter_94 rfl (lv_at hl 2 rfl) ?_
        refine hret _ _ _ _ _ rfl ?_ trivial hS dX1_trustAfter_95
        subst e5 e4 e3 e2 e1
        first | rfl | (simp only [g_tr, g_ab, c6, c7, c8, ↓reduceIte]; done) | (simp only [g_tr, g_ab, c6, c7, c8, ↓reduceIte]; rfl)
      ·
        refine lv_iload_n hx hb dX1_trustAfter_88 rfl (lv_at hl 2 rfl) ?_
        refine lv_iconst (v := nI 1) hx hb dX1_trustAfter_89 (by decide) ?_
        refine lv_isub hx hb dX1_trustAfter_90 ?_
        refine lv_goto (tgt := 95) hx hb dX1_trustAfter_91 (by decide) ?_
        refine hret _ _ _ _ _ rfl ?_ trivial hS dX1_trustAfter_95
        subst e5 e4 e3 e2 e1
        first | rfl | (simp only [g_tr, g_ab, c6, c7, c8, ↓reduceIte]; done) | (simp only [g_tr, g_ab, c6, c7, c8, ↓reduceIte]; rfl)
  ·
    refine lv_iload_n hx hb dX1_trustAfter_63 rfl (lv_at hl 2 rfl) ?_
    refine lv_bipush (v := nI 10) hx hb dX1_trustAfter_64 (by decide) ?_
    refine lv_icmp_ge (tgt := 75) hx hb dX1_trustAfter_66 (by decide) (fun c9 => ?_) (fun c9 => ?_)
    ·
      refine lv_iload_n hx hb dX1_trustAfter_75 rfl (lv_at hl 2 rfl) ?_
      refine hret _ _ _ _ _ rfl ?_ trivial hS dX1_trustAfter_76
      subst e5 e4 e3 e2 e1
      first | rfl | (simp only [g_tr, g_ab, c6, c9, ↓reduceIte]; done) | (simp only [g_tr, g_ab, c6, c9, ↓reduceIte]; rfl)
    ·
      refine lv_iload_n hx hb dX1_trustAfter_69 rfl (lv_at hl 2 rfl) ?_
      refine lv_iconst (v := nI 1) hx hb dX1_trustAfter_70 (by decide) ?_
      refine lv_iadd hx hb dX1_trustAfter_71 ?_
      refine lv_goto (tgt := 76) hx hb dX1_trustAfter_72 (by decide) ?_
      refine hret _ _ _ _ _ rfl ?_ trivial hS dX1_trustAfter_76
      subst e5 e4 e3 e2 e1
      first | rfl | (simp only [g_tr, g_ab, c6, c9, ↓reduceIte]; done) | (simp only [g_tr, g_ab, c6, c9, ↓reduceIte]; rfl)

