set_option maxHeartbeats 4000000 in
set_option maxRecDepth 100000 in
theorem m2_undo_ok (l : Launch) (D : va_G) (z : Ad) (ol np hs : Nat) (T S Y : Nat → Int32) (G : Nat → Nat → Int32) (len : Nat) (P : PS) (ch : Nat → Nat) (hol : ol < 6) (hnp : np < 6) (hD : va_D (fun _ => True) (wX z ol (1 + np) hs T S Y G len P ch)) : q_I l yX2_undo wsX2_undo { frames := 2, cells := 0, slots := 0, locals := 81 } [.ref (z.o)] (q_bp D (wX z ol (1 + np) hs T S Y G len P ch) (tyX z)) (fun v => v = nI np) (fun H => va_P D vwCl (wX z ol np hs (G ((ol + np) % 6)) S Y G len P ch) H) (AX z) 0 0 := by
  refine q_goI (cc := cX2_undo) (maxL := 1) (ty := .int) (lv0 := [(0, .ref (z.o))]) (by decide) rfl (Nat.le_of_ble_eq_true rfl) rfl ?_
  intro p e s m args below meth c Q ls hx hb hml hts hown hP hK hl hret
  have hi2 : ∀ w ∈ wsX20, w ∈ wsX2_undo := by decide +kernel
  have hfl37 := hts (.fieldLink RX2 37 "WhisperedPots" "savedStates" "I") (by decide +kernel)
  have hfl12 := hts (.fieldLink RX2 12 "WhisperedPots" "table" "LWhisperedPots$Table;") (by decide +kernel)
  have hfl22 := hts (.fieldLink RX2 22 "WhisperedPots" "savedTables" "[LWhisperedPots$Table;") (by decide +kernel)
  have hfl33 := hts (.fieldLink RX2 33 "WhisperedPots" "oldestSaved" "I") (by decide +kernel)
  have hS : va_S (AX z) s.heap s.heap [] := va_S.rf
  refine lv_aload_n hx hb dX2_undo_0 rfl (lv_at hl 0 rfl) ?_
  refine va_get (D := D) (ci := 2) (v := .int (nI (1 + np))) (C := RX2) (T := TX2) (N := 8) hx hb hts hi2 hown hK hP 0 rfl rfl 6 (by decide) hfl37 (fun _ h9 => h9) rfl dX2_undo_1 ?_
  refine lv_if_ne (tgt := 17) hx hb dX2_undo_4 (by decide) (fun c1 => ?_) (fun c1 => absurd c1 (nI_ne0 (by omega) (by omega)))
  refine lv_aload_n hx hb dX2_undo_17 rfl (lv_at hl 0 rfl) ?_
  refine lv_dup hx hb dX2_undo_18 rfl ?_
  refine va_get (D := D) (ci := 2) (v := .int (nI (1 + np))) (C := RX2) (T := TX2) (N := 8) hx hb hts hi2 hown hK hP 0 rfl rfl 6 (by decide) hfl37 (fun _ h9 => h9) rfl dX2_undo_19 ?_
  refine lv_iconst (v := nI 1) hx hb dX2_undo_22 (by decide) ?_
  refine q_subN hx hb np (by omega) dX2_undo_23 ?_
  refine q_pt (D := D) (ci := 2) (v := .int (nI np)) (ty := .int) (C := RX2) (T := TX2) (N := 8) hx hb hts hi2 tyX2 tyX2_ok nmX2 hown hK hP hD hS (AX_i 0 rfl) 0 rfl rfl 6 (by decide) hfl37 (fun _ h9 => h9) rfl (by decide +kernel) rfl rfl (Nat.le_of_ble_eq_true rfl) (ws' := wX z ol np hs T S Y G len P ch) rfl dX2_undo_24 (fun H locs hP hD hS => ?_)
  refine lv_aload_n hx hb dX2_undo_27 rfl (lv_at hl 0 rfl) ?_
  refine va_get (D := D) (ci := 2) (v := .ref (z.ad 0)) (C := RX2) (T := TX2) (N := 8) hx hb hts hi2 hown hK hP 0 rfl rfl 0 (by decide) hfl12 (fun _ h9 => h9) rfl dX2_undo_28 ?_
  refine lv_aload_n hx hb dX2_undo_31 rfl (lv_at hl 0 rfl) ?_
  refine va_get (D := D) (ci := 2) (v := .ref (z.sa)) (C := RX2) (T := TX2) (N := 8) hx hb hts hi2 hown hK hP 0 rfl rfl 3 (by decide) hfl22 (fun _ h9 => h9) rfl dX2_undo_32 ?_
  refine lv_aload_n hx hb dX2_undo_35 rfl (lv_at hl 0 rfl) ?_
  refine va_get (D := D) (ci := 2) (v := .int (nI ol)) (C := RX2) (T := TX2) (N := 8) hx hb hts hi2 hown hK hP 0 rfl rfl 5 (by decide) hfl33 (fun _ h9 => h9) rfl dX2_undo_36 ?_
  refine lv_aload_n hx hb dX2_undo_39 rfl (lv_at hl 0 rfl) ?_
  refine va_get (D := D) (ci := 2) (v := .int (nI np)) (C := RX2) (T := TX2) (N := 8) hx hb hts hi2 hown hK hP 0 rfl rfl 6 (by decide) hfl37 (fun _ h9 => h9) rfl dX2_undo_40 ?_
  refine q_addN hx hb (ol + np) (by omega) dX2_undo_43 ?_
  refine lv_bipush (v := nI 6) hx hb dX2_undo_44 (by decide) ?_
  refine q_remN hx hb ((ol + np) % 6) rfl (by omega) (by omega) (by omega) dX2_undo_46 ?_
  refine q_ldq hx hb hK hP 19 1 rfl rfl (j := ((ol + np) % 6)) (v := z.ad (3 + ((ol + np) % 6))) (by omega) (by omega) rfl dX2_undo_47 ?_
  have hk6 : ((ol + np) % 6) < 6 := Nat.mod_lt _ (by decide)
  refine q_cv2 (i := 10) (j := 13 + ((ol + np) % 6)) (ws' := wX z ol np hs (G ((ol + np) % 6)) S Y G len P ch) (va_runV (rm := { frames := 1, cells := 0, slots := 0, locals := 60 }) (As := [.ref (z.ad (3 + ((ol + np) % 6)))]) (rest := []) ⟨hx, hb, hml, hown, hts⟩ (m1_copyFrom l D z.cI (z.ad 0) (z.rd 0) (z.ad (3 + ((ol + np) % 6))) (z.rd (3 + ((ol + np) % 6))) T (G ((ol + np) % 6)) (wX_Dfrom hD hk6)) (cwV 1 hts gX2_undo_X1_copyFrom rfl rfl rfl (by decide +kernel) ⟨Nat.le_of_ble_eq_true rfl, Nat.le_of_ble_eq_true rfl⟩) (q_pV (ci := 1) (q0 := 0) (wX_from hP hk6) (hK.sub [0] rfl) rfl rfl) rfl rfl hl.1 rfl (lv_room (Nat.le_of_ble_eq_true rfl)) dX2_undo_48 ⟨Nat.le_of_ble_eq_true rfl, Nat.le_of_ble_eq_true rfl⟩) hP hD hS (by rfl) (wX_rd hk6) (AX_i 10 rfl) (AX_rd hk6) (wX_same (T := G ((ol + np) % 6)) hk6) (fun H locs hP hD hS => ?_)
  refine lv_aload_n hx hb dX2_undo_51 rfl (lv_at hl 0 rfl) ?_
  refine va_get (D := D) (ci := 2) (v := .int (nI np)) (C := RX2) (T := TX2) (N := 8) hx hb hts hi2 hown hK hP 0 rfl rfl 6 (by decide) hfl37 (fun _ h9 => h9) rfl dX2_undo_52 ?_
  refine hret _ _ _ _ _ rfl ?_ hP hS dX2_undo_55
  rfl
set_option maxHeartbeats 4000000 in
set_option maxRecDepth 100000 in
theorem m2_guest_ok (l : Launch) (D : va_G) (z : Ad) (ol sn hs : Nat) (T S Y : Nat → Int32) (G : Nat → Nat → Int32) (len : Nat) (P : PS) (ch : Nat → Nat) (B : Nat) (hI : Inv B T) (g : Nat) (hg : g < 8) (w : Nat) (hw : w < 10) : q_I l yX2_guest wsX2_guest { frames := 1, cells := 0, slots := 0, locals := 23 } [.ref (z.o), .int (nI g), .int (nI w)] (q_bp D (wX z ol sn hs T S Y G len P ch) (tyX z)) (fun v => v = g_gu T g w) (fun H => True) (fun _ => False) 0 0 := by
  refine q_goI (cc := cX2_guest) (maxL := 3) (ty := .int) (lv0 := [(0, .ref (z.o)), (1, .int (nI g)), (2, .int (nI w))]) (by decide) rfl (Nat.le_of_ble_eq_true rfl) rfl ?_
  intro p e s m args below meth c Q ls hx hb hml hts hown hP hK hl hret
  have hi1 : ∀ w ∈ wsX10, w ∈ wsX2_guest := by decide +kernel
  have hi2 : ∀ w ∈ wsX20, w ∈ wsX2_guest := by decide +kernel
  have hfl12 := hts (.fieldLink RX2 12 "WhisperedPots" "table" "LWhisperedPots$Table;") (by decide +kernel)
  have hfl55 := hts (.fieldLink RX2 55 "WhisperedPots$Table" "row" "[I") (by decide +kernel)
  have hS : va_S (fun _ => False) s.heap s.heap [] := va_S.rf
  refine lv_iload_n hx hb dX2_guest_0 rfl (lv_at hl 1 rfl) ?_
  refine q_cvR (va_runS (rm := { frames := 0, cells := 0, slots := 0, locals := 0 }) (As := [.int (nI g)]) (rest := []) ⟨hx, hb, hml, hown, hts⟩ (m2_requireGuest_ok l D g hg) (va_cwS 1 hts gX2_guest_X2_requireGuest rfl rfl rfl (by decide +kernel) ⟨Nat.le_of_ble_eq_true rfl, Nat.le_of_ble_eq_true rfl⟩) (q_pS (hP.sub (ws' := []) [] rfl) (hK.sub [] rfl)) rfl rfl hl.1 rfl (lv_room (Nat.le_of_ble_eq_true rfl)) dX2_guest_1 ⟨Nat.le_of_ble_eq_true rfl, Nat.le_of_ble_eq_true rfl⟩) hP hS (fun H locs hP hS => ?_)
  refine lv_iload_n hx hb dX2_guest_4 rfl (lv_at hl 2 rfl) ?_
  refine lv_iconst (v := nI 0) hx hb dX2_guest_5 (by decide) ?_
  refine lv_bipush (v := nI 9) hx hb dX2_guest_6 (by decide) ?_
  refine q_cvR (va_runS (rm := { frames := 0, cells := 0, slots := 0, locals := 0 }) (As := [.int (nI w), .int (nI 0), .int (nI 9)]) (rest := []) ⟨hx, hb, hml, hown, hts⟩ (m2_requireWithin_ok l D (nI w) (nI 0) (nI 9) (q_inN (Nat.zero_le _) (by omega) (by decide))) (va_cwS 3 hts gX2_guest_X2_requireWithin rfl rfl rfl (by decide +kernel) ⟨Nat.le_of_ble_eq_true rfl, Nat.le_of_ble_eq_true rfl⟩) (q_pS (hP.sub (ws' := []) [] rfl) (hK.sub [] rfl)) rfl rfl hl.1 rfl (lv_room (Nat.le_of_ble_eq_true rfl)) dX2_guest_8 ⟨Nat.le_of_ble_eq_true rfl, Nat.le_of_ble_eq_true rfl⟩) hP hS (fun H locs hP hS => ?_)
  refine lv_iload_n hx hb dX2_guest_11 rfl (lv_at hl 2 rfl) ?_
  refine lv_bipush (v := nI 9) hx hb dX2_guest_12 (by decide) ?_
  refine q_neN (tgt := 26) hx hb (by omega) (by omega) dX2_guest_14 (by decide) (fun c1 => ?_) (fun c1 => ?_)
  ·
    refine lv_aload_n hx hb dX2_guest_26 rfl (lv_at hl 0 rfl) ?_
    refine va_get (D := D) (ci := 2) (v := .ref (z.ad 0)) (C := RX2) (T := TX2) (N := 8) hx hb hts hi2 hown hK hP 0 rfl rfl 0 (by decide) hfl12 (fun _ h9 => h9) rfl dX2_guest_27 ?_
    refine va_get (D := D) (ci := 1) (v := .ref (z.rd 0)) (C := RX1) (T := TX1) (N := 1) hx hb hts hi1 hown hK hP 1 rfl rfl 0 (by decide) hfl55 (fun _ h9 => h9) rfl dX2_guest_30 ?_
    refine lv_iload_n hx hb dX2_guest_33 rfl (lv_at hl 2 rfl) ?_
    refine lv_bipush (v := nI 8) hx hb dX2_guest_34 (by decide) ?_
    refine q_mulN hx hb (8 * w) (by omega) dX2_guest_36 ?_
    refine lv_iload_n hx hb dX2_guest_37 rfl (lv_at hl 1 rfl) ?_
    refine q_addN hx hb (8 * w + g) (by omega) dX2_guest_38 ?_
    refine q_ld hx hb hK hP 10 0 rfl rfl (j := (8 * w + g)) (by omega) (by omega) rfl dX2_guest_39 ?_
    refine hret _ _ _ _ _ rfl ?_ trivial hS dX2_guest_40
    skip
    exact (if_pos (by omega)).symm
  ·
    refine lv_aload_n hx hb dX2_guest_17 rfl (lv_at hl 0 rfl) ?_
    refine va_get (D := D) (ci := 2) (v := .ref (z.ad 0)) (C := RX2) (T := TX2) (N := 8) hx hb hts hi2 hown hK hP 0 rfl rfl 0 (by decide) hfl12 (fun _ h9 => h9) rfl dX2_guest_18 ?_
    refine lv_iload_n hx hb dX2_guest_21 rfl (lv_at hl 1 rfl) ?_
    refine q_ciR (va_runV (rm := { frames := 0, cells := 0, slots := 0, locals := 0 }) (As := [.int (nI g)]) (rest := []) ⟨hx, hb, hml, hown, hts⟩ (m1_potsWith l D z.cI (z.ad 0) (z.rd 0) g T hg (fun k hk => hI.ok1 hk)) (cwV 1 hts gX2_guest_X1_potsWith rfl rfl rfl (by decide +kernel) ⟨Nat.le_of_ble_eq_true rfl, Nat.le_of_ble_eq_true rfl⟩) (q_pV (ci := 1) (q0 := 0) (hP.sub (ws' := wT (z.ad 0) (z.rd 0) z.cI T) [1, 10] rfl) (hK.sub [0] rfl) rfl rfl) rfl rfl hl.1 rfl (lv_room (Nat.le_of_ble_eq_true rfl)) dX2_guest_22 ⟨Nat.le_of_ble_eq_true rfl, Nat.le_of_ble_eq_true rfl⟩) hP hS (fun x2 H locs e2 hP hS => ?_)
    have e2 : x2 = g_mk T g 3 := e2
    refine hret _ _ _ _ _ rfl ?_ trivial hS dX2_guest_25
    subst e2
    exact (if_neg (by omega)).symm
set_option maxHeartbeats 4000000 in
set_option maxRecDepth 100000 in
theorem m2_pot_ok0 (l : Launch) (D : va_G) (z : Ad) (ol sn hs : Nat) (T S Y : Nat → Int32) (G : Nat → Nat → Int32) (len : Nat) (P : PS) (ch : Nat → Nat) (B : Nat) (hI : Inv B T) (k : Nat) (hk : k < 3) : q_I l yX2_pot wsX2_pot { frames := 2, cells := 0, slots := 0, locals := 44 } [.ref (z.o), .int (nI k), .int (nI 0)] (q_bp D (wX z ol sn hs T S Y G len P ch) (tyX z)) (fun v => v = g_po T k 0) (fun H => True) (fun _ => False) 0 0 := by
  refine q_goI (cc := cX2_pot) (maxL := 3) (ty := .int) (lv0 := [(0, .ref (z.o)), (1, .int (nI k)), (2, .int (nI 0))]) (by decide) rfl (Nat.le_of_ble_eq_true rfl) rfl ?_
  intro p e s m args below meth c Q ls hx hb hml hts hown hP hK hl hret
  have hi1 : ∀ w ∈ wsX10, w ∈ wsX2_pot := by decide +kernel
  have hi2 : ∀ w ∈ wsX20, w ∈ wsX2_pot := by decide +kernel
  have hfl12 := hts (.fieldLink RX2 12 "WhisperedPots" "table" "LWhisperedPots$Table;") (by decide +kernel)
  have hfl55 := hts (.fieldLink RX2 55 "WhisperedPots$Table" "row" "[I") (by decide +kernel)
  have hS : va_S (fun _ => False) s.heap s.heap [] := va_S.rf
  refine lv_iload_n hx hb dX2_pot_0 rfl (lv_at hl 1 rfl) ?_
  refine q_cvR (va_runS (rm := { frames := 0, cells := 0, slots := 0, locals := 0 }) (As := [.int (nI k)]) (rest := []) ⟨hx, hb, hml, hown, hts⟩ (m2_requirePot_ok l D k hk) (va_cwS 1 hts gX2_pot_X2_requirePot rfl rfl rfl (by decide +kernel) ⟨Nat.le_of_ble_eq_true rfl, Nat.le_of_ble_eq_true rfl⟩) (q_pS (hP.sub (ws' := []) [] rfl) (hK.sub [] rfl)) rfl rfl hl.1 rfl (lv_room (Nat.le_of_ble_eq_true rfl)) dX2_pot_1 ⟨Nat.le_of_ble_eq_true rfl, Nat.le_of_ble_eq_true rfl⟩) hP hS (fun H locs hP hS => ?_)
  refine lv_iload_n hx hb dX2_pot_4 rfl (lv_at hl 2 rfl) ?_
  refine lv_iconst (v := nI 0) hx hb dX2_pot_5 (by decide) ?_
  refine lv_bipush (v := nI 7) hx hb dX2_pot_6 (by decide) ?_
  refine q_cvR (va_runS (rm := { frames := 0, cells := 0, slots := 0, locals := 0 }) (As := [.int (nI 0), .int (nI 0), .int (nI 7)]) (rest := []) ⟨hx, hb, hml, hown, hts⟩ (m2_requireWithin_ok l D (nI 0) (nI 0) (nI 7) (by decide)) (va_cwS 3 hts gX2_pot_X2_requireWithin rfl rfl rfl (by decide +kernel) ⟨Nat.le_of_ble_eq_true rfl, Nat.le_of_ble_eq_true rfl⟩) (q_pS (hP.sub (ws' := []) [] rfl) (hK.sub [] rfl)) rfl rfl hl.1 rfl (lv_room (Nat.le_of_ble_eq_true rfl)) dX2_pot_8 ⟨Nat.le_of_ble_eq_true rfl, Nat.le_of_ble_eq_true rfl⟩) hP hS (fun H locs hP hS => ?_)
  refine lv_iload_n hx hb dX2_pot_11 rfl (lv_at hl 2 rfl) ?_
  refine q_ts (off := 44) (tgt := 56) hx hb (by omega) dX2_pot_12 rfl rfl (by decide) ?_
  refine lv_aload_n hx hb dX2_pot_56 rfl (lv_at hl 0 rfl) ?_
  refine va_get (D := D) (ci := 2) (v := .ref (z.ad 0)) (C := RX2) (T := TX2) (N := 8) hx hb hts hi2 hown hK hP 0 rfl rfl 0 (by decide) hfl12 (fun _ h9 => h9) rfl dX2_pot_57 ?_
  refine va_get (D := D) (ci := 1) (v := .ref (z.rd 0)) (C := RX1) (T := TX1) (N := 1) hx hb hts hi1 hown hK hP 1 rfl rfl 0 (by decide) hfl55 (fun _ h9 => h9) rfl dX2_pot_60 ?_
  refine lv_bipush (v := nI 72) hx hb dX2_pot_63 (by decide) ?_
  refine lv_iload_n hx hb dX2_pot_65 rfl (lv_at hl 1 rfl) ?_
  refine q_addN hx hb (72 + k) (by omega) dX2_pot_66 ?_
  refine q_ld hx hb hK hP 10 0 rfl rfl (j := (72 + k)) (by omega) (by omega) rfl dX2_pot_67 ?_
  refine hret _ _ _ _ _ rfl ?_ trivial hS dX2_pot_68
  skip
  rfl
set_option maxHeartbeats 4000000 in
set_option maxRecDepth 100000 in
theorem m2_pot_ok1 (l : Launch) (D : va_G) (z : Ad) (ol sn hs : Nat) (T S Y : Nat → Int32) (G : Nat → Nat → Int32) (len : Nat) (P : PS) (ch : Nat → Nat) (B : Nat) (hI : Inv B T) (k : Nat) (hk : k < 3) : q_I l yX2_pot wsX2_pot { frames := 2, cells := 0, slots := 0, locals := 44 } [.ref (z.o), .int (nI k), .int (nI 1)] (q_bp D (wX z ol sn hs T S Y G len P ch) (tyX z)) (fun v => v = g_po T k 1) (fun H => True) (fun _ => False) 0 0 := by
  refine q_goI (cc := cX2_pot) (maxL := 3) (ty := .int) (lv0 := [(0, .ref (z.o)), (1, .int (nI k)), (2, .int (nI 1))]) (by decide) rfl (Nat.le_of_ble_eq_true rfl) rfl ?_
  intro p e s m args below meth c Q ls hx hb hml hts hown hP hK hl hret
  have hi1 : ∀ w ∈ wsX10, w ∈ wsX2_pot := by decide +kernel
  have hi2 : ∀ w ∈ wsX20, w ∈ wsX2_pot := by decide +kernel
  have hfl12 := hts (.fieldLink RX2 12 "WhisperedPots" "table" "LWhisperedPots$Table;") (by decide +kernel)
  have hfl55 := hts (.fieldLink RX2 55 "WhisperedPots$Table" "row" "[I") (by decide +kernel)
  have hS : va_S (fun _ => False) s.heap s.heap [] := va_S.rf
  refine lv_iload_n hx hb dX2_pot_0 rfl (lv_at hl 1 rfl) ?_
  refine q_cvR (va_runS (rm := { frames := 0, cells := 0, slots := 0, locals := 0 }) (As := [.int (nI k)]) (rest := []) ⟨hx, hb, hml, hown, hts⟩ (m2_requirePot_ok l D k hk) (va_cwS 1 hts gX2_pot_X2_requirePot rfl rfl rfl (by decide +kernel) ⟨Nat.le_of_ble_eq_true rfl, Nat.le_of_ble_eq_true rfl⟩) (q_pS (hP.sub (ws' := []) [] rfl) (hK.sub [] rfl)) rfl rfl hl.1 rfl (lv_room (Nat.le_of_ble_eq_true rfl)) dX2_pot_1 ⟨Nat.le_of_ble_eq_true rfl, Nat.le_of_ble_eq_true rfl⟩) hP hS (fun H locs hP hS => ?_)
  refine lv_iload_n hx hb dX2_pot_4 rfl (lv_at hl 2 rfl) ?_
  refine lv_iconst (v := nI 0) hx hb dX2_pot_5 (by decide) ?_
  refine lv_bipush (v := nI 7) hx hb dX2_pot_6 (by decide) ?_
  refine q_cvR (va_runS (rm := { frames := 0, cells := 0, slots := 0, locals := 0 }) (As := [.int (nI 1), .int (nI 0), .int (nI 7)]) (rest := []) ⟨hx, hb, hml, hown, hts⟩ (m2_requireWithin_ok l D (nI 1) (nI 0) (nI 7) (by decide)) (va_cwS 3 hts gX2_pot_X2_requireWithin rfl rfl rfl (by decide +kernel) ⟨Nat.le_of_ble_eq_true rfl, Nat.le_of_ble_eq_true rfl⟩) (q_pS (hP.sub (ws' := []) [] rfl) (hK.sub [] rfl)) rfl rfl hl.1 rfl (lv_room (Nat.le_of_ble_eq_true rfl)) dX2_pot_8 ⟨Nat.le_of_ble_eq_true rfl, Nat.le_of_ble_eq_true rfl⟩) hP hS (fun H locs hP hS => ?_)
  refine lv_iload_n hx hb dX2_pot_11 rfl (lv_at hl 2 rfl) ?_
  refine q_ts (off := 57) (tgt := 69) hx hb (by omega) dX2_pot_12 rfl rfl (by decide) ?_
  refine lv_aload_n hx hb dX2_pot_69 rfl (lv_at hl 0 rfl) ?_
  refine va_get (D := D) (ci := 2) (v := .ref (z.ad 0)) (C := RX2) (T := TX2) (N := 8) hx hb hts hi2 hown hK hP 0 rfl rfl 0 (by decide) hfl12 (fun _ h9 => h9) rfl dX2_pot_70 ?_
  refine va_get (D := D) (ci := 1) (v := .ref (z.rd 0)) (C := RX1) (T := TX1) (N := 1) hx hb hts hi1 hown hK hP 1 rfl rfl 0 (by decide) hfl55 (fun _ h9 => h9) rfl dX2_pot_73 ?_
  refine lv_bipush (v := nI 75) hx hb dX2_pot_76 (by decide) ?_
  refine lv_iload_n hx hb dX2_pot_78 rfl (lv_at hl 1 rfl) ?_
  refine q_addN hx hb (75 + k) (by omega) dX2_pot_79 ?_
  refine q_ld hx hb hK hP 10 0 rfl rfl (j := (75 + k)) (by omega) (by omega) rfl dX2_pot_80 ?_
  refine hret _ _ _ _ _ rfl ?_ trivial hS dX2_pot_81
  skip
  rfl
set_option maxHeartbeats 4000000 in
set_option maxRecDepth 100000 in
theorem m2_pot_ok2 (l : Launch) (D : va_G) (z : Ad) (ol sn hs : Nat) (T S Y : Nat → Int32) (G : Nat → Nat → Int32) (len : Nat) (P : PS) (ch : Nat → Nat) (B : Nat) (hI : Inv B T) (k : Nat) (hk : k < 3) : q_I l yX2_pot wsX2_pot { frames := 2, cells := 0, slots := 0, locals := 44 } [.ref (z.o), .int (nI k), .int (nI 2)] (q_bp D (wX z ol sn hs T S Y G len P ch) (tyX z)) (fun v => v = g_po T k 2) (fun H => True) (fun _ => False) 0 0 := by
  refine q_goI (cc := cX2_pot) (maxL := 3) (ty := .int) (lv0 := [(0, .ref (z.o)), (1, .int (nI k)), (2, .int (nI 2))]) (by decide) rfl (Nat.le_of_ble_eq_true rfl) rfl ?_
  intro p e s m args below meth c Q ls hx hb hml hts hown hP hK hl hret
  have hi1 : ∀ w ∈ wsX10, w ∈ wsX2_pot := by decide +kernel
  have hi2 : ∀ w ∈ wsX20, w ∈ wsX2_pot := by decide +kernel
  have hfl12 := hts (.fieldLink RX2 12 "WhisperedPots" "table" "LWhisperedPots$Table;") (by decide +kernel)
  have hfl55 := hts (.fieldLink RX2 55 "WhisperedPots$Table" "row" "[I") (by decide +kernel)
  have hS : va_S (fun _ => False) s.heap s.heap [] := va_S.rf
  refine lv_iload_n hx hb dX2_pot_0 rfl (lv_at hl 1 rfl) ?_
  refine q_cvR (va_runS (rm := { frames := 0, cells := 0, slots := 0, locals := 0 }) (As := [.int (nI k)]) (rest := []) ⟨hx, hb, hml, hown, hts⟩ (m2_requirePot_ok l D k hk) (va_cwS 1 hts gX2_pot_X2_requirePot rfl rfl rfl (by decide +kernel) ⟨Nat.le_of_ble_eq_true rfl, Nat.le_of_ble_eq_true rfl⟩) (q_pS (hP.sub (ws' := []) [] rfl) (hK.sub [] rfl)) rfl rfl hl.1 rfl (lv_room (Nat.le_of_ble_eq_true rfl)) dX2_pot_1 ⟨Nat.le_of_ble_eq_true rfl, Nat.le_of_ble_eq_true rfl⟩) hP hS (fun H locs hP hS => ?_)
  refine lv_iload_n hx hb dX2_pot_4 rfl (lv_at hl 2 rfl) ?_
  refine lv_iconst (v := nI 0) hx hb dX2_pot_5 (by decide) ?_
  refine lv_bipush (v := nI 7) hx hb dX2_pot_6 (by decide) ?_
  refine q_cvR (va_runS (rm := { frames := 0, cells := 0, slots := 0, locals := 0 }) (As := [.int (nI 2), .int (nI 0), .int (nI 7)]) (rest := []) ⟨hx, hb, hml, hown, hts⟩ (m2_requireWithin_ok l D (nI 2) (nI 0) (nI 7) (by decide)) (va_cwS 3 hts gX2_pot_X2_requireWithin rfl rfl rfl (by decide +kernel) ⟨Nat.le_of_ble_eq_true rfl, Nat.le_of_ble_eq_true rfl⟩) (q_pS (hP.sub (ws' := []) [] rfl) (hK.sub [] rfl)) rfl rfl hl.1 rfl (lv_room (Nat.le_of_ble_eq_true rfl)) dX2_pot_8 ⟨Nat.le_of_ble_eq_true rfl, Nat.le_of_ble_eq_true rfl⟩) hP hS (fun H locs hP hS => ?_)
  refine lv_iload_n hx hb dX2_pot_11 rfl (lv_at hl 2 rfl) ?_
  refine q_ts (off := 70) (tgt := 82) hx hb (by omega) dX2_pot_12 rfl rfl (by decide) ?_
  refine lv_aload_n hx hb dX2_pot_82 rfl (lv_at hl 0 rfl) ?_
  refine va_get (D := D) (ci := 2) (v := .ref (z.ad 0)) (C := RX2) (T := TX2) (N := 8) hx hb hts hi2 hown hK hP 0 rfl rfl 0 (by decide) hfl12 (fun _ h9 => h9) rfl dX2_pot_83 ?_
  refine va_get (D := D) (ci := 1) (v := .ref (z.rd 0)) (C := RX1) (T := TX1) (N := 1) hx hb hts hi1 hown hK hP 1 rfl rfl 0 (by decide) hfl55 (fun _ h9 => h9) rfl dX2_pot_86 ?_
  refine lv_bipush (v := nI 78) hx hb dX2_pot_89 (by decide) ?_
  refine lv_iload_n hx hb dX2_pot_91 rfl (lv_at hl 1 rfl) ?_
  refine q_addN hx hb (78 + k) (by omega) dX2_pot_92 ?_
  refine q_ld hx hb hK hP 10 0 rfl rfl (j := (78 + k)) (by omega) (by omega) rfl dX2_pot_93 ?_
  refine hret _ _ _ _ _ rfl ?_ trivial hS dX2_pot_94
  skip
  rfl
set_option maxHeartbeats 4000000 in
set_option maxRecDepth 100000 in
theorem m2_pot_ok3 (l : Launch) (D : va_G) (z : Ad) (ol sn hs : Nat) (T S Y : Nat → Int32) (G : Nat → Nat → Int32) (len : Nat) (P : PS) (ch : Nat → Nat) (B : Nat) (hI : Inv B T) (k : Nat) (hk : k < 3) : q_I l yX2_pot wsX2_pot { frames := 2, cells := 0, slots := 0, locals := 44 } [.ref (z.o), .int (nI k), .int (nI 3)] (q_bp D (wX z ol sn hs T S Y G len P ch) (tyX z)) (fun v => v = g_po T k 3) (fun H => True) (fun _ => False) 0 0 := by
  refine q_goI (cc := cX2_pot) (maxL := 3) (ty := .int) (lv0 := [(0, .ref (z.o)), (1, .int (nI k)), (2, .int (nI 3))]) (by decide) rfl (Nat.le_of_ble_eq_true rfl) rfl ?_
  intro p e s m args below meth c Q ls hx hb hml hts hown hP hK hl hret
  have hi1 : ∀ w ∈ wsX10, w ∈ wsX2_pot := by decide +kernel
  have hi2 : ∀ w ∈ wsX20, w ∈ wsX2_pot := by decide +kernel
  have hfl12 := hts (.fieldLink RX2 12 "WhisperedPots" "table" "LWhisperedPots$Table;") (by decide +kernel)
  have hfl55 := hts (.fieldLink RX2 55 "WhisperedPots$Table" "row" "[I") (by decide +kernel)
  have hS : va_S (fun _ => False) s.heap s.heap [] := va_S.rf
  refine lv_iload_n hx hb dX2_pot_0 rfl (lv_at hl 1 rfl) ?_
  refine q_cvR (va_runS (rm := { frames := 0, cells := 0, slots := 0, locals := 0 }) (As := [.int (nI k)]) (rest := []) ⟨hx, hb, hml, hown, hts⟩ (m2_requirePot_ok l D k hk) (va_cwS 1 hts gX2_pot_X2_requirePot rfl rfl rfl (by decide +kernel) ⟨Nat.le_of_ble_eq_true rfl, Nat.le_of_ble_eq_true rfl⟩) (q_pS (hP.sub (ws' := []) [] rfl) (hK.sub [] rfl)) rfl rfl hl.1 rfl (lv_room (Nat.le_of_ble_eq_true rfl)) dX2_pot_1 ⟨Nat.le_of_ble_eq_true rfl, Nat.le_of_ble_eq_true rfl⟩) hP hS (fun H locs hP hS => ?_)
  refine lv_iload_n hx hb dX2_pot_4 rfl (lv_at hl 2 rfl) ?_
  refine lv_iconst (v := nI 0) hx hb dX2_pot_5 (by decide) ?_
  refine lv_bipush (v := nI 7) hx hb dX2_pot_6 (by decide) ?_
  refine q_cvR (va_runS (rm := { frames := 0, cells := 0, slots := 0, locals := 0 }) (As := [.int (nI 3), .int (nI 0), .int (nI 7)]) (rest := []) ⟨hx, hb, hml, hown, hts⟩ (m2_requireWithin_ok l D (nI 3) (nI 0) (nI 7) (by decide)) (va_cwS 3 hts gX2_pot_X2_requireWithin rfl rfl rfl (by decide +kernel) ⟨Nat.le_of_ble_eq_true rfl, Nat.le_of_ble_eq_true rfl⟩) (q_pS (hP.sub (ws' := []) [] rfl) (hK.sub [] rfl)) rfl rfl hl.1 rfl (lv_room (Nat.le_of_ble_eq_true rfl)) dX2_pot_8 ⟨Nat.le_of_ble_eq_true rfl, Nat.le_of_ble_eq_true rfl⟩) hP hS (fun H locs hP hS => ?_)
  refine lv_iload_n hx hb dX2_pot_11 rfl (lv_at hl 2 rfl) ?_
  refine q_ts (off := 83) (tgt := 95) hx hb (by omega) dX2_pot_12 rfl rfl (by decide) ?_
  refine lv_aload_n hx hb dX2_pot_95 rfl (lv_at hl 0 rfl) ?_
  refine va_get (D := D) (ci := 2) (v := .ref (z.ad 0)) (C := RX2) (T := TX2) (N := 8) hx hb hts hi2 hown hK hP 0 rfl rfl 0 (by decide) hfl12 (fun _ h9 => h9) rfl dX2_pot_96 ?_
  refine lv_iload_n hx hb dX2_pot_99 rfl (lv_at hl 1 rfl) ?_
  refine q_ciR (va_runV (rm := { frames := 0, cells := 0, slots := 0, locals := 0 }) (As := [.int (nI k)]) (rest := []) ⟨hx, hb, hml, hown, hts⟩ (m1_weightOf l D z.cI (z.ad 0) (z.rd 0) k T hk) (cwV 1 hts gX2_pot_X1_weightOf rfl rfl rfl (by decide +kernel) ⟨Nat.le_of_ble_eq_true rfl, Nat.le_of_ble_eq_true rfl⟩) (q_pV (ci := 1) (q0 := 0) (hP.sub (ws' := wT (z.ad 0) (z.rd 0) z.cI T) [1, 10] rfl) (hK.sub [0] rfl) rfl rfl) rfl rfl hl.1 rfl (lv_room (Nat.le_of_ble_eq_true rfl)) dX2_pot_100 ⟨Nat.le_of_ble_eq_true rfl, Nat.le_of_ble_eq_true rfl⟩) hP hS (fun x1 H locs e1 hP hS => ?_)
  have e1 : x1 = g_wt T k := e1
  refine hret _ _ _ _ _ rfl ?_ trivial hS dX2_pot_103
  subst e1
  rfl
set_option maxHeartbeats 4000000 in
set_option maxRecDepth 100000 in
theorem m2_pot_ok4 (l : Launch) (D : va_G) (z : Ad) (ol sn hs : Nat) (T S Y : Nat → Int32) (G : Nat → Nat → Int32) (len : Nat) (P : PS) (ch : Nat → Nat) (B : Nat) (hI : Inv B T) (k : Nat) (hk : k < 3) : q_I l yX2_pot wsX2_pot { frames := 2, cells := 0, slots := 0, locals := 44 } [.ref (z.o), .int (nI k), .int (nI 4)] (q_bp D (wX z ol sn hs T S Y G len P ch) (tyX z)) (fun v => v = g_po T k 4) (fun H => True) (fun _ => False) 0 0 := by
  refine q_goI (cc := cX2_pot) (maxL := 3) (ty := .int) (lv0 := [(0, .ref (z.o)), (1, .int (nI k)), (2, .int (nI 4))]) (by decide) rfl (Nat.le_of_ble_eq_true rfl) rfl ?_
  intro p e s m args below meth c Q ls hx hb hml hts hown hP hK hl hret
  have hi1 : ∀ w ∈ wsX10, w ∈ wsX2_pot := by decide +kernel
  have hi2 : ∀ w ∈ wsX20, w ∈ wsX2_pot := by decide +kernel
  have hfl12 := hts (.fieldLink RX2 12 "WhisperedPots" "table" "LWhisperedPots$Table;") (by decide +kernel)
  have hfl55 := hts (.fieldLink RX2 55 "WhisperedPots$Table" "row" "[I") (by decide +kernel)
  have hS : va_S (fun _ => False) s.heap s.heap [] := va_S.rf
  refine lv_iload_n hx hb dX2_pot_0 rfl (lv_at hl 1 rfl) ?_
  refine q_cvR (va_runS (rm := { frames := 0, cells := 0, slots := 0, locals := 0 }) (As := [.int (nI k)]) (rest := []) ⟨hx, hb, hml, hown, hts⟩ (m2_requirePot_ok l D k hk) (va_cwS 1 hts gX2_pot_X2_requirePot rfl rfl rfl (by decide +kernel) ⟨Nat.le_of_ble_eq_true rfl, Nat.le_of_ble_eq_true rfl⟩) (q_pS (hP.sub (ws' := []) [] rfl) (hK.sub [] rfl)) rfl rfl hl.1 rfl (lv_room (Nat.le_of_ble_eq_true rfl)) dX2_pot_1 ⟨Nat.le_of_ble_eq_true rfl, Nat.le_of_ble_eq_true rfl⟩) hP hS (fun H locs hP hS => ?_)
  refine lv_iload_n hx hb dX2_pot_4 rfl (lv_at hl 2 rfl) ?_
  refine lv_iconst (v := nI 0) hx hb dX2_pot_5 (by decide) ?_
  refine lv_bipush (v := nI 7) hx hb dX2_pot_6 (by decide) ?_
  refine q_cvR (va_runS (rm := { frames := 0, cells := 0, slots := 0, locals := 0 }) (As := [.int (nI 4), .int (nI 0), .int (nI 7)]) (rest := []) ⟨hx, hb, hml, hown, hts⟩ (m2_requireWithin_ok l D (nI 4) (nI 0) (nI 7) (by decide)) (va_cwS 3 hts gX2_pot_X2_requireWithin rfl rfl rfl (by decide +kernel) ⟨Nat.le_of_ble_eq_true rfl, Nat.le_of_ble_eq_true rfl⟩) (q_pS (hP.sub (ws' := []) [] rfl) (hK.sub [] rfl)) rfl rfl hl.1 rfl (lv_room (Nat.le_of_ble_eq_true rfl)) dX2_pot_8 ⟨Nat.le_of_ble_eq_true rfl, Nat.le_of_ble_eq_true rfl⟩) hP hS (fun H locs hP hS => ?_)
  refine lv_iload_n hx hb dX2_pot_11 rfl (lv_at hl 2 rfl) ?_
  refine q_ts (off := 92) (tgt := 104) hx hb (by omega) dX2_pot_12 rfl rfl (by decide) ?_
  refine lv_aload_n hx hb dX2_pot_104 rfl (lv_at hl 0 rfl) ?_
  refine va_get (D := D) (ci := 2) (v := .ref (z.ad 0)) (C := RX2) (T := TX2) (N := 8) hx hb hts hi2 hown hK hP 0 rfl rfl 0 (by decide) hfl12 (fun _ h9 => h9) rfl dX2_pot_105 ?_
  refine lv_iload_n hx hb dX2_pot_108 rfl (lv_at hl 1 rfl) ?_
  refine q_ciR (va_runV (rm := { frames := 1, cells := 0, slots := 0, locals := 22 }) (As := [.int (nI k)]) (rest := []) ⟨hx, hb, hml, hown, hts⟩ (m1_guessOf l D z.cI (z.ad 0) (z.rd 0) k T hk (hI.ok1 hk)) (cwV 1 hts gX2_pot_X1_guessOf rfl rfl rfl (by decide +kernel) ⟨Nat.le_of_ble_eq_true rfl, Nat.le_of_ble_eq_true rfl⟩) (q_pV (ci := 1) (q0 := 0) (hP.sub (ws' := wT (z.ad 0) (z.rd 0) z.cI T) [1, 10] rfl) (hK.sub [0] rfl) rfl rfl) rfl rfl hl.1 rfl (lv_room (Nat.le_of_ble_eq_true rfl)) dX2_pot_109 ⟨Nat.le_of_ble_eq_true rfl, Nat.le_of_ble_eq_true rfl⟩) hP hS (fun x1 H locs e1 hP hS => ?_)
  have e1 : x1 = g_gs T k := e1
  refine hret _ _ _ _ _ rfl ?_ trivial hS dX2_pot_112
  subst e1
  rfl
set_option maxHeartbeats 4000000 in
set_option maxRecDepth 100000 in
theorem m2_pot_ok5 (l : Launch) (D : va_G) (z : Ad) (ol sn hs : Nat) (T S Y : Nat → Int32) (G : Nat → Nat → Int32) (len : Nat) (P : PS) (ch : Nat → Nat) (B : Nat) (hI : Inv B T) (k : Nat) (hk : k < 3) : q_I l yX2_pot wsX2_pot { frames := 2, cells := 0, slots := 0, locals := 44 } [.ref (z.o), .int (nI k), .int (nI 5)] (q_bp D (wX z ol sn hs T S Y G len P ch) (tyX z)) (fun v => v = g_po T k 5) (fun H => True) (fun _ => False) 0 0 := by
  refine q_goI (cc := cX2_pot) (maxL := 3) (ty := .int) (lv0 := [(0, .ref (z.o)), (1, .int (nI k)), (2, .int (nI 5))]) (by decide) rfl (Nat.le_of_ble_eq_true rfl) rfl ?_
  intro p e s m args below meth c Q ls hx hb hml hts hown hP hK hl hret
  have hi1 : ∀ w ∈ wsX10, w ∈ wsX2_pot := by decide +kernel
  have hi2 : ∀ w ∈ wsX20, w ∈ wsX2_pot := by decide +kernel
  have hfl12 := hts (.fieldLink RX2 12 "WhisperedPots" "table" "LWhisperedPots$Table;") (by decide +kernel)
  have hfl55 := hts (.fieldLink RX2 55 "WhisperedPots$Table" "row" "[I") (by decide +kernel)
  have hS : va_S (fun _ => False) s.heap s.heap [] := va_S.rf
  refine lv_iload_n hx hb dX2_pot_0 rfl (lv_at hl 1 rfl) ?_
  refine q_cvR (va_runS (rm := { frames := 0, cells := 0, slots := 0, locals := 0 }) (As := [.int (nI k)]) (rest := []) ⟨hx, hb, hml, hown, hts⟩ (m2_requirePot_ok l D k hk) (va_cwS 1 hts gX2_pot_X2_requirePot rfl rfl rfl (by decide +kernel) ⟨Nat.le_of_ble_eq_true rfl, Nat.le_of_ble_eq_true rfl⟩) (q_pS (hP.sub (ws' := []) [] rfl) (hK.sub [] rfl)) rfl rfl hl.1 rfl (lv_room (Nat.le_of_ble_eq_true rfl)) dX2_pot_1 ⟨Nat.le_of_ble_eq_true rfl, Nat.le_of_ble_eq_true rfl⟩) hP hS (fun H locs hP hS => ?_)
  refine lv_iload_n hx hb dX2_pot_4 rfl (lv_at hl 2 rfl) ?_
  refine lv_iconst (v := nI 0) hx hb dX2_pot_5 (by decide) ?_
  refine lv_bipush (v := nI 7) hx hb dX2_pot_6 (by decide) ?_
  refine q_cvR (va_runS (rm := { frames := 0, cells := 0, slots := 0, locals := 0 }) (As := [.int (nI 5), .int (nI 0), .int (nI 7)]) (rest := []) ⟨hx, hb, hml, hown, hts⟩ (m2_requireWithin_ok l D (nI 5) (nI 0) (nI 7) (by decide)) (va_cwS 3 hts gX2_pot_X2_requireWithin rfl rfl rfl (by decide +kernel) ⟨Nat.le_of_ble_eq_true rfl, Nat.le_of_ble_eq_true rfl⟩) (q_pS (hP.sub (ws' := []) [] rfl) (hK.sub [] rfl)) rfl rfl hl.1 rfl (lv_room (Nat.le_of_ble_eq_true rfl)) dX2_pot_8 ⟨Nat.le_of_ble_eq_true rfl, Nat.le_of_ble_eq_true rfl⟩) hP hS (fun H locs hP hS => ?_)
  refine lv_iload_n hx hb dX2_pot_11 rfl (lv_at hl 2 rfl) ?_
  refine q_ts (off := 101) (tgt := 113) hx hb (by omega) dX2_pot_12 rfl rfl (by decide) ?_
  refine lv_aload_n hx hb dX2_pot_113 rfl (lv_at hl 0 rfl) ?_
  refine va_get (D := D) (ci := 2) (v := .ref (z.ad 0)) (C := RX2) (T := TX2) (N := 8) hx hb hts hi2 hown hK hP 0 rfl rfl 0 (by decide) hfl12 (fun _ h9 => h9) rfl dX2_pot_114 ?_
  refine lv_iload_n hx hb dX2_pot_117 rfl (lv_at hl 1 rfl) ?_
  refine q_ciR (va_runV (rm := { frames := 1, cells := 0, slots := 0, locals := 21 }) (As := [.int (nI k)]) (rest := []) ⟨hx, hb, hml, hown, hts⟩ (m1_whyNotPour l D z.cI (z.ad 0) (z.rd 0) k T hk (hI.ok1 hk)) (cwV 1 hts gX2_pot_X1_whyNotPour rfl rfl rfl (by decide +kernel) ⟨Nat.le_of_ble_eq_true rfl, Nat.le_of_ble_eq_true rfl⟩) (q_pV (ci := 1) (q0 := 0) (hP.sub (ws' := wT (z.ad 0) (z.rd 0) z.cI T) [1, 10] rfl) (hK.sub [0] rfl) rfl rfl) rfl rfl hl.1 rfl (lv_room (Nat.le_of_ble_eq_true rfl)) dX2_pot_118 ⟨Nat.le_of_ble_eq_true rfl, Nat.le_of_ble_eq_true rfl⟩) hP hS (fun x1 H locs e1 hP hS => ?_)
  have e1 : x1 = g_wy T k := e1
  refine hret _ _ _ _ _ rfl ?_ trivial hS dX2_pot_121
  subst e1
  rfl
set_option maxHeartbeats 4000000 in
set_option maxRecDepth 100000 in
theorem m2_pot_ok6 (l : Launch) (D : va_G) (z : Ad) (ol sn hs : Nat) (T S Y : Nat → Int32) (G : Nat → Nat → Int32) (len : Nat) (P : PS) (ch : Nat → Nat) (B : Nat) (hI : Inv B T) (k : Nat) (hk : k < 3) : q_I l yX2_pot wsX2_pot { frames := 2, cells := 0, slots := 0, locals := 44 } [.ref (z.o), .int (nI k), .int (nI 6)] (q_bp D (wX z ol sn hs T S Y G len P ch) (tyX z)) (fun v => v = g_po T k 6) (fun H => True) (fun _ => False) 0 0 := by
  refine q_goI (cc := cX2_pot) (maxL := 3) (ty := .int) (lv0 := [(0, .ref (z.o)), (1, .int (nI k)), (2, .int (nI 6))]) (by decide) rfl (Nat.le_of_ble_eq_true rfl) rfl ?_
  intro p e s m args below meth c Q ls hx hb hml hts hown hP hK hl hret
  have hi1 : ∀ w ∈ wsX10, w ∈ wsX2_pot := by decide +kernel
  have hi2 : ∀ w ∈ wsX20, w ∈ wsX2_pot := by decide +kernel
  have hfl12 := hts (.fieldLink RX2 12 "WhisperedPots" "table" "LWhisperedPots$Table;") (by decide +kernel)
  have hfl55 := hts (.fieldLink RX2 55 "WhisperedPots$Table" "row" "[I") (by decide +kernel)
  have hS : va_S (fun _ => False) s.heap s.heap [] := va_S.rf
  refine lv_iload_n hx hb dX2_pot_0 rfl (lv_at hl 1 rfl) ?_
  refine q_cvR (va_runS (rm := { frames := 0, cells := 0, slots := 0, locals := 0 }) (As := [.int (nI k)]) (rest := []) ⟨hx, hb, hml, hown, hts⟩ (m2_requirePot_ok l D k hk) (va_cwS 1 hts gX2_pot_X2_requirePot rfl rfl rfl (by decide +kernel) ⟨Nat.le_of_ble_eq_true rfl, Nat.le_of_ble_eq_true rfl⟩) (q_pS (hP.sub (ws' := []) [] rfl) (hK.sub [] rfl)) rfl rfl hl.1 rfl (lv_room (Nat.le_of_ble_eq_true rfl)) dX2_pot_1 ⟨Nat.le_of_ble_eq_true rfl, Nat.le_of_ble_eq_true rfl⟩) hP hS (fun H locs hP hS => ?_)
  refine lv_iload_n hx hb dX2_pot_4 rfl (lv_at hl 2 rfl) ?_
  refine lv_iconst (v := nI 0) hx hb dX2_pot_5 (by decide) ?_
  refine lv_bipush (v := nI 7) hx hb dX2_pot_6 (by decide) ?_
  refine q_cvR (va_runS (rm := { frames := 0, cells := 0, slots := 0, locals := 0 }) (As := [.int (nI 6), .int (nI 0), .int (nI 7)]) (rest := []) ⟨hx, hb, hml, hown, hts⟩ (m2_requireWithin_ok l D (nI 6) (nI 0) (nI 7) (by decide)) (va_cwS 3 hts gX2_pot_X2_requireWithin rfl rfl rfl (by decide +kernel) ⟨Nat.le_of_ble_eq_true rfl, Nat.le_of_ble_eq_true rfl⟩) (q_pS (hP.sub (ws' := []) [] rfl) (hK.sub [] rfl)) rfl rfl hl.1 rfl (lv_room (Nat.le_of_ble_eq_true rfl)) dX2_pot_8 ⟨Nat.le_of_ble_eq_true rfl, Nat.le_of_ble_eq_true rfl⟩) hP hS (fun H locs hP hS => ?_)
  refine lv_iload_n hx hb dX2_pot_11 rfl (lv_at hl 2 rfl) ?_
  refine q_ts (off := 110) (tgt := 122) hx hb (by omega) dX2_pot_12 rfl rfl (by decide) ?_
  refine lv_aload_n hx hb dX2_pot_122 rfl (lv_at hl 0 rfl) ?_
  refine va_get (D := D) (ci := 2) (v := .ref (z.ad 0)) (C := RX2) (T := TX2) (N := 8) hx hb hts hi2 hown hK hP 0 rfl rfl 0 (by decide) hfl12 (fun _ h9 => h9) rfl dX2_pot_123 ?_
  refine va_get (D := D) (ci := 1) (v := .ref (z.rd 0)) (C := RX1) (T := TX1) (N := 1) hx hb hts hi1 hown hK hP 1 rfl rfl 0 (by decide) hfl55 (fun _ h9 => h9) rfl dX2_pot_126 ?_
  refine lv_bipush (v := nI 81) hx hb dX2_pot_129 (by decide) ?_
  refine lv_iload_n hx hb dX2_pot_131 rfl (lv_at hl 1 rfl) ?_
  refine q_addN hx hb (81 + k) (by omega) dX2_pot_132 ?_
  refine q_ld hx hb hK hP 10 0 rfl rfl (j := (81 + k)) (by omega) (by omega) rfl dX2_pot_133 ?_
  refine hret _ _ _ _ _ rfl ?_ trivial hS dX2_pot_134
  skip
  rfl
set_option maxHeartbeats 4000000 in
set_option maxRecDepth 100000 in
theorem m2_pot_ok7 (l : Launch) (D : va_G) (z : Ad) (ol sn hs : Nat) (T S Y : Nat → Int32) (G : Nat → Nat → Int32) (len : Nat) (P : PS) (ch : Nat → Nat) (B : Nat) (hI : Inv B T) (k : Nat) (hk : k < 3) : q_I l yX2_pot wsX2_pot { frames := 2, cells := 0, slots := 0, locals := 44 } [.ref (z.o), .int (nI k), .int (nI 7)] (q_bp D (wX z ol sn hs T S Y G len P ch) (tyX z)) (fun v => v = g_po T k 7) (fun H => True) (fun _ => False) 0 0 := by
  refine q_goI (cc := cX2_pot) (maxL := 3) (ty := .int) (lv0 := [(0, .ref (z.o)), (1, .int (nI k)), (2, .int (nI 7))]) (by decide) rfl (Nat.le_of_ble_eq_true rfl) rfl ?_
  intro p e s m args below meth c Q ls hx hb hml hts hown hP hK hl hret
  have hi1 : ∀ w ∈ wsX10, w ∈ wsX2_pot := by decide +kernel
  have hi2 : ∀ w ∈ wsX20, w ∈ wsX2_pot := by decide +kernel
  have hfl12 := hts (.fieldLink RX2 12 "WhisperedPots" "table" "LWhisperedPots$Table;") (by decide +kernel)
  have hfl55 := hts (.fieldLink RX2 55 "WhisperedPots$Table" "row" "[I") (by decide +kernel)
  have hS : va_S (fun _ => False) s.heap s.heap [] := va_S.rf
  refine lv_iload_n hx hb dX2_pot_0 rfl (lv_at hl 1 rfl) ?_
  refine q_cvR (va_runS (rm := { frames := 0, cells := 0, slots := 0, locals := 0 }) (As := [.int (nI k)]) (rest := []) ⟨hx, hb, hml, hown, hts⟩ (m2_requirePot_ok l D k hk) (va_cwS 1 hts gX2_pot_X2_requirePot rfl rfl rfl (by decide +kernel) ⟨Nat.le_of_ble_eq_true rfl, Nat.le_of_ble_eq_true rfl⟩) (q_pS (hP.sub (ws' := []) [] rfl) (hK.sub [] rfl)) rfl rfl hl.1 rfl (lv_room (Nat.le_of_ble_eq_true rfl)) dX2_pot_1 ⟨Nat.le_of_ble_eq_true rfl, Nat.le_of_ble_eq_true rfl⟩) hP hS (fun H locs hP hS => ?_)
  refine lv_iload_n hx hb dX2_pot_4 rfl (lv_at hl 2 rfl) ?_
  refine lv_iconst (v := nI 0) hx hb dX2_pot_5 (by decide) ?_
  refine lv_bipush (v := nI 7) hx hb dX2_pot_6 (by decide) ?_
  refine q_cvR (va_runS (rm := { frames := 0, cells := 0, slots := 0, locals := 0 }) (As := [.int (nI 7), .int (nI 0), .int (nI 7)]) (rest := []) ⟨hx, hb, hml, hown, hts⟩ (m2_requireWithin_ok l D (nI 7) (nI 0) (nI 7) (by decide)) (va_cwS 3 hts gX2_pot_X2_requireWithin rfl rfl rfl (by decide +kernel) ⟨Nat.le_of_ble_eq_true rfl, Nat.le_of_ble_eq_true rfl⟩) (q_pS (hP.sub (ws' := []) [] rfl) (hK.sub [] rfl)) rfl rfl hl.1 rfl (lv_room (Nat.le_of_ble_eq_true rfl)) dX2_pot_8 ⟨Nat.le_of_ble_eq_true rfl, Nat.le_of_ble_eq_true rfl⟩) hP hS (fun H locs hP hS => ?_)
  refine lv_iload_n hx hb dX2_pot_11 rfl (lv_at hl 2 rfl) ?_
  refine q_ts (off := 123) (tgt := 135) hx hb (by omega) dX2_pot_12 rfl rfl (by decide) ?_
  refine lv_aload_n hx hb dX2_pot_135 rfl (lv_at hl 0 rfl) ?_
  refine va_get (D := D) (ci := 2) (v := .ref (z.ad 0)) (C := RX2) (T := TX2) (N := 8) hx hb hts hi2 hown hK hP 0 rfl rfl 0 (by decide) hfl12 (fun _ h9 => h9) rfl dX2_pot_136 ?_
  refine va_get (D := D) (ci := 1) (v := .ref (z.rd 0)) (C := RX1) (T := TX1) (N := 1) hx hb hts hi1 hown hK hP 1 rfl rfl 0 (by decide) hfl55 (fun _ h9 => h9) rfl dX2_pot_139 ?_
  refine lv_bipush (v := nI 84) hx hb dX2_pot_142 (by decide) ?_
  refine lv_iload_n hx hb dX2_pot_144 rfl (lv_at hl 1 rfl) ?_
  refine q_addN hx hb (84 + k) (by omega) dX2_pot_145 ?_
  refine q_ld hx hb hK hP 10 0 rfl rfl (j := (84 + k)) (by omega) (by omega) rfl dX2_pot_146 ?_
  refine hret _ _ _ _ _ rfl ?_ trivial hS dX2_pot_147
  skip
  rfl
theorem m2_pot_ok (l : Launch) (D : va_G) (z : Ad) (ol sn hs : Nat) (T S Y : Nat → Int32) (G : Nat → Nat → Int32) (len : Nat) (P : PS) (ch : Nat → Nat) (B : Nat) (hI : Inv B T) (k : Nat) (hk : k < 3) (w : Nat) (hw : w < 8) : q_I l yX2_pot wsX2_pot { frames := 2, cells := 0, slots := 0, locals := 44 } [.ref z.o, .int (nI k), .int (nI w)] (q_bp D (wX z ol sn hs T S Y G len P ch) (tyX z)) (fun v => v = g_po T k w) (fun H => True) (fun _ => False) 0 0 := by
  match w, hw with
  | 0, _ => exact m2_pot_ok0 l D z ol sn hs T S Y G len P ch B hI k hk
  | 1, _ => exact m2_pot_ok1 l D z ol sn hs T S Y G len P ch B hI k hk
  | 2, _ => exact m2_pot_ok2 l D z ol sn hs T S Y G len P ch B hI k hk
  | 3, _ => exact m2_pot_ok3 l D z ol sn hs T S Y G len P ch B hI k hk
  | 4, _ => exact m2_pot_ok4 l D z ol sn hs T S Y G len P ch B hI k hk
  | 5, _ => exact m2_pot_ok5 l D z ol sn hs T S Y G len P ch B hI k hk
  | 6, _ => exact m2_pot_ok6 l D z ol sn hs T S Y G len P ch B hI k hk
  | 7, _ => exact m2_pot_ok7 l D z ol sn hs T S Y G len P ch B hI k hk
set_option maxHeartbeats 4000000 in
set_option maxRecDepth 100000 in
theorem m2_told_ok (l : Launch) (D : va_G) (z : Ad) (ol sn hs : Nat) (T S Y : Nat → Int32) (G : Nat → Nat → Int32) (len : Nat) (P : PS) (ch : Nat → Nat) (B : Nat) (hI : Inv B T) (k : Nat) (hk : k < 3) (g : Nat) (hg : g < 8) : q_I l yX2_told wsX2_told { frames := 1, cells := 0, slots := 0, locals := 20 } [.ref (z.o), .int (nI k), .int (nI g)] (q_bp D (wX z ol sn hs T S Y G len P ch) (tyX z)) (fun v => v = T (87 + 8 * k + g)) (fun H => True) (fun _ => False) 0 0 := by
  refine q_goI (cc := cX2_told) (maxL := 3) (ty := .int) (lv0 := [(0, .ref (z.o)), (1, .int (nI k)), (2, .int (nI g))]) (by decide) rfl (Nat.le_of_ble_eq_true rfl) rfl ?_
  intro p e s m args below meth c Q ls hx hb hml hts hown hP hK hl hret
  have hi1 : ∀ w ∈ wsX10, w ∈ wsX2_told := by decide +kernel
  have hi2 : ∀ w ∈ wsX20, w ∈ wsX2_told := by decide +kernel
  have hfl12 := hts (.fieldLink RX2 12 "WhisperedPots" "table" "LWhisperedPots$Table;") (by decide +kernel)
  have hfl55 := hts (.fieldLink RX2 55 "WhisperedPots$Table" "row" "[I") (by decide +kernel)
  have hS : va_S (fun _ => False) s.heap s.heap [] := va_S.rf
  refine lv_iload_n hx hb dX2_told_0 rfl (lv_at hl 1 rfl) ?_
  refine q_cvR (va_runS (rm := { frames := 0, cells := 0, slots := 0, locals := 0 }) (As := [.int (nI k)]) (rest := []) ⟨hx, hb, hml, hown, hts⟩ (m2_requirePot_ok l D k hk) (va_cwS 1 hts gX2_told_X2_requirePot rfl rfl rfl (by decide +kernel) ⟨Nat.le_of_ble_eq_true rfl, Nat.le_of_ble_eq_true rfl⟩) (q_pS (hP.sub (ws' := []) [] rfl) (hK.sub [] rfl)) rfl rfl hl.1 rfl (lv_room (Nat.le_of_ble_eq_true rfl)) dX2_told_1 ⟨Nat.le_of_ble_eq_true rfl, Nat.le_of_ble_eq_true rfl⟩) hP hS (fun H locs hP hS => ?_)
  refine lv_iload_n hx hb dX2_told_4 rfl (lv_at hl 2 rfl) ?_
  refine q_cvR (va_runS (rm := { frames := 0, cells := 0, slots := 0, locals := 0 }) (As := [.int (nI g)]) (rest := []) ⟨hx, hb, hml, hown, hts⟩ (m2_requireGuest_ok l D g hg) (va_cwS 1 hts gX2_told_X2_requireGuest rfl rfl rfl (by decide +kernel) ⟨Nat.le_of_ble_eq_true rfl, Nat.le_of_ble_eq_true rfl⟩) (q_pS (hP.sub (ws' := []) [] rfl) (hK.sub [] rfl)) rfl rfl hl.1 rfl (lv_room (Nat.le_of_ble_eq_true rfl)) dX2_told_5 ⟨Nat.le_of_ble_eq_true rfl, Nat.le_of_ble_eq_true rfl⟩) hP hS (fun H locs hP hS => ?_)
  refine lv_aload_n hx hb dX2_told_8 rfl (lv_at hl 0 rfl) ?_
  refine va_get (D := D) (ci := 2) (v := .ref (z.ad 0)) (C := RX2) (T := TX2) (N := 8) hx hb hts hi2 hown hK hP 0 rfl rfl 0 (by decide) hfl12 (fun _ h9 => h9) rfl dX2_told_9 ?_
  refine va_get (D := D) (ci := 1) (v := .ref (z.rd 0)) (C := RX1) (T := TX1) (N := 1) hx hb hts hi1 hown hK hP 1 rfl rfl 0 (by decide) hfl55 (fun _ h9 => h9) rfl dX2_told_12 ?_
  refine lv_bipush (v := nI 87) hx hb dX2_told_15 (by decide) ?_
  refine lv_iload_n hx hb dX2_told_17 rfl (lv_at hl 1 rfl) ?_
  refine lv_bipush (v := nI 8) hx hb dX2_told_18 (by decide) ?_
  refine q_mulN hx hb (8 * k) (by omega) dX2_told_20 ?_
  refine q_addN hx hb (87 + 8 * k) (by omega) dX2_told_21 ?_
  refine lv_iload_n hx hb dX2_told_22 rfl (lv_at hl 2 rfl) ?_
  refine q_addN hx hb (87 + 8 * k + g) (by omega) dX2_told_23 ?_
  refine q_ld hx hb hK hP 10 0 rfl rfl (j := (87 + 8 * k + g)) (by omega) (by omega) rfl dX2_told_24 ?_
  refine hret _ _ _ _ _ rfl ?_ trivial hS dX2_told_25
  skip
  rfl
set_option maxHeartbeats 4000000 in
set_option maxRecDepth 100000 in
theorem m2_tale_ok0 (l : Launch) (D : va_G) (z : Ad) (ol sn hs : Nat) (T S Y : Nat → Int32) (G : Nat → Nat → Int32) (len : Nat) (P : PS) (ch : Nat → Nat) (B : Nat) (hI : Inv B T) (r : Nat) (hr : r < tN T) : q_I l yX2_tale wsX2_tale { frames := 1, cells := 0, slots := 0, locals := 22 } [.ref (z.o), .int (nI r), .int (nI 0)] (q_bp D (wX z ol sn hs T S Y G len P ch) (tyX z)) (fun v => v = T (111 + r)) (fun H => True) (fun _ => False) 0 0 := by
  refine q_goI (cc := cX2_tale) (maxL := 4) (ty := .int) (lv0 := [(0, .ref (z.o)), (1, .int (nI r)), (2, .int (nI 0))]) (by decide) rfl (Nat.le_of_ble_eq_true rfl) rfl ?_
  intro p e s m args below meth c Q ls hx hb hml hts hown hP hK hl hret
  have hi1 : ∀ w ∈ wsX10, w ∈ wsX2_tale := by decide +kernel
  have hi2 : ∀ w ∈ wsX20, w ∈ wsX2_tale := by decide +kernel
  have hfl12 := hts (.fieldLink RX2 12 "WhisperedPots" "table" "LWhisperedPots$Table;") (by decide +kernel)
  have hfl55 := hts (.fieldLink RX2 55 "WhisperedPots$Table" "row" "[I") (by decide +kernel)
  have hS : va_S (fun _ => False) s.heap s.heap [] := va_S.rf
  have htn : tN T ≤ 24 := by rw [hI.tale.2]; exact cnt_le T 24
  have hp24 := (hI.pair hr).2
  refine lv_iload_n hx hb dX2_tale_0 rfl (lv_at hl 1 rfl) ?_
  refine lv_if_ge (tgt := 14) hx hb dX2_tale_1 (by decide) (fun c1 => ?_) (fun c1 => absurd c1 (fun z => z (q_ge0 (nI_pos (by omega)))))
  refine lv_iload_n hx hb dX2_tale_14 rfl (lv_at hl 2 rfl) ?_
  refine lv_iconst (v := nI 0) hx hb dX2_tale_15 (by decide) ?_
  refine lv_iconst (v := nI 1) hx hb dX2_tale_16 (by decide) ?_
  refine q_cvR (va_runS (rm := { frames := 0, cells := 0, slots := 0, locals := 0 }) (As := [.int (nI 0), .int (nI 0), .int (nI 1)]) (rest := []) ⟨hx, hb, hml, hown, hts⟩ (m2_requireWithin_ok l D (nI 0) (nI 0) (nI 1) (by decide)) (va_cwS 3 hts gX2_tale_X2_requireWithin rfl rfl rfl (by decide +kernel) ⟨Nat.le_of_ble_eq_true rfl, Nat.le_of_ble_eq_true rfl⟩) (q_pS (hP.sub (ws' := []) [] rfl) (hK.sub [] rfl)) rfl rfl hl.1 rfl (lv_room (Nat.le_of_ble_eq_true rfl)) dX2_tale_17 ⟨Nat.le_of_ble_eq_true rfl, Nat.le_of_ble_eq_true rfl⟩) hP hS (fun H locs hP hS => ?_)
  refine lv_iload_n hx hb dX2_tale_20 rfl (lv_at hl 1 rfl) ?_
  refine lv_aload_n hx hb dX2_tale_21 rfl (lv_at hl 0 rfl) ?_
  refine va_get (D := D) (ci := 2) (v := .ref (z.ad 0)) (C := RX2) (T := TX2) (N := 8) hx hb hts hi2 hown hK hP 0 rfl rfl 0 (by decide) hfl12 (fun _ h9 => h9) rfl dX2_tale_22 ?_
  refine va_get (D := D) (ci := 1) (v := .ref (z.rd 0)) (C := RX1) (T := TX1) (N := 1) hx hb hts hi1 hown hK hP 1 rfl rfl 0 (by decide) hfl55 (fun _ h9 => h9) rfl dX2_tale_25 ?_
  refine lv_sipush (v := nI 135) hx hb dX2_tale_28 (by decide) ?_
  refine q_ld hx hb hK hP 10 0 rfl rfl (j := 135) (v := (nI ((tN T)))) (by omega) (by omega) hI.tale.1 dX2_tale_31 ?_
  refine q_ltN (tgt := 37) hx hb (by omega) (by omega) dX2_tale_32 (by decide) (fun c2 => ?_) (fun c2 => absurd c2 (by omega))
  refine lv_aload_n hx hb dX2_tale_37 rfl (lv_at hl 0 rfl) ?_
  refine va_get (D := D) (ci := 2) (v := .ref (z.ad 0)) (C := RX2) (T := TX2) (N := 8) hx hb hts hi2 hown hK hP 0 rfl rfl 0 (by decide) hfl12 (fun _ h9 => h9) rfl dX2_tale_38 ?_
  refine va_get (D := D) (ci := 1) (v := .ref (z.rd 0)) (C := RX1) (T := TX1) (N := 1) hx hb hts hi1 hown hK hP 1 rfl rfl 0 (by decide) hfl55 (fun _ h9 => h9) rfl dX2_tale_41 ?_
  refine lv_bipush (v := nI 111) hx hb dX2_tale_44 (by decide) ?_
  refine lv_iload_n hx hb dX2_tale_46 rfl (lv_at hl 1 rfl) ?_
  refine q_addN hx hb (111 + r) (by omega) dX2_tale_47 ?_
  refine q_ld hx hb hK hP 10 0 rfl rfl (j := (111 + r)) (v := (nI ((T (111 + r)).toNatClampNeg))) (by omega) (by omega) (hI.pair hr).1 dX2_tale_48 ?_
  refine lv_istore_n (lv' := [(3, .int (nI ((T (111 + r)).toNatClampNeg))), (0, .ref (z.o)), (1, .int (nI r)), (2, .int (nI 0))]) hx hb dX2_tale_49 rfl hl (by decide) rfl (fun ls hl => ?_)
  refine lv_iload_n hx hb dX2_tale_50 rfl (lv_at hl 3 rfl) ?_
  refine lv_if_ne (tgt := 58) hx hb dX2_tale_51 (by decide) (fun c3 => absurd c3 (by decide)) (fun c3 => ?_)
  refine lv_iload_n hx hb dX2_tale_54 rfl (lv_at hl 0 rfl) ?_
  refine lv_goto (tgt := 70) hx hb dX2_tale_55 (by decide) ?_
  refine hret _ _ _ _ _ rfl ?_ trivial hS dX2_tale_70
  exact (hI.pair hr).1.symm
set_option maxHeartbeats 4000000 in
set_option maxRecDepth 100000 in
theorem m2_tale_ok1 (l : Launch) (D : va_G) (z : Ad) (ol sn hs : Nat) (T S Y : Nat → Int32) (G : Nat → Nat → Int32) (len : Nat) (P : PS) (ch : Nat → Nat) (B : Nat) (hI : Inv B T) (r : Nat) (hr : r < tN T) : q_I l yX2_tale wsX2_tale { frames := 1, cells := 0, slots := 0, locals := 22 } [.ref (z.o), .int (nI r), .int (nI 1)] (q_bp D (wX z ol sn hs T S Y G len P ch) (tyX z)) (fun v => v = T (87 + (T (111 + r)).toNatClampNeg)) (fun H => True) (fun _ => False) 0 0 := by
  refine q_goI (cc := cX2_tale) (maxL := 4) (ty := .int) (lv0 := [(0, .ref (z.o)), (1, .int (nI r)), (2, .int (nI 1))]) (by decide) rfl (Nat.le_of_ble_eq_true rfl) rfl ?_
  intro p e s m args below meth c Q ls hx hb hml hts hown hP hK hl hret
  have hi1 : ∀ w ∈ wsX10, w ∈ wsX2_tale := by decide +kernel
  have hi2 : ∀ w ∈ wsX20, w ∈ wsX2_tale := by decide +kernel
  have hfl12 := hts (.fieldLink RX2 12 "WhisperedPots" "table" "LWhisperedPots$Table;") (by decide +kernel)
  have hfl55 := hts (.fieldLink RX2 55 "WhisperedPots$Table" "row" "[I") (by decide +kernel)
  have hS : va_S (fun _ => False) s.heap s.heap [] := va_S.rf
  have htn : tN T ≤ 24 := by rw [hI.tale.2]; exact cnt_le T 24
  have hp24 := (hI.pair hr).2
  refine lv_iload_n hx hb dX2_tale_0 rfl (lv_at hl 1 rfl) ?_
  refine lv_if_ge (tgt := 14) hx hb dX2_tale_1 (by decide) (fun c1 => ?_) (fun c1 => absurd c1 (fun z => z (q_ge0 (nI_pos (by omega)))))
  refine lv_iload_n hx hb dX2_tale_14 rfl (lv_at hl 2 rfl) ?_
  refine lv_iconst (v := nI 0) hx hb dX2_tale_15 (by decide) ?_
  refine lv_iconst (v := nI 1) hx hb dX2_tale_16 (by decide) ?_
  refine q_cvR (va_runS (rm := { frames := 0, cells := 0, slots := 0, locals := 0 }) (As := [.int (nI 1), .int (nI 0), .int (nI 1)]) (rest := []) ⟨hx, hb, hml, hown, hts⟩ (m2_requireWithin_ok l D (nI 1) (nI 0) (nI 1) (by decide)) (va_cwS 3 hts gX2_tale_X2_requireWithin rfl rfl rfl (by decide +kernel) ⟨Nat.le_of_ble_eq_true rfl, Nat.le_of_ble_eq_true rfl⟩) (q_pS (hP.sub (ws' := []) [] rfl) (hK.sub [] rfl)) rfl rfl hl.1 rfl (lv_room (Nat.le_of_ble_eq_true rfl)) dX2_tale_17 ⟨Nat.le_of_ble_eq_true rfl, Nat.le_of_ble_eq_true rfl⟩) hP hS (fun H locs hP hS => ?_)
  refine lv_iload_n hx hb dX2_tale_20 rfl (lv_at hl 1 rfl) ?_
  refine lv_aload_n hx hb dX2_tale_21 rfl (lv_at hl 0 rfl) ?_
  refine va_get (D := D) (ci := 2) (v := .ref (z.ad 0)) (C := RX2) (T := TX2) (N := 8) hx hb hts hi2 hown hK hP 0 rfl rfl 0 (by decide) hfl12 (fun _ h9 => h9) rfl dX2_tale_22 ?_
  refine va_get (D := D) (ci := 1) (v := .ref (z.rd 0)) (C := RX1) (T := TX1) (N := 1) hx hb hts hi1 hown hK hP 1 rfl rfl 0 (by decide) hfl55 (fun _ h9 => h9) rfl dX2_tale_25 ?_
  refine lv_sipush (v := nI 135) hx hb dX2_tale_28 (by decide) ?_
  refine q_ld hx hb hK hP 10 0 rfl rfl (j := 135) (v := (nI ((tN T)))) (by omega) (by omega) hI.tale.1 dX2_tale_31 ?_
  refine q_ltN (tgt := 37) hx hb (by omega) (by omega) dX2_tale_32 (by decide) (fun c2 => ?_) (fun c2 => absurd c2 (by omega))
  refine lv_aload_n hx hb dX2_tale_37 rfl (lv_at hl 0 rfl) ?_
  refine va_get (D := D) (ci := 2) (v := .ref (z.ad 0)) (C := RX2) (T := TX2) (N := 8) hx hb hts hi2 hown hK hP 0 rfl rfl 0 (by decide) hfl12 (fun _ h9 => h9) rfl dX2_tale_38 ?_
  refine va_get (D := D) (ci := 1) (v := .ref (z.rd 0)) (C := RX1) (T := TX1) (N := 1) hx hb hts hi1 hown hK hP 1 rfl rfl 0 (by decide) hfl55 (fun _ h9 => h9) rfl dX2_tale_41 ?_
  refine lv_bipush (v := nI 111) hx hb dX2_tale_44 (by decide) ?_
  refine lv_iload_n hx hb dX2_tale_46 rfl (lv_at hl 1 rfl) ?_
  refine q_addN hx hb (111 + r) (by omega) dX2_tale_47 ?_
  refine q_ld hx hb hK hP 10 0 rfl rfl (j := (111 + r)) (v := (nI ((T (111 + r)).toNatClampNeg))) (by omega) (by omega) (hI.pair hr).1 dX2_tale_48 ?_
  refine lv_istore_n (lv' := [(3, .int (nI ((T (111 + r)).toNatClampNeg))), (0, .ref (z.o)), (1, .int (nI r)), (2, .int (nI 1))]) hx hb dX2_tale_49 rfl hl (by decide) rfl (fun ls hl => ?_)
  refine lv_iload_n hx hb dX2_tale_50 rfl (lv_at hl 3 rfl) ?_
  refine lv_if_ne (tgt := 58) hx hb dX2_tale_51 (by decide) (fun c3 => ?_) (fun c3 => absurd c3 (by decide))
  refine lv_aload_n hx hb dX2_tale_58 rfl (lv_at hl 1 rfl) ?_
  refine va_get (D := D) (ci := 2) (v := .ref (z.ad 0)) (C := RX2) (T := TX2) (N := 8) hx hb hts hi2 hown hK hP 0 rfl rfl 0 (by decide) hfl12 (fun _ h9 => h9) rfl dX2_tale_59 ?_
  refine va_get (D := D) (ci := 1) (v := .ref (z.rd 0)) (C := RX1) (T := TX1) (N := 1) hx hb hts hi1 hown hK hP 1 rfl rfl 0 (by decide) hfl55 (fun _ h9 => h9) rfl dX2_tale_62 ?_
  refine lv_bipush (v := nI 87) hx hb dX2_tale_65 (by decide) ?_
  refine lv_iload_n hx hb dX2_tale_67 rfl (lv_at hl 0 rfl) ?_
  refine q_addN hx hb (87 + (T (111 + r)).toNatClampNeg) (by omega) dX2_tale_68 ?_
  refine q_ld hx hb hK hP 10 0 rfl rfl (j := (87 + (T (111 + r)).toNatClampNeg)) (by omega) (by omega) rfl dX2_tale_69 ?_
  refine hret _ _ _ _ _ rfl ?_ trivial hS dX2_tale_70
  rfl
set_option maxHeartbeats 4000000 in
set_option maxRecDepth 100000 in
theorem m2_tale_no0 (l : Launch) (D : va_G) (z : Ad) (ol sn hs : Nat) (T S Y : Nat → Int32) (G : Nat → Nat → Int32) (len : Nat) (P : PS) (ch : Nat → Nat) (B : Nat) (hI : Inv B T) (xr : Int32) (h0 : ¬ xr < 0) (hr : ¬ xr < nI (tN T)) : q_I l yX2_tale wsX2_tale { frames := 1, cells := 0, slots := 0, locals := 22 } [.ref (z.o), .int xr, .int (nI 0)] (q_bp D (wX z ol sn hs T S Y G len P ch) (tyX z)) (fun v => v = -1) (fun H => True) (fun _ => False) 0 0 := by
  refine q_goI (cc := cX2_tale) (maxL := 4) (ty := .int) (lv0 := [(0, .ref (z.o)), (1, .int xr), (2, .int (nI 0))]) (by decide) rfl (Nat.le_of_ble_eq_true rfl) rfl ?_
  intro p e s m args below meth c Q ls hx hb hml hts hown hP hK hl hret
  have hi1 : ∀ w ∈ wsX10, w ∈ wsX2_tale := by decide +kernel
  have hi2 : ∀ w ∈ wsX20, w ∈ wsX2_tale := by decide +kernel
  have hfl12 := hts (.fieldLink RX2 12 "WhisperedPots" "table" "LWhisperedPots$Table;") (by decide +kernel)
  have hfl55 := hts (.fieldLink RX2 55 "WhisperedPots$Table" "row" "[I") (by decide +kernel)
  have hS : va_S (fun _ => False) s.heap s.heap [] := va_S.rf
  have htn : tN T ≤ 24 := by rw [hI.tale.2]; exact cnt_le T 24
  refine lv_iload_n hx hb dX2_tale_0 rfl (lv_at hl 1 rfl) ?_
  refine lv_if_ge (tgt := 14) hx hb dX2_tale_1 (by decide) (fun c1 => ?_) (fun c1 => absurd c1 (fun z => z (q_ge0 h0)))
  refine lv_iload_n hx hb dX2_tale_14 rfl (lv_at hl 2 rfl) ?_
  refine lv_iconst (v := nI 0) hx hb dX2_tale_15 (by decide) ?_
  refine lv_iconst (v := nI 1) hx hb dX2_tale_16 (by decide) ?_
  refine q_cvR (va_runS (rm := { frames := 0, cells := 0, slots := 0, locals := 0 }) (As := [.int (nI 0), .int (nI 0), .int (nI 1)]) (rest := []) ⟨hx, hb, hml, hown, hts⟩ (m2_requireWithin_ok l D (nI 0) (nI 0) (nI 1) (by decide)) (va_cwS 3 hts gX2_tale_X2_requireWithin rfl rfl rfl (by decide +kernel) ⟨Nat.le_of_ble_eq_true rfl, Nat.le_of_ble_eq_true rfl⟩) (q_pS (hP.sub (ws' := []) [] rfl) (hK.sub [] rfl)) rfl rfl hl.1 rfl (lv_room (Nat.le_of_ble_eq_true rfl)) dX2_tale_17 ⟨Nat.le_of_ble_eq_true rfl, Nat.le_of_ble_eq_true rfl⟩) hP hS (fun H locs hP hS => ?_)
  refine lv_iload_n hx hb dX2_tale_20 rfl (lv_at hl 1 rfl) ?_
  refine lv_aload_n hx hb dX2_tale_21 rfl (lv_at hl 0 rfl) ?_
  refine va_get (D := D) (ci := 2) (v := .ref (z.ad 0)) (C := RX2) (T := TX2) (N := 8) hx hb hts hi2 hown hK hP 0 rfl rfl 0 (by decide) hfl12 (fun _ h9 => h9) rfl dX2_tale_22 ?_
  refine va_get (D := D) (ci := 1) (v := .ref (z.rd 0)) (C := RX1) (T := TX1) (N := 1) hx hb hts hi1 hown hK hP 1 rfl rfl 0 (by decide) hfl55 (fun _ h9 => h9) rfl dX2_tale_25 ?_
  refine lv_sipush (v := nI 135) hx hb dX2_tale_28 (by decide) ?_
  refine q_ld hx hb hK hP 10 0 rfl rfl (j := 135) (v := (nI ((tN T)))) (by omega) (by omega) hI.tale.1 dX2_tale_31 ?_
  refine lv_icmp_lt (tgt := 37) hx hb dX2_tale_32 (by decide) (fun c2 => absurd c2 hr) (fun c2 => ?_)
  refine lv_iconst (v := (-1)) hx hb dX2_tale_35 (by decide) ?_
  refine hret _ _ _ _ _ rfl ?_ trivial hS dX2_tale_36
  rfl
set_option maxHeartbeats 4000000 in
set_option maxRecDepth 100000 in
theorem m2_count_ok0 (l : Launch) (D : va_G) (z : Ad) (ol sn hs : Nat) (T S Y : Nat → Int32) (G : Nat → Nat → Int32) (len : Nat) (P : PS) (ch : Nat → Nat) : q_I l yX2_count wsX2_count { frames := 3, cells := 0, slots := 0, locals := 65 } [.ref (z.o), .int (nI 0)] (q_bp D (wX z ol sn hs T S Y G len P ch) (tyX z)) (fun v => v = g_ct T sn 0) (fun H => True) (fun _ => False) 0 0 := by
  refine q_goI (cc := cX2_count) (maxL := 2) (ty := .int) (lv0 := [(0, .ref (z.o)), (1, .int (nI 0))]) (by decide) rfl (Nat.le_of_ble_eq_true rfl) rfl ?_
  intro p e s m args below meth c Q ls hx hb hml hts hown hP hK hl hret
  have hi1 : ∀ w ∈ wsX10, w ∈ wsX2_count := by decide +kernel
  have hi2 : ∀ w ∈ wsX20, w ∈ wsX2_count := by decide +kernel
  have hfl12 := hts (.fieldLink RX2 12 "WhisperedPots" "table" "LWhisperedPots$Table;") (by decide +kernel)
  have hfl55 := hts (.fieldLink RX2 55 "WhisperedPots$Table" "row" "[I") (by decide +kernel)
  have hfl37 := hts (.fieldLink RX2 37 "WhisperedPots" "savedStates" "I") (by decide +kernel)
  have hS : va_S (fun _ => False) s.heap s.heap [] := va_S.rf
  refine lv_iload_n hx hb dX2_count_0 rfl (lv_at hl 1 rfl) ?_
  refine lv_iconst (v := nI 0) hx hb dX2_count_1 (by decide) ?_
  refine lv_bipush (v := nI 9) hx hb dX2_count_2 (by decide) ?_
  refine q_cvR (va_runS (rm := { frames := 0, cells := 0, slots := 0, locals := 0 }) (As := [.int (nI 0), .int (nI 0), .int (nI 9)]) (rest := []) ⟨hx, hb, hml, hown, hts⟩ (m2_requireWithin_ok l D (nI 0) (nI 0) (nI 9) (by decide)) (va_cwS 3 hts gX2_count_X2_requireWithin rfl rfl rfl (by decide +kernel) ⟨Nat.le_of_ble_eq_true rfl, Nat.le_of_ble_eq_true rfl⟩) (q_pS (hP.sub (ws' := []) [] rfl) (hK.sub [] rfl)) rfl rfl hl.1 rfl (lv_room (Nat.le_of_ble_eq_true rfl)) dX2_count_4 ⟨Nat.le_of_ble_eq_true rfl, Nat.le_of_ble_eq_true rfl⟩) hP hS (fun H locs hP hS => ?_)
  refine lv_iload_n hx hb dX2_count_7 rfl (lv_at hl 1 rfl) ?_
  refine q_ts (off := 52) (tgt := 60) hx hb (by omega) dX2_count_8 rfl rfl (by decide) ?_
  refine lv_aload_n hx hb dX2_count_60 rfl (lv_at hl 0 rfl) ?_
  refine va_get (D := D) (ci := 2) (v := .ref (z.ad 0)) (C := RX2) (T := TX2) (N := 8) hx hb hts hi2 hown hK hP 0 rfl rfl 0 (by decide) hfl12 (fun _ h9 => h9) rfl dX2_count_61 ?_
  refine q_ciR (va_runV (rm := { frames := 1, cells := 0, slots := 0, locals := 24 }) (As := []) (rest := []) ⟨hx, hb, hml, hown, hts⟩ (m1_brewedSoFar l D z.cI (z.ad 0) (z.rd 0) T) (cwV 0 hts gX2_count_X1_brewedSoFar rfl rfl rfl (by decide +kernel) ⟨Nat.le_of_ble_eq_true rfl, Nat.le_of_ble_eq_true rfl⟩) (q_pV (ci := 1) (q0 := 0) (hP.sub (ws' := wT (z.ad 0) (z.rd 0) z.cI T) [1, 10] rfl) (hK.sub [0] rfl) rfl rfl) rfl rfl hl.1 rfl (lv_room (Nat.le_of_ble_eq_true rfl)) dX2_count_64 ⟨Nat.le_of_ble_eq_true rfl, Nat.le_of_ble_eq_true rfl⟩) hP hS (fun x1 H locs e1 hP hS => ?_)
  have e1 : x1 = g_sm T 81 3 := e1
  refine hret _ _ _ _ _ rfl ?_ trivial hS dX2_count_67
  subst e1
  rfl
set_option maxHeartbeats 4000000 in
set_option maxRecDepth 100000 in
theorem m2_count_ok1 (l : Launch) (D : va_G) (z : Ad) (ol sn hs : Nat) (T S Y : Nat → Int32) (G : Nat → Nat → Int32) (len : Nat) (P : PS) (ch : Nat → Nat) : q_I l yX2_count wsX2_count { frames := 3, cells := 0, slots := 0, locals := 65 } [.ref (z.o), .int (nI 1)] (q_bp D (wX z ol sn hs T S Y G len P ch) (tyX z)) (fun v => v = g_ct T sn 1) (fun H => True) (fun _ => False) 0 0 := by
  refine q_goI (cc := cX2_count) (maxL := 2) (ty := .int) (lv0 := [(0, .ref (z.o)), (1, .int (nI 1))]) (by decide) rfl (Nat.le_of_ble_eq_true rfl) rfl ?_
  intro p e s m args below meth c Q ls hx hb hml hts hown hP hK hl hret
  have hi1 : ∀ w ∈ wsX10, w ∈ wsX2_count := by decide +kernel
  have hi2 : ∀ w ∈ wsX20, w ∈ wsX2_count := by decide +kernel
  have hfl12 := hts (.fieldLink RX2 12 "WhisperedPots" "table" "LWhisperedPots$Table;") (by decide +kernel)
  have hfl55 := hts (.fieldLink RX2 55 "WhisperedPots$Table" "row" "[I") (by decide +kernel)
  have hfl37 := hts (.fieldLink RX2 37 "WhisperedPots" "savedStates" "I") (by decide +kernel)
  have hS : va_S (fun _ => False) s.heap s.heap [] := va_S.rf
  refine lv_iload_n hx hb dX2_count_0 rfl (lv_at hl 1 rfl) ?_
  refine lv_iconst (v := nI 0) hx hb dX2_count_1 (by decide) ?_
  refine lv_bipush (v := nI 9) hx hb dX2_count_2 (by decide) ?_
  refine q_cvR (va_runS (rm := { frames := 0, cells := 0, slots := 0, locals := 0 }) (As := [.int (nI 1), .int (nI 0), .int (nI 9)]) (rest := []) ⟨hx, hb, hml, hown, hts⟩ (m2_requireWithin_ok l D (nI 1) (nI 0) (nI 9) (by decide)) (va_cwS 3 hts gX2_count_X2_requireWithin rfl rfl rfl (by decide +kernel) ⟨Nat.le_of_ble_eq_true rfl, Nat.le_of_ble_eq_true rfl⟩) (q_pS (hP.sub (ws' := []) [] rfl) (hK.sub [] rfl)) rfl rfl hl.1 rfl (lv_room (Nat.le_of_ble_eq_true rfl)) dX2_count_4 ⟨Nat.le_of_ble_eq_true rfl, Nat.le_of_ble_eq_true rfl⟩) hP hS (fun H locs hP hS => ?_)
  refine lv_iload_n hx hb dX2_count_7 rfl (lv_at hl 1 rfl) ?_
  refine q_ts (off := 60) (tgt := 68) hx hb (by omega) dX2_count_8 rfl rfl (by decide) ?_
  refine lv_aload_n hx hb dX2_count_68 rfl (lv_at hl 0 rfl) ?_
  refine va_get (D := D) (ci := 2) (v := .ref (z.ad 0)) (C := RX2) (T := TX2) (N := 8) hx hb hts hi2 hown hK hP 0 rfl rfl 0 (by decide) hfl12 (fun _ h9 => h9) rfl dX2_count_69 ?_
  refine lv_bipush (v := nI 48) hx hb dX2_count_72 (by decide) ?_
  refine q_ciR (va_runV (rm := { frames := 1, cells := 0, slots := 0, locals := 24 }) (As := [.int (nI 48)]) (rest := []) ⟨hx, hb, hml, hown, hts⟩ (m1_sumOverGuests l D z.cI (z.ad 0) (z.rd 0) 48 T (by decide)) (cwV 1 hts gX2_count_X1_sumOverGuests rfl rfl rfl (by decide +kernel) ⟨Nat.le_of_ble_eq_true rfl, Nat.le_of_ble_eq_true rfl⟩) (q_pV (ci := 1) (q0 := 0) (hP.sub (ws' := wT (z.ad 0) (z.rd 0) z.cI T) [1, 10] rfl) (hK.sub [0] rfl) rfl rfl) rfl rfl hl.1 rfl (lv_room (Nat.le_of_ble_eq_true rfl)) dX2_count_74 ⟨Nat.le_of_ble_eq_true rfl, Nat.le_of_ble_eq_true rfl⟩) hP hS (fun x1 H locs e1 hP hS => ?_)
  have e1 : x1 = g_sm T 48 8 := e1
  refine hret _ _ _ _ _ rfl ?_ trivial hS dX2_count_77
  subst e1
  rfl
set_option maxHeartbeats 4000000 in
set_option maxRecDepth 100000 in
theorem m2_count_ok2 (l : Launch) (D : va_G) (z : Ad) (ol sn hs : Nat) (T S Y : Nat → Int32) (G : Nat → Nat → Int32) (len : Nat) (P : PS) (ch : Nat → Nat) : q_I l yX2_count wsX2_count { frames := 3, cells := 0, slots := 0, locals := 65 } [.ref (z.o), .int (nI 2)] (q_bp D (wX z ol sn hs T S Y G len P ch) (tyX z)) (fun v => v = g_ct T sn 2) (fun H => True) (fun _ => False) 0 0 := by
  refine q_goI (cc := cX2_count) (maxL := 2) (ty := .int) (lv0 := [(0, .ref (z.o)), (1, .int (nI 2))]) (by decide) rfl (Nat.le_of_ble_eq_true rfl) rfl ?_
  intro p e s m args below meth c Q ls hx hb hml hts hown hP hK hl hret
  have hi1 : ∀ w ∈ wsX10, w ∈ wsX2_count := by decide +kernel
  have hi2 : ∀ w ∈ wsX20, w ∈ wsX2_count := by decide +kernel
  have hfl12 := hts (.fieldLink RX2 12 "WhisperedPots" "table" "LWhisperedPots$Table;") (by decide +kernel)
  have hfl55 := hts (.fieldLink RX2 55 "WhisperedPots$Table" "row" "[I") (by decide +kernel)
  have hfl37 := hts (.fieldLink RX2 37 "WhisperedPots" "savedStates" "I") (by decide +kernel)
  have hS : va_S (fun _ => False) s.heap s.heap [] := va_S.rf
  refine lv_iload_n hx hb dX2_count_0 rfl (lv_at hl 1 rfl) ?_
  refine lv_iconst (v := nI 0) hx hb dX2_count_1 (by decide) ?_
  refine lv_bipush (v := nI 9) hx hb dX2_count_2 (by decide) ?_
  refine q_cvR (va_runS (rm := { frames := 0, cells := 0, slots := 0, locals := 0 }) (As := [.int (nI 2), .int (nI 0), .int (nI 9)]) (rest := []) ⟨hx, hb, hml, hown, hts⟩ (m2_requireWithin_ok l D (nI 2) (nI 0) (nI 9) (by decide)) (va_cwS 3 hts gX2_count_X2_requireWithin rfl rfl rfl (by decide +kernel) ⟨Nat.le_of_ble_eq_true rfl, Nat.le_of_ble_eq_true rfl⟩) (q_pS (hP.sub (ws' := []) [] rfl) (hK.sub [] rfl)) rfl rfl hl.1 rfl (lv_room (Nat.le_of_ble_eq_true rfl)) dX2_count_4 ⟨Nat.le_of_ble_eq_true rfl, Nat.le_of_ble_eq_true rfl⟩) hP hS (fun H locs hP hS => ?_)
  refine lv_iload_n hx hb dX2_count_7 rfl (lv_at hl 1 rfl) ?_
  refine q_ts (off := 70) (tgt := 78) hx hb (by omega) dX2_count_8 rfl rfl (by decide) ?_
  refine lv_aload_n hx hb dX2_count_78 rfl (lv_at hl 0 rfl) ?_
  refine va_get (D := D) (ci := 2) (v := .ref (z.ad 0)) (C := RX2) (T := TX2) (N := 8) hx hb hts hi2 hown hK hP 0 rfl rfl 0 (by decide) hfl12 (fun _ h9 => h9) rfl dX2_count_79 ?_
  refine lv_bipush (v := nI 56) hx hb dX2_count_82 (by decide) ?_
  refine q_ciR (va_runV (rm := { frames := 1, cells := 0, slots := 0, locals := 24 }) (As := [.int (nI 56)]) (rest := []) ⟨hx, hb, hml, hown, hts⟩ (m1_sumOverGuests l D z.cI (z.ad 0) (z.rd 0) 56 T (by decide)) (cwV 1 hts gX2_count_X1_sumOverGuests rfl rfl rfl (by decide +kernel) ⟨Nat.le_of_ble_eq_true rfl, Nat.le_of_ble_eq_true rfl⟩) (q_pV (ci := 1) (q0 := 0) (hP.sub (ws' := wT (z.ad 0) (z.rd 0) z.cI T) [1, 10] rfl) (hK.sub [0] rfl) rfl rfl) rfl rfl hl.1 rfl (lv_room (Nat.le_of_ble_eq_true rfl)) dX2_count_84 ⟨Nat.le_of_ble_eq_true rfl, Nat.le_of_ble_eq_true rfl⟩) hP hS (fun x1 H locs e1 hP hS => ?_)
  have e1 : x1 = g_sm T 56 8 := e1
  refine hret _ _ _ _ _ rfl ?_ trivial hS dX2_count_87
  subst e1
  rfl
set_option maxHeartbeats 4000000 in
set_option maxRecDepth 100000 in
theorem m2_count_ok3 (l : Launch) (D : va_G) (z : Ad) (ol sn hs : Nat) (T S Y : Nat → Int32) (G : Nat → Nat → Int32) (len : Nat) (P : PS) (ch : Nat → Nat) : q_I l yX2_count wsX2_count { frames := 3, cells := 0, slots := 0, locals := 65 } [.ref (z.o), .int (nI 3)] (q_bp D (wX z ol sn hs T S Y G len P ch) (tyX z)) (fun v => v = g_ct T sn 3) (fun H => True) (fun _ => False) 0 0 := by
  refine q_goI (cc := cX2_count) (maxL := 2) (ty := .int) (lv0 := [(0, .ref (z.o)), (1, .int (nI 3))]) (by decide) rfl (Nat.le_of_ble_eq_true rfl) rfl ?_
  intro p e s m args below meth c Q ls hx hb hml hts hown hP hK hl hret
  have hi1 : ∀ w ∈ wsX10, w ∈ wsX2_count := by decide +kernel
  have hi2 : ∀ w ∈ wsX20, w ∈ wsX2_count := by decide +kernel
  have hfl12 := hts (.fieldLink RX2 12 "WhisperedPots" "table" "LWhisperedPots$Table;") (by decide +kernel)
  have hfl55 := hts (.fieldLink RX2 55 "WhisperedPots$Table" "row" "[I") (by decide +kernel)
  have hfl37 := hts (.fieldLink RX2 37 "WhisperedPots" "savedStates" "I") (by decide +kernel)
  have hS : va_S (fun _ => False) s.heap s.heap [] := va_S.rf
  refine lv_iload_n hx hb dX2_count_0 rfl (lv_at hl 1 rfl) ?_
  refine lv_iconst (v := nI 0) hx hb dX2_count_1 (by decide) ?_
  refine lv_bipush (v := nI 9) hx hb dX2_count_2 (by decide) ?_
  refine q_cvR (va_runS (rm := { frames := 0, cells := 0, slots := 0, locals := 0 }) (As := [.int (nI 3), .int (nI 0), .int (nI 9)]) (rest := []) ⟨hx, hb, hml, hown, hts⟩ (m2_requireWithin_ok l D (nI 3) (nI 0) (nI 9) (by decide)) (va_cwS 3 hts gX2_count_X2_requireWithin rfl rfl rfl (by decide +kernel) ⟨Nat.le_of_ble_eq_true rfl, Nat.le_of_ble_eq_true rfl⟩) (q_pS (hP.sub (ws' := []) [] rfl) (hK.sub [] rfl)) rfl rfl hl.1 rfl (lv_room (Nat.le_of_ble_eq_true rfl)) dX2_count_4 ⟨Nat.le_of_ble_eq_true rfl, Nat.le_of_ble_eq_true rfl⟩) hP hS (fun H locs hP hS => ?_)
  refine lv_iload_n hx hb dX2_count_7 rfl (lv_at hl 1 rfl) ?_
  refine q_ts (off := 80) (tgt := 88) hx hb (by omega) dX2_count_8 rfl rfl (by decide) ?_
  refine lv_aload_n hx hb dX2_count_88 rfl (lv_at hl 0 rfl) ?_
  refine va_get (D := D) (ci := 2) (v := .ref (z.ad 0)) (C := RX2) (T := TX2) (N := 8) hx hb hts hi2 hown hK hP 0 rfl rfl 0 (by decide) hfl12 (fun _ h9 => h9) rfl dX2_count_89 ?_
  refine q_ciR (va_runV (rm := { frames := 1, cells := 0, slots := 0, locals := 24 }) (As := []) (rest := []) ⟨hx, hb, hml, hown, hts⟩ (m1_teaInPots l D z.cI (z.ad 0) (z.rd 0) T) (cwV 0 hts gX2_count_X1_teaInPots rfl rfl rfl (by decide +kernel) ⟨Nat.le_of_ble_eq_true rfl, Nat.le_of_ble_eq_true rfl⟩) (q_pV (ci := 1) (q0 := 0) (hP.sub (ws' := wT (z.ad 0) (z.rd 0) z.cI T) [1, 10] rfl) (hK.sub [0] rfl) rfl rfl) rfl rfl hl.1 rfl (lv_room (Nat.le_of_ble_eq_true rfl)) dX2_count_92 ⟨Nat.le_of_ble_eq_true rfl, Nat.le_of_ble_eq_true rfl⟩) hP hS (fun x1 H locs e1 hP hS => ?_)
  have e1 : x1 = g_sm T 75 3 := e1
  refine lv_aload_n hx hb dX2_count_95 rfl (lv_at hl 0 rfl) ?_
  refine va_get (D := D) (ci := 2) (v := .ref (z.ad 0)) (C := RX2) (T := TX2) (N := 8) hx hb hts hi2 hown hK hP 0 rfl rfl 0 (by decide) hfl12 (fun _ h9 => h9) rfl dX2_count_96 ?_
  refine lv_bipush (v := nI 8) hx hb dX2_count_99 (by decide) ?_
  refine q_ciR (va_runV (rm := { frames := 1, cells := 0, slots := 0, locals := 24 }) (As := [.int (nI 8)]) (rest := [.int x1]) ⟨hx, hb, hml, hown, hts⟩ (m1_sumOverGuests l D z.cI (z.ad 0) (z.rd 0) 8 T (by decide)) (cwV 1 hts gX2_count_X1_sumOverGuests rfl rfl rfl (by decide +kernel) ⟨Nat.le_of_ble_eq_true rfl, Nat.le_of_ble_eq_true rfl⟩) (q_pV (ci := 1) (q0 := 0) (hP.sub (ws' := wT (z.ad 0) (z.rd 0) z.cI T) [1, 10] rfl) (hK.sub [0] rfl) rfl rfl) rfl rfl hl.1 rfl (lv_room (Nat.le_of_ble_eq_true rfl)) dX2_count_101 ⟨Nat.le_of_ble_eq_true rfl, Nat.le_of_ble_eq_true rfl⟩) hP hS (fun x2 H locs e2 hP hS => ?_)
  have e2 : x2 = g_sm T 8 8 := e2
  refine lv_iadd hx hb dX2_count_104 ?_
  refine hret _ _ _ _ _ rfl ?_ trivial hS dX2_count_105
  subst e2 e1
  rfl
set_option maxHeartbeats 4000000 in
set_option maxRecDepth 100000 in
theorem m2_count_ok4 (l : Launch) (D : va_G) (z : Ad) (ol sn hs : Nat) (T S Y : Nat → Int32) (G : Nat → Nat → Int32) (len : Nat) (P : PS) (ch : Nat → Nat) : q_I l yX2_count wsX2_count { frames := 3, cells := 0, slots := 0, locals := 65 } [.ref (z.o), .int (nI 4)] (q_bp D (wX z ol sn hs T S Y G len P ch) (tyX z)) (fun v => v = g_ct T sn 4) (fun H => True) (fun _ => False) 0 0 := by
  refine q_goI (cc := cX2_count) (maxL := 2) (ty := .int) (lv0 := [(0, .ref (z.o)), (1, .int (nI 4))]) (by decide) rfl (Nat.le_of_ble_eq_true rfl) rfl ?_
  intro p e s m args below meth c Q ls hx hb hml hts hown hP hK hl hret
  have hi1 : ∀ w ∈ wsX10, w ∈ wsX2_count := by decide +kernel
  have hi2 : ∀ w ∈ wsX20, w ∈ wsX2_count := by decide +kernel
  have hfl12 := hts (.fieldLink RX2 12 "WhisperedPots" "table" "LWhisperedPots$Table;") (by decide +kernel)
  have hfl55 := hts (.fieldLink RX2 55 "WhisperedPots$Table" "row" "[I") (by decide +kernel)
  have hfl37 := hts (.fieldLink RX2 37 "WhisperedPots" "savedStates" "I") (by decide +kernel)
  have hS : va_S (fun _ => False) s.heap s.heap [] := va_S.rf
  refine lv_iload_n hx hb dX2_count_0 rfl (lv_at hl 1 rfl) ?_
  refine lv_iconst (v := nI 0) hx hb dX2_count_1 (by decide) ?_
  refine lv_bipush (v := nI 9) hx hb dX2_count_2 (by decide) ?_
  refine q_cvR (va_runS (rm := { frames := 0, cells := 0, slots := 0, locals := 0 }) (As := [.int (nI 4), .int (nI 0), .int (nI 9)]) (rest := []) ⟨hx, hb, hml, hown, hts⟩ (m2_requireWithin_ok l D (nI 4) (nI 0) (nI 9) (by decide)) (va_cwS 3 hts gX2_count_X2_requireWithin rfl rfl rfl (by decide +kernel) ⟨Nat.le_of_ble_eq_true rfl, Nat.le_of_ble_eq_true rfl⟩) (q_pS (hP.sub (ws' := []) [] rfl) (hK.sub [] rfl)) rfl rfl hl.1 rfl (lv_room (Nat.le_of_ble_eq_true rfl)) dX2_count_4 ⟨Nat.le_of_ble_eq_true rfl, Nat.le_of_ble_eq_true rfl⟩) hP hS (fun H locs hP hS => ?_)
  refine lv_iload_n hx hb dX2_count_7 rfl (lv_at hl 1 rfl) ?_
  refine q_ts (off := 98) (tgt := 106) hx hb (by omega) dX2_count_8 rfl rfl (by decide) ?_
  refine lv_aload_n hx hb dX2_count_106 rfl (lv_at hl 0 rfl) ?_
  refine va_get (D := D) (ci := 2) (v := .ref (z.ad 0)) (C := RX2) (T := TX2) (N := 8) hx hb hts hi2 hown hK hP 0 rfl rfl 0 (by decide) hfl12 (fun _ h9 => h9) rfl dX2_count_107 ?_
  refine q_ciR (va_runV (rm := { frames := 2, cells := 0, slots := 0, locals := 45 }) (As := []) (rest := []) ⟨hx, hb, hml, hown, hts⟩ (m1_teaByAccounts l D z.cI (z.ad 0) (z.rd 0) T) (cwV 0 hts gX2_count_X1_teaByAccounts rfl rfl rfl (by decide +kernel) ⟨Nat.le_of_ble_eq_true rfl, Nat.le_of_ble_eq_true rfl⟩) (q_pV (ci := 1) (q0 := 0) (hP.sub (ws' := wT (z.ad 0) (z.rd 0) z.cI T) [1, 10] rfl) (hK.sub [0] rfl) rfl rfl) rfl rfl hl.1 rfl (lv_room (Nat.le_of_ble_eq_true rfl)) dX2_count_110 ⟨Nat.le_of_ble_eq_true rfl, Nat.le_of_ble_eq_true rfl⟩) hP hS (fun x1 H locs e1 hP hS => ?_)
  have e1 : x1 = g_sm T 81 3 - g_sm T 48 8 - g_sm T 56 8 := e1
  refine hret _ _ _ _ _ rfl ?_ trivial hS dX2_count_113
  subst e1
  rfl
set_option maxHeartbeats 4000000 in
set_option maxRecDepth 100000 in
theorem m2_count_ok5 (l : Launch) (D : va_G) (z : Ad) (ol sn hs : Nat) (T S Y : Nat → Int32) (G : Nat → Nat → Int32) (len : Nat) (P : PS) (ch : Nat → Nat) : q_I l yX2_count wsX2_count { frames := 3, cells := 0, slots := 0, locals := 65 } [.ref (z.o), .int (nI 5)] (q_bp D (wX z ol sn hs T S Y G len P ch) (tyX z)) (fun v => v = g_ct T sn 5) (fun H => True) (fun _ => False) 0 0 := by
  refine q_goI (cc := cX2_count) (maxL := 2) (ty := .int) (lv0 := [(0, .ref (z.o)), (1, .int (nI 5))]) (by decide) rfl (Nat.le_of_ble_eq_true rfl) rfl ?_
  intro p e s m args below meth c Q ls hx hb hml hts hown hP hK hl hret
  have hi1 : ∀ w ∈ wsX10, w ∈ wsX2_count := by decide +kernel
  have hi2 : ∀ w ∈ wsX20, w ∈ wsX2_count := by decide +kernel
  have hfl12 := hts (.fieldLink RX2 12 "WhisperedPots" "table" "LWhisperedPots$Table;") (by decide +kernel)
  have hfl55 := hts (.fieldLink RX2 55 "WhisperedPots$Table" "row" "[I") (by decide +kernel)
  have hfl37 := hts (.fieldLink RX2 37 "WhisperedPots" "savedStates" "I") (by decide +kernel)
  have hS : va_S (fun _ => False) s.heap s.heap [] := va_S.rf
  refine lv_iload_n hx hb dX2_count_0 rfl (lv_at hl 1 rfl) ?_
  refine lv_iconst (v := nI 0) hx hb dX2_count_1 (by decide) ?_
  refine lv_bipush (v := nI 9) hx hb dX2_count_2 (by decide) ?_
  refine q_cvR (va_runS (rm := { frames := 0, cells := 0, slots := 0, locals := 0 }) (As := [.int (nI 5), .int (nI 0), .int (nI 9)]) (rest := []) ⟨hx, hb, hml, hown, hts⟩ (m2_requireWithin_ok l D (nI 5) (nI 0) (nI 9) (by decide)) (va_cwS 3 hts gX2_count_X2_requireWithin rfl rfl rfl (by decide +kernel) ⟨Nat.le_of_ble_eq_true rfl, Nat.le_of_ble_eq_true rfl⟩) (q_pS (hP.sub (ws' := []) [] rfl) (hK.sub [] rfl)) rfl rfl hl.1 rfl (lv_room (Nat.le_of_ble_eq_true rfl)) dX2_count_4 ⟨Nat.le_of_ble_eq_true rfl, Nat.le_of_ble_eq_true rfl⟩) hP hS (fun H locs hP hS => ?_)
  refine lv_iload_n hx hb dX2_count_7 rfl (lv_at hl 1 rfl) ?_
  refine q_ts (off := 106) (tgt := 114) hx hb (by omega) dX2_count_8 rfl rfl (by decide) ?_
  refine lv_aload_n hx hb dX2_count_114 rfl (lv_at hl 0 rfl) ?_
  refine va_get (D := D) (ci := 2) (v := .ref (z.ad 0)) (C := RX2) (T := TX2) (N := 8) hx hb hts hi2 hown hK hP 0 rfl rfl 0 (by decide) hfl12 (fun _ h9 => h9) rfl dX2_count_115 ?_
  refine va_get (D := D) (ci := 1) (v := .ref (z.rd 0)) (C := RX1) (T := TX1) (N := 1) hx hb hts hi1 hown hK hP 1 rfl rfl 0 (by decide) hfl55 (fun _ h9 => h9) rfl dX2_count_118 ?_
  refine lv_sipush (v := nI 136) hx hb dX2_count_121 (by decide) ?_
  refine q_ld hx hb hK hP 10 0 rfl rfl (j := 136) (by omega) (by omega) rfl dX2_count_124 ?_
  refine hret _ _ _ _ _ rfl ?_ trivial hS dX2_count_125
  skip
  rfl
set_option maxHeartbeats 4000000 in
set_option maxRecDepth 100000 in
theorem m2_count_ok6 (l : Launch) (D : va_G) (z : Ad) (ol sn hs : Nat) (T S Y : Nat → Int32) (G : Nat → Nat → Int32) (len : Nat) (P : PS) (ch : Nat → Nat) : q_I l yX2_count wsX2_count { frames := 3, cells := 0, slots := 0, locals := 65 } [.ref (z.o), .int (nI 6)] (q_bp D (wX z ol sn hs T S Y G len P ch) (tyX z)) (fun v => v = g_ct T sn 6) (fun H => True) (fun _ => False) 0 0 := by
  refine q_goI (cc := cX2_count) (maxL := 2) (ty := .int) (lv0 := [(0, .ref (z.o)), (1, .int (nI 6))]) (by decide) rfl (Nat.le_of_ble_eq_true rfl) rfl ?_
  intro p e s m args below meth c Q ls hx hb hml hts hown hP hK hl hret
  have hi1 : ∀ w ∈ wsX10, w ∈ wsX2_count := by decide +kernel
  have hi2 : ∀ w ∈ wsX20, w ∈ wsX2_count := by decide +kernel
  have hfl12 := hts (.fieldLink RX2 12 "WhisperedPots" "table" "LWhisperedPots$Table;") (by decide +kernel)
  have hfl55 := hts (.fieldLink RX2 55 "WhisperedPots$Table" "row" "[I") (by decide +kernel)
  have hfl37 := hts (.fieldLink RX2 37 "WhisperedPots" "savedStates" "I") (by decide +kernel)
  have hS : va_S (fun _ => False) s.heap s.heap [] := va_S.rf
  refine lv_iload_n hx hb dX2_count_0 rfl (lv_at hl 1 rfl) ?_
  refine lv_iconst (v := nI 0) hx hb dX2_count_1 (by decide) ?_
  refine lv_bipush (v := nI 9) hx hb dX2_count_2 (by decide) ?_
  refine q_cvR (va_runS (rm := { frames := 0, cells := 0, slots := 0, locals := 0 }) (As := [.int (nI 6), .int (nI 0), .int (nI 9)]) (rest := []) ⟨hx, hb, hml, hown, hts⟩ (m2_requireWithin_ok l D (nI 6) (nI 0) (nI 9) (by decide)) (va_cwS 3 hts gX2_count_X2_requireWithin rfl rfl rfl (by decide +kernel) ⟨Nat.le_of_ble_eq_true rfl, Nat.le_of_ble_eq_true rfl⟩) (q_pS (hP.sub (ws' := []) [] rfl) (hK.sub [] rfl)) rfl rfl hl.1 rfl (lv_room (Nat.le_of_ble_eq_true rfl)) dX2_count_4 ⟨Nat.le_of_ble_eq_true rfl, Nat.le_of_ble_eq_true rfl⟩) hP hS (fun H locs hP hS => ?_)
  refine lv_iload_n hx hb dX2_count_7 rfl (lv_at hl 1 rfl) ?_
  refine q_ts (off := 118) (tgt := 126) hx hb (by omega) dX2_count_8 rfl rfl (by decide) ?_
  refine lv_aload_n hx hb dX2_count_126 rfl (lv_at hl 0 rfl) ?_
  refine va_get (D := D) (ci := 2) (v := .ref (z.ad 0)) (C := RX2) (T := TX2) (N := 8) hx hb hts hi2 hown hK hP 0 rfl rfl 0 (by decide) hfl12 (fun _ h9 => h9) rfl dX2_count_127 ?_
  refine va_get (D := D) (ci := 1) (v := .ref (z.rd 0)) (C := RX1) (T := TX1) (N := 1) hx hb hts hi1 hown hK hP 1 rfl rfl 0 (by decide) hfl55 (fun _ h9 => h9) rfl dX2_count_130 ?_
  refine lv_sipush (v := nI 137) hx hb dX2_count_133 (by decide) ?_
  refine q_ld hx hb hK hP 10 0 rfl rfl (j := 137) (by omega) (by omega) rfl dX2_count_136 ?_
  refine hret _ _ _ _ _ rfl ?_ trivial hS dX2_count_137
  skip
  rfl
set_option maxHeartbeats 4000000 in
set_option maxRecDepth 100000 in
theorem m2_count_ok7 (l : Launch) (D : va_G) (z : Ad) (ol sn hs : Nat) (T S Y : Nat → Int32) (G : Nat → Nat → Int32) (len : Nat) (P : PS) (ch : Nat → Nat) : q_I l yX2_count wsX2_count { frames := 3, cells := 0, slots := 0, locals := 65 } [.ref (z.o), .int (nI 7)] (q_bp D (wX z ol sn hs T S Y G len P ch) (tyX z)) (fun v => v = g_ct T sn 7) (fun H => True) (fun _ => False) 0 0 := by
  refine q_goI (cc := cX2_count) (maxL := 2) (ty := .int) (lv0 := [(0, .ref (z.o)), (1, .int (nI 7))]) (by decide) rfl (Nat.le_of_ble_eq_true rfl) rfl ?_
  intro p e s m args below meth c Q ls hx hb hml hts hown hP hK hl hret
  have hi1 : ∀ w ∈ wsX10, w ∈ wsX2_count := by decide +kernel
  have hi2 : ∀ w ∈ wsX20, w ∈ wsX2_count := by decide +kernel
  have hfl12 := hts (.fieldLink RX2 12 "WhisperedPots" "table" "LWhisperedPots$Table;") (by decide +kernel)
  have hfl55 := hts (.fieldLink RX2 55 "WhisperedPots$Table" "row" "[I") (by decide +kernel)
  have hfl37 := hts (.fieldLink RX2 37 "WhisperedPots" "savedStates" "I") (by decide +kernel)
  have hS : va_S (fun _ => False) s.heap s.heap [] := va_S.rf
  refine lv_iload_n hx hb dX2_count_0 rfl (lv_at hl 1 rfl) ?_
  refine lv_iconst (v := nI 0) hx hb dX2_count_1 (by decide) ?_
  refine lv_bipush (v := nI 9) hx hb dX2_count_2 (by decide) ?_
  refine q_cvR (va_runS (rm := { frames := 0, cells := 0, slots := 0, locals := 0 }) (As := [.int (nI 7), .int (nI 0), .int (nI 9)]) (rest := []) ⟨hx, hb, hml, hown, hts⟩ (m2_requireWithin_ok l D (nI 7) (nI 0) (nI 9) (by decide)) (va_cwS 3 hts gX2_count_X2_requireWithin rfl rfl rfl (by decide +kernel) ⟨Nat.le_of_ble_eq_true rfl, Nat.le_of_ble_eq_true rfl⟩) (q_pS (hP.sub (ws' := []) [] rfl) (hK.sub [] rfl)) rfl rfl hl.1 rfl (lv_room (Nat.le_of_ble_eq_true rfl)) dX2_count_4 ⟨Nat.le_of_ble_eq_true rfl, Nat.le_of_ble_eq_true rfl⟩) hP hS (fun H locs hP hS => ?_)
  refine lv_iload_n hx hb dX2_count_7 rfl (lv_at hl 1 rfl) ?_
  refine q_ts (off := 130) (tgt := 138) hx hb (by omega) dX2_count_8 rfl rfl (by decide) ?_
  refine lv_aload_n hx hb dX2_count_138 rfl (lv_at hl 0 rfl) ?_
  refine va_get (D := D) (ci := 2) (v := .ref (z.ad 0)) (C := RX2) (T := TX2) (N := 8) hx hb hts hi2 hown hK hP 0 rfl rfl 0 (by decide) hfl12 (fun _ h9 => h9) rfl dX2_count_139 ?_
  refine q_ciR (va_runV (rm := { frames := 1, cells := 0, slots := 0, locals := 24 }) (As := []) (rest := []) ⟨hx, hb, hml, hown, hts⟩ (m1_handedSoFar l D z.cI (z.ad 0) (z.rd 0) T) (cwV 0 hts gX2_count_X1_handedSoFar rfl rfl rfl (by decide +kernel) ⟨Nat.le_of_ble_eq_true rfl, Nat.le_of_ble_eq_true rfl⟩) (q_pV (ci := 1) (q0 := 0) (hP.sub (ws' := wT (z.ad 0) (z.rd 0) z.cI T) [1, 10] rfl) (hK.sub [0] rfl) rfl rfl) rfl rfl hl.1 rfl (lv_room (Nat.le_of_ble_eq_true rfl)) dX2_count_142 ⟨Nat.le_of_ble_eq_true rfl, Nat.le_of_ble_eq_true rfl⟩) hP hS (fun x1 H locs e1 hP hS => ?_)
  have e1 : x1 = g_sm T 84 3 := e1
  refine hret _ _ _ _ _ rfl ?_ trivial hS dX2_count_145
  subst e1
  rfl
set_option maxHeartbeats 4000000 in
set_option maxRecDepth 100000 in
theorem m2_count_ok8 (l : Launch) (D : va_G) (z : Ad) (ol sn hs : Nat) (T S Y : Nat → Int32) (G : Nat → Nat → Int32) (len : Nat) (P : PS) (ch : Nat → Nat) : q_I l yX2_count wsX2_count { frames := 3, cells := 0, slots := 0, locals := 65 } [.ref (z.o), .int (nI 8)] (q_bp D (wX z ol sn hs T S Y G len P ch) (tyX z)) (fun v => v = g_ct T sn 8) (fun H => True) (fun _ => False) 0 0 := by
  refine q_goI (cc := cX2_count) (maxL := 2) (ty := .int) (lv0 := [(0, .ref (z.o)), (1, .int (nI 8))]) (by decide) rfl (Nat.le_of_ble_eq_true rfl) rfl ?_
  intro p e s m args below meth c Q ls hx hb hml hts hown hP hK hl hret
  have hi1 : ∀ w ∈ wsX10, w ∈ wsX2_count := by decide +kernel
  have hi2 : ∀ w ∈ wsX20, w ∈ wsX2_count := by decide +kernel
  have hfl12 := hts (.fieldLink RX2 12 "WhisperedPots" "table" "LWhisperedPots$Table;") (by decide +kernel)
  have hfl55 := hts (.fieldLink RX2 55 "WhisperedPots$Table" "row" "[I") (by decide +kernel)
  have hfl37 := hts (.fieldLink RX2 37 "WhisperedPots" "savedStates" "I") (by decide +kernel)
  have hS : va_S (fun _ => False) s.heap s.heap [] := va_S.rf
  refine lv_iload_n hx hb dX2_count_0 rfl (lv_at hl 1 rfl) ?_
  refine lv_iconst (v := nI 0) hx hb dX2_count_1 (by decide) ?_
  refine lv_bipush (v := nI 9) hx hb dX2_count_2 (by decide) ?_
  refine q_cvR (va_runS (rm := { frames := 0, cells := 0, slots := 0, locals := 0 }) (As := [.int (nI 8), .int (nI 0), .int (nI 9)]) (rest := []) ⟨hx, hb, hml, hown, hts⟩ (m2_requireWithin_ok l D (nI 8) (nI 0) (nI 9) (by decide)) (va_cwS 3 hts gX2_count_X2_requireWithin rfl rfl rfl (by decide +kernel) ⟨Nat.le_of_ble_eq_true rfl, Nat.le_of_ble_eq_true rfl⟩) (q_pS (hP.sub (ws' := []) [] rfl) (hK.sub [] rfl)) rfl rfl hl.1 rfl (lv_room (Nat.le_of_ble_eq_true rfl)) dX2_count_4 ⟨Nat.le_of_ble_eq_true rfl, Nat.le_of_ble_eq_true rfl⟩) hP hS (fun H locs hP hS => ?_)
  refine lv_iload_n hx hb dX2_count_7 rfl (lv_at hl 1 rfl) ?_
  refine q_ts (off := 138) (tgt := 146) hx hb (by omega) dX2_count_8 rfl rfl (by decide) ?_
  refine lv_aload_n hx hb dX2_count_146 rfl (lv_at hl 0 rfl) ?_
  refine va_get (D := D) (ci := 2) (v := .ref (z.ad 0)) (C := RX2) (T := TX2) (N := 8) hx hb hts hi2 hown hK hP 0 rfl rfl 0 (by decide) hfl12 (fun _ h9 => h9) rfl dX2_count_147 ?_
  refine va_get (D := D) (ci := 1) (v := .ref (z.rd 0)) (C := RX1) (T := TX1) (N := 1) hx hb hts hi1 hown hK hP 1 rfl rfl 0 (by decide) hfl55 (fun _ h9 => h9) rfl dX2_count_150 ?_
  refine lv_sipush (v := nI 135) hx hb dX2_count_153 (by decide) ?_
  refine q_ld hx hb hK hP 10 0 rfl rfl (j := 135) (by omega) (by omega) rfl dX2_count_156 ?_
  refine hret _ _ _ _ _ rfl ?_ trivial hS dX2_count_157
  skip
  rfl
set_option maxHeartbeats 4000000 in
set_option maxRecDepth 100000 in
theorem m2_count_ok9 (l : Launch) (D : va_G) (z : Ad) (ol sn hs : Nat) (T S Y : Nat → Int32) (G : Nat → Nat → Int32) (len : Nat) (P : PS) (ch : Nat → Nat) : q_I l yX2_count wsX2_count { frames := 3, cells := 0, slots := 0, locals := 65 } [.ref (z.o), .int (nI 9)] (q_bp D (wX z ol sn hs T S Y G len P ch) (tyX z)) (fun v => v = g_ct T sn 9) (fun H => True) (fun _ => False) 0 0 := by
  refine q_goI (cc := cX2_count) (maxL := 2) (ty := .int) (lv0 := [(0, .ref (z.o)), (1, .int (nI 9))]) (by decide) rfl (Nat.le_of_ble_eq_true rfl) rfl ?_
  intro p e s m args below meth c Q ls hx hb hml hts hown hP hK hl hret
  have hi1 : ∀ w ∈ wsX10, w ∈ wsX2_count := by decide +kernel
  have hi2 : ∀ w ∈ wsX20, w ∈ wsX2_count := by decide +kernel
  have hfl12 := hts (.fieldLink RX2 12 "WhisperedPots" "table" "LWhisperedPots$Table;") (by decide +kernel)
  have hfl55 := hts (.fieldLink RX2 55 "WhisperedPots$Table" "row" "[I") (by decide +kernel)
  have hfl37 := hts (.fieldLink RX2 37 "WhisperedPots" "savedStates" "I") (by decide +kernel)
  have hS : va_S (fun _ => False) s.heap s.heap [] := va_S.rf
  refine lv_iload_n hx hb dX2_count_0 rfl (lv_at hl 1 rfl) ?_
  refine lv_iconst (v := nI 0) hx hb dX2_count_1 (by decide) ?_
  refine lv_bipush (v := nI 9) hx hb dX2_count_2 (by decide) ?_
  refine q_cvR (va_runS (rm := { frames := 0, cells := 0, slots := 0, locals := 0 }) (As := [.int (nI 9), .int (nI 0), .int (nI 9)]) (rest := []) ⟨hx, hb, hml, hown, hts⟩ (m2_requireWithin_ok l D (nI 9) (nI 0) (nI 9) (by decide)) (va_cwS 3 hts gX2_count_X2_requireWithin rfl rfl rfl (by decide +kernel) ⟨Nat.le_of_ble_eq_true rfl, Nat.le_of_ble_eq_true rfl⟩) (q_pS (hP.sub (ws' := []) [] rfl) (hK.sub [] rfl)) rfl rfl hl.1 rfl (lv_room (Nat.le_of_ble_eq_true rfl)) dX2_count_4 ⟨Nat.le_of_ble_eq_true rfl, Nat.le_of_ble_eq_true rfl⟩) hP hS (fun H locs hP hS => ?_)
  refine lv_iload_n hx hb dX2_count_7 rfl (lv_at hl 1 rfl) ?_
  refine q_ts (off := 150) (tgt := 158) hx hb (by omega) dX2_count_8 rfl rfl (by decide) ?_
  refine lv_aload_n hx hb dX2_count_158 rfl (lv_at hl 0 rfl) ?_
  refine va_get (D := D) (ci := 2) (v := .int (nI sn)) (C := RX2) (T := TX2) (N := 8) hx hb hts hi2 hown hK hP 0 rfl rfl 6 (by decide) hfl37 (fun _ h9 => h9) rfl dX2_count_159 ?_
  refine hret _ _ _ _ _ rfl ?_ trivial hS dX2_count_162
  skip
  rfl
theorem m2_count_ok (l : Launch) (D : va_G) (z : Ad) (ol sn hs : Nat) (T S Y : Nat → Int32) (G : Nat → Nat → Int32) (len : Nat) (P : PS) (ch : Nat → Nat) (w : Nat) (hw : w < 10) : q_I l yX2_count wsX2_count { frames := 3, cells := 0, slots := 0, locals := 65 } [.ref z.o, .int (nI w)] (q_bp D (wX z ol sn hs T S Y G len P ch) (tyX z)) (fun v => v = g_ct T sn w) (fun H => True) (fun _ => False) 0 0 := by
  match w, hw with
  | 0, _ => exact m2_count_ok0 l D z ol sn hs T S Y G len P ch 
  | 1, _ => exact m2_count_ok1 l D z ol sn hs T S Y G len P ch 
  | 2, _ => exact m2_count_ok2 l D z ol sn hs T S Y G len P ch 
  | 3, _ => exact m2_count_ok3 l D z ol sn hs T S Y G len P ch 
  | 4, _ => exact m2_count_ok4 l D z ol sn hs T S Y G len P ch 
  | 5, _ => exact m2_count_ok5 l D z ol sn hs T S Y G len P ch 
  | 6, _ => exact m2_count_ok6 l D z ol sn hs T S Y G len P ch 
  | 7, _ => exact m2_count_ok7 l D z ol sn hs T S Y G len P ch 
  | 8, _ => exact m2_count_ok8 l D z ol sn hs T S Y G len P ch 
  | 9, _ => exact m2_count_ok9 l D z ol sn hs T S Y G len P ch 
set_option maxHeartbeats 4000000 in
set_option maxRecDepth 100000 in
theorem m2_ifPoured_ok0 (l : Launch) (D : va_G) (z : Ad) (ol sn hs : Nat) (T S Y : Nat → Int32) (G : Nat → Nat → Int32) (len : Nat) (P : PS) (ch : Nat → Nat) (B : Nat) (hI : Inv B T) (k : Nat) (hk : k < 3) : q_I l yX2_ifPoured wsX2_ifPoured { frames := 4, cells := 0, slots := 0, locals := 91 } [.ref (z.o), .int (nI k), .int (nI 0)] (q_bp D (wX z ol sn hs T S Y G len P ch) (tyX z)) (fun v => v = g_br T k 0) (fun H => True) (fun _ => False) 0 0 := by
  refine q_goI (cc := cX2_ifPoured) (maxL := 3) (ty := .int) (lv0 := [(0, .ref (z.o)), (1, .int (nI k)), (2, .int (nI 0))]) (by decide) rfl (Nat.le_of_ble_eq_true rfl) rfl ?_
  intro p e s m args below meth c Q ls hx hb hml hts hown hP hK hl hret
  have hi2 : ∀ w ∈ wsX20, w ∈ wsX2_ifPoured := by decide +kernel
  have hfl12 := hts (.fieldLink RX2 12 "WhisperedPots" "table" "LWhisperedPots$Table;") (by decide +kernel)
  have hS : va_S (fun _ => False) s.heap s.heap [] := va_S.rf
  refine lv_iload_n hx hb dX2_ifPoured_0 rfl (lv_at hl 1 rfl) ?_
  refine q_cvR (va_runS (rm := { frames := 0, cells := 0, slots := 0, locals := 0 }) (As := [.int (nI k)]) (rest := []) ⟨hx, hb, hml, hown, hts⟩ (m2_requirePot_ok l D k hk) (va_cwS 1 hts gX2_ifPoured_X2_requirePot rfl rfl rfl (by decide +kernel) ⟨Nat.le_of_ble_eq_true rfl, Nat.le_of_ble_eq_true rfl⟩) (q_pS (hP.sub (ws' := []) [] rfl) (hK.sub [] rfl)) rfl rfl hl.1 rfl (lv_room (Nat.le_of_ble_eq_true rfl)) dX2_ifPoured_1 ⟨Nat.le_of_ble_eq_true rfl, Nat.le_of_ble_eq_true rfl⟩) hP hS (fun H locs hP hS => ?_)
  refine lv_iload_n hx hb dX2_ifPoured_4 rfl (lv_at hl 2 rfl) ?_
  refine lv_iconst (v := nI 0) hx hb dX2_ifPoured_5 (by decide) ?_
  refine lv_iconst (v := nI 2) hx hb dX2_ifPoured_6 (by decide) ?_
  refine q_cvR (va_runS (rm := { frames := 0, cells := 0, slots := 0, locals := 0 }) (As := [.int (nI 0), .int (nI 0), .int (nI 2)]) (rest := []) ⟨hx, hb, hml, hown, hts⟩ (m2_requireWithin_ok l D (nI 0) (nI 0) (nI 2) (by decide)) (va_cwS 3 hts gX2_ifPoured_X2_requireWithin rfl rfl rfl (by decide +kernel) ⟨Nat.le_of_ble_eq_true rfl, Nat.le_of_ble_eq_true rfl⟩) (q_pS (hP.sub (ws' := []) [] rfl) (hK.sub [] rfl)) rfl rfl hl.1 rfl (lv_room (Nat.le_of_ble_eq_true rfl)) dX2_ifPoured_7 ⟨Nat.le_of_ble_eq_true rfl, Nat.le_of_ble_eq_true rfl⟩) hP hS (fun H locs hP hS => ?_)
  refine lv_aload_n hx hb dX2_ifPoured_10 rfl (lv_at hl 0 rfl) ?_
  refine va_get (D := D) (ci := 2) (v := .ref (z.ad 0)) (C := RX2) (T := TX2) (N := 8) hx hb hts hi2 hown hK hP 0 rfl rfl 0 (by decide) hfl12 (fun _ h9 => h9) rfl dX2_ifPoured_11 ?_
  refine lv_iload_n hx hb dX2_ifPoured_14 rfl (lv_at hl 1 rfl) ?_
  refine q_ciR (va_runV (rm := { frames := 1, cells := 0, slots := 0, locals := 21 }) (As := [.int (nI k)]) (rest := []) ⟨hx, hb, hml, hown, hts⟩ (m1_whyNotPour l D z.cI (z.ad 0) (z.rd 0) k T hk (hI.ok1 hk)) (cwV 1 hts gX2_ifPoured_X1_whyNotPour rfl rfl rfl (by decide +kernel) ⟨Nat.le_of_ble_eq_true rfl, Nat.le_of_ble_eq_true rfl⟩) (q_pV (ci := 1) (q0 := 0) (hP.sub (ws' := wT (z.ad 0) (z.rd 0) z.cI T) [1, 10] rfl) (hK.sub [0] rfl) rfl rfl) rfl rfl hl.1 rfl (lv_room (Nat.le_of_ble_eq_true rfl)) dX2_ifPoured_15 ⟨Nat.le_of_ble_eq_true rfl, Nat.le_of_ble_eq_true rfl⟩) hP hS (fun x1 H locs e1 hP hS => ?_)
  have e1 : x1 = g_wy T k := e1
  refine lv_if_eq (tgt := 23) hx hb dX2_ifPoured_18 (by decide) (fun c2 => ?_) (fun c2 => ?_)
  ·
    refine lv_iload_n hx hb dX2_ifPoured_23 rfl (lv_at hl 2 rfl) ?_
    refine lv_lookup (off := 28) (tgt := 52) hx hb dX2_ifPoured_24 (by decide) (by decide +kernel) (by decide) ?_
    refine lv_aload_n hx hb dX2_ifPoured_52 rfl (lv_at hl 0 rfl) ?_
    refine va_get (D := D) (ci := 2) (v := .ref (z.ad 0)) (C := RX2) (T := TX2) (N := 8) hx hb hts hi2 hown hK hP 0 rfl rfl 0 (by decide) hfl12 (fun _ h9 => h9) rfl dX2_ifPoured_53 ?_
    refine lv_iload_n hx hb dX2_ifPoured_56 rfl (lv_at hl 1 rfl) ?_
    refine q_ciR (va_runV (rm := { frames := 2, cells := 0, slots := 0, locals := 44 }) (As := [.int (nI k)]) (rest := []) ⟨hx, hb, hml, hown, hts⟩ (m1_comesFrom l D z.cI (z.ad 0) (z.rd 0) k T hk (hI.ok1 hk)) (cwV 1 hts gX2_ifPoured_X1_comesFrom rfl rfl rfl (by decide +kernel) ⟨Nat.le_of_ble_eq_true rfl, Nat.le_of_ble_eq_true rfl⟩) (q_pV (ci := 1) (q0 := 0) (hP.sub (ws' := wT (z.ad 0) (z.rd 0) z.cI T) [1, 10] rfl) (hK.sub [0] rfl) rfl rfl) rfl rfl hl.1 rfl (lv_room (Nat.le_of_ble_eq_true rfl)) dX2_ifPoured_57 ⟨Nat.le_of_ble_eq_true rfl, Nat.le_of_ble_eq_true rfl⟩) hP hS (fun x3 H locs e3 hP hS => ?_)
    have e3 : x3 = g_cm T k := e3
    refine hret _ _ _ _ _ rfl ?_ trivial hS dX2_ifPoured_60
    show _ = (if g_wy T k = 0 then _ else _)
    rw [if_pos (by rw [← e1, c2]), e3]
    exact (if_pos rfl).symm
  ·
    refine lv_iconst (v := (-1)) hx hb dX2_ifPoured_21 (by decide) ?_
    refine hret _ _ _ _ _ rfl ?_ trivial hS dX2_ifPoured_22
    show _ = (if g_wy T k = 0 then _ else _)
    rw [if_neg (fun z => c2 (by rw [e1, z]))]
set_option maxHeartbeats 4000000 in
set_option maxRecDepth 100000 in
theorem m2_ifPoured_ok1 (l : Launch) (D : va_G) (z : Ad) (ol sn hs : Nat) (T S Y : Nat → Int32) (G : Nat → Nat → Int32) (len : Nat) (P : PS) (ch : Nat → Nat) (B : Nat) (hI : Inv B T) (k : Nat) (hk : k < 3) : q_I l yX2_ifPoured wsX2_ifPoured { frames := 4, cells := 0, slots := 0, locals := 91 } [.ref (z.o), .int (nI k), .int (nI 1)] (q_bp D (wX z ol sn hs T S Y G len P ch) (tyX z)) (fun v => v = g_br T k 1) (fun H => True) (fun _ => False) 0 0 := by
  refine q_goI (cc := cX2_ifPoured) (maxL := 3) (ty := .int) (lv0 := [(0, .ref (z.o)), (1, .int (nI k)), (2, .int (nI 1))]) (by decide) rfl (Nat.le_of_ble_eq_true rfl) rfl ?_
  intro p e s m args below meth c Q ls hx hb hml hts hown hP hK hl hret
  have hi2 : ∀ w ∈ wsX20, w ∈ wsX2_ifPoured := by decide +kernel
  have hfl12 := hts (.fieldLink RX2 12 "WhisperedPots" "table" "LWhisperedPots$Table;") (by decide +kernel)
  have hS : va_S (fun _ => False) s.heap s.heap [] := va_S.rf
  refine lv_iload_n hx hb dX2_ifPoured_0 rfl (lv_at hl 1 rfl) ?_
  refine q_cvR (va_runS (rm := { frames := 0, cells := 0, slots := 0, locals := 0 }) (As := [.int (nI k)]) (rest := []) ⟨hx, hb, hml, hown, hts⟩ (m2_requirePot_ok l D k hk) (va_cwS 1 hts gX2_ifPoured_X2_requirePot rfl rfl rfl (by decide +kernel) ⟨Nat.le_of_ble_eq_true rfl, Nat.le_of_ble_eq_true rfl⟩) (q_pS (hP.sub (ws' := []) [] rfl) (hK.sub [] rfl)) rfl rfl hl.1 rfl (lv_room (Nat.le_of_ble_eq_true rfl)) dX2_ifPoured_1 ⟨Nat.le_of_ble_eq_true rfl, Nat.le_of_ble_eq_true rfl⟩) hP hS (fun H locs hP hS => ?_)
  refine lv_iload_n hx hb dX2_ifPoured_4 rfl (lv_at hl 2 rfl) ?_
  refine lv_iconst (v := nI 0) hx hb dX2_ifPoured_5 (by decide) ?_
  refine lv_iconst (v := nI 2) hx hb dX2_ifPoured_6 (by decide) ?_
  refine q_cvR (va_runS (rm := { frames := 0, cells := 0, slots := 0, locals := 0 }) (As := [.int (nI 1), .int (nI 0), .int (nI 2)]) (rest := []) ⟨hx, hb, hml, hown, hts⟩ (m2_requireWithin_ok l D (nI 1) (nI 0) (nI 2) (by decide)) (va_cwS 3 hts gX2_ifPoured_X2_requireWithin rfl rfl rfl (by decide +kernel) ⟨Nat.le_of_ble_eq_true rfl, Nat.le_of_ble_eq_true rfl⟩) (q_pS (hP.sub (ws' := []) [] rfl) (hK.sub [] rfl)) rfl rfl hl.1 rfl (lv_room (Nat.le_of_ble_eq_true rfl)) dX2_ifPoured_7 ⟨Nat.le_of_ble_eq_true rfl, Nat.le_of_ble_eq_true rfl⟩) hP hS (fun H locs hP hS => ?_)
  refine lv_aload_n hx hb dX2_ifPoured_10 rfl (lv_at hl 0 rfl) ?_
  refine va_get (D := D) (ci := 2) (v := .ref (z.ad 0)) (C := RX2) (T := TX2) (N := 8) hx hb hts hi2 hown hK hP 0 rfl rfl 0 (by decide) hfl12 (fun _ h9 => h9) rfl dX2_ifPoured_11 ?_
  refine lv_iload_n hx hb dX2_ifPoured_14 rfl (lv_at hl 1 rfl) ?_
  refine q_ciR (va_runV (rm := { frames := 1, cells := 0, slots := 0, locals := 21 }) (As := [.int (nI k)]) (rest := []) ⟨hx, hb, hml, hown, hts⟩ (m1_whyNotPour l D z.cI (z.ad 0) (z.rd 0) k T hk (hI.ok1 hk)) (cwV 1 hts gX2_ifPoured_X1_whyNotPour rfl rfl rfl (by decide +kernel) ⟨Nat.le_of_ble_eq_true rfl, Nat.le_of_ble_eq_true rfl⟩) (q_pV (ci := 1) (q0 := 0) (hP.sub (ws' := wT (z.ad 0) (z.rd 0) z.cI T) [1, 10] rfl) (hK.sub [0] rfl) rfl rfl) rfl rfl hl.1 rfl (lv_room (Nat.le_of_ble_eq_true rfl)) dX2_ifPoured_15 ⟨Nat.le_of_ble_eq_true rfl, Nat.le_of_ble_eq_true rfl⟩) hP hS (fun x1 H locs e1 hP hS => ?_)
  have e1 : x1 = g_wy T k := e1
  refine lv_if_eq (tgt := 23) hx hb dX2_ifPoured_18 (by decide) (fun c2 => ?_) (fun c2 => ?_)
  ·
    refine lv_iload_n hx hb dX2_ifPoured_23 rfl (lv_at hl 2 rfl) ?_
    refine lv_lookup (off := 37) (tgt := 61) hx hb dX2_ifPoured_24 (by decide) (by decide +kernel) (by decide) ?_
    refine lv_aload_n hx hb dX2_ifPoured_61 rfl (lv_at hl 0 rfl) ?_
    refine va_get (D := D) (ci := 2) (v := .ref (z.ad 0)) (C := RX2) (T := TX2) (N := 8) hx hb hts hi2 hown hK hP 0 rfl rfl 0 (by decide) hfl12 (fun _ h9 => h9) rfl dX2_ifPoured_62 ?_
    refine lv_iload_n hx hb dX2_ifPoured_65 rfl (lv_at hl 1 rfl) ?_
    refine q_ciR (va_runV (rm := { frames := 3, cells := 0, slots := 0, locals := 69 }) (As := [.int (nI k)]) (rest := []) ⟨hx, hb, hml, hown, hts⟩ (m1_wouldSpillFrom l D z.cI (z.ad 0) (z.rd 0) k T hk (hI.ok1 hk)) (cwV 1 hts gX2_ifPoured_X1_wouldSpillFrom rfl rfl rfl (by decide +kernel) ⟨Nat.le_of_ble_eq_true rfl, Nat.le_of_ble_eq_true rfl⟩) (q_pV (ci := 1) (q0 := 0) (hP.sub (ws' := wT (z.ad 0) (z.rd 0) z.cI T) [1, 10] rfl) (hK.sub [0] rfl) rfl rfl) rfl rfl hl.1 rfl (lv_room (Nat.le_of_ble_eq_true rfl)) dX2_ifPoured_66 ⟨Nat.le_of_ble_eq_true rfl, Nat.le_of_ble_eq_true rfl⟩) hP hS (fun x3 H locs e3 hP hS => ?_)
    have e3 : x3 = g_sp T k := e3
    refine hret _ _ _ _ _ rfl ?_ trivial hS dX2_ifPoured_69
    show _ = (if g_wy T k = 0 then _ else _)
    rw [if_pos (by rw [← e1, c2]), e3]
    rw [if_neg (by decide), if_pos rfl]; exact sp_ov T k
  ·
    refine lv_iconst (v := (-1)) hx hb dX2_ifPoured_21 (by decide) ?_
    refine hret _ _ _ _ _ rfl ?_ trivial hS dX2_ifPoured_22
    show _ = (if g_wy T k = 0 then _ else _)
    rw [if_neg (fun z => c2 (by rw [e1, z]))]
set_option maxHeartbeats 4000000 in
set_option maxRecDepth 100000 in
theorem m2_ifPoured_ok2 (l : Launch) (D : va_G) (z : Ad) (ol sn hs : Nat) (T S Y : Nat → Int32) (G : Nat → Nat → Int32) (len : Nat) (P : PS) (ch : Nat → Nat) (B : Nat) (hI : Inv B T) (k : Nat) (hk : k < 3) : q_I l yX2_ifPoured wsX2_ifPoured { frames := 4, cells := 0, slots := 0, locals := 91 } [.ref (z.o), .int (nI k), .int (nI 2)] (q_bp D (wX z ol sn hs T S Y G len P ch) (tyX z)) (fun v => v = g_br T k 2) (fun H => True) (fun _ => False) 0 0 := by
  refine q_goI (cc := cX2_ifPoured) (maxL := 3) (ty := .int) (lv0 := [(0, .ref (z.o)), (1, .int (nI k)), (2, .int (nI 2))]) (by decide) rfl (Nat.le_of_ble_eq_true rfl) rfl ?_
  intro p e s m args below meth c Q ls hx hb hml hts hown hP hK hl hret
  have hi2 : ∀ w ∈ wsX20, w ∈ wsX2_ifPoured := by decide +kernel
  have hfl12 := hts (.fieldLink RX2 12 "WhisperedPots" "table" "LWhisperedPots$Table;") (by decide +kernel)
  have hS : va_S (fun _ => False) s.heap s.heap [] := va_S.rf
  refine lv_iload_n hx hb dX2_ifPoured_0 rfl (lv_at hl 1 rfl) ?_
  refine q_cvR (va_runS (rm := { frames := 0, cells := 0, slots := 0, locals := 0 }) (As := [.int (nI k)]) (rest := []) ⟨hx, hb, hml, hown, hts⟩ (m2_requirePot_ok l D k hk) (va_cwS 1 hts gX2_ifPoured_X2_requirePot rfl rfl rfl (by decide +kernel) ⟨Nat.le_of_ble_eq_true rfl, Nat.le_of_ble_eq_true rfl⟩) (q_pS (hP.sub (ws' := []) [] rfl) (hK.sub [] rfl)) rfl rfl hl.1 rfl (lv_room (Nat.le_of_ble_eq_true rfl)) dX2_ifPoured_1 ⟨Nat.le_of_ble_eq_true rfl, Nat.le_of_ble_eq_true rfl⟩) hP hS (fun H locs hP hS => ?_)
  refine lv_iload_n hx hb dX2_ifPoured_4 rfl (lv_at hl 2 rfl) ?_
  refine lv_iconst (v := nI 0) hx hb dX2_ifPoured_5 (by decide) ?_
  refine lv_iconst (v := nI 2) hx hb dX2_ifPoured_6 (by decide) ?_
  refine q_cvR (va_runS (rm := { frames := 0, cells := 0, slots := 0, locals := 0 }) (As := [.int (nI 2), .int (nI 0), .int (nI 2)]) (rest := []) ⟨hx, hb, hml, hown, hts⟩ (m2_requireWithin_ok l D (nI 2) (nI 0) (nI 2) (by decide)) (va_cwS 3 hts gX2_ifPoured_X2_requireWithin rfl rfl rfl (by decide +kernel) ⟨Nat.le_of_ble_eq_true rfl, Nat.le_of_ble_eq_true rfl⟩) (q_pS (hP.sub (ws' := []) [] rfl) (hK.sub [] rfl)) rfl rfl hl.1 rfl (lv_room (Nat.le_of_ble_eq_true rfl)) dX2_ifPoured_7 ⟨Nat.le_of_ble_eq_true rfl, Nat.le_of_ble_eq_true rfl⟩) hP hS (fun H locs hP hS => ?_)
  refine lv_aload_n hx hb dX2_ifPoured_10 rfl (lv_at hl 0 rfl) ?_
  refine va_get (D := D) (ci := 2) (v := .ref (z.ad 0)) (C := RX2) (T := TX2) (N := 8) hx hb hts hi2 hown hK hP 0 rfl rfl 0 (by decide) hfl12 (fun _ h9 => h9) rfl dX2_ifPoured_11 ?_
  refine lv_iload_n hx hb dX2_ifPoured_14 rfl (lv_at hl 1 rfl) ?_
  refine q_ciR (va_runV (rm := { frames := 1, cells := 0, slots := 0, locals := 21 }) (As := [.int (nI k)]) (rest := []) ⟨hx, hb, hml, hown, hts⟩ (m1_whyNotPour l D z.cI (z.ad 0) (z.rd 0) k T hk (hI.ok1 hk)) (cwV 1 hts gX2_ifPoured_X1_whyNotPour rfl rfl rfl (by decide +kernel) ⟨Nat.le_of_ble_eq_true rfl, Nat.le_of_ble_eq_true rfl⟩) (q_pV (ci := 1) (q0 := 0) (hP.sub (ws' := wT (z.ad 0) (z.rd 0) z.cI T) [1, 10] rfl) (hK.sub [0] rfl) rfl rfl) rfl rfl hl.1 rfl (lv_room (Nat.le_of_ble_eq_true rfl)) dX2_ifPoured_15 ⟨Nat.le_of_ble_eq_true rfl, Nat.le_of_ble_eq_true rfl⟩) hP hS (fun x1 H locs e1 hP hS => ?_)
  have e1 : x1 = g_wy T k := e1
  refine lv_if_eq (tgt := 23) hx hb dX2_ifPoured_18 (by decide) (fun c2 => ?_) (fun c2 => ?_)
  ·
    refine lv_iload_n hx hb dX2_ifPoured_23 rfl (lv_at hl 2 rfl) ?_
    refine lv_lookup (off := 46) (tgt := 70) hx hb dX2_ifPoured_24 (by decide) (by decide +kernel) (by decide) ?_
    refine lv_aload_n hx hb dX2_ifPoured_70 rfl (lv_at hl 0 rfl) ?_
    refine va_get (D := D) (ci := 2) (v := .ref (z.ad 0)) (C := RX2) (T := TX2) (N := 8) hx hb hts hi2 hown hK hP 0 rfl rfl 0 (by decide) hfl12 (fun _ h9 => h9) rfl dX2_ifPoured_71 ?_
    refine lv_iload_n hx hb dX2_ifPoured_74 rfl (lv_at hl 1 rfl) ?_
    refine q_ciR (va_runV (rm := { frames := 1, cells := 0, slots := 0, locals := 34 }) (As := [.int (nI k)]) (rest := []) ⟨hx, hb, hml, hown, hts⟩ (m1_trustAfter l D z.cI (z.ad 0) (z.rd 0) k T hk (hI.ok1 hk)) (cwV 1 hts gX2_ifPoured_X1_trustAfter rfl rfl rfl (by decide +kernel) ⟨Nat.le_of_ble_eq_true rfl, Nat.le_of_ble_eq_true rfl⟩) (q_pV (ci := 1) (q0 := 0) (hP.sub (ws' := wT (z.ad 0) (z.rd 0) z.cI T) [1, 10] rfl) (hK.sub [0] rfl) rfl rfl) rfl rfl hl.1 rfl (lv_room (Nat.le_of_ble_eq_true rfl)) dX2_ifPoured_75 ⟨Nat.le_of_ble_eq_true rfl, Nat.le_of_ble_eq_true rfl⟩) hP hS (fun x3 H locs e3 hP hS => ?_)
    have e3 : x3 = g_tr T k := e3
    refine hret _ _ _ _ _ rfl ?_ trivial hS dX2_ifPoured_78
    show _ = (if g_wy T k = 0 then _ else _)
    rw [if_pos (by rw [← e1, c2]), e3]
    rw [if_neg (by decide), if_neg (by decide)]
  ·
    refine lv_iconst (v := (-1)) hx hb dX2_ifPoured_21 (by decide) ?_
    refine hret _ _ _ _ _ rfl ?_ trivial hS dX2_ifPoured_22
    show _ = (if g_wy T k = 0 then _ else _)
    rw [if_neg (fun z => c2 (by rw [e1, z]))]
theorem m2_ifPoured_ok (l : Launch) (D : va_G) (z : Ad) (ol sn hs : Nat) (T S Y : Nat → Int32) (G : Nat → Nat → Int32) (len : Nat) (P : PS) (ch : Nat → Nat) (B : Nat) (hI : Inv B T) (k : Nat) (hk : k < 3) (w : Nat) (hw : w < 3) : q_I l yX2_ifPoured wsX2_ifPoured { frames := 4, cells := 0, slots := 0, locals := 91 } [.ref z.o, .int (nI k), .int (nI w)] (q_bp D (wX z ol sn hs T S Y G len P ch) (tyX z)) (fun v => v = g_br T k w) (fun H => True) (fun _ => False) 0 0 := by
  match w, hw with
  | 0, _ => exact m2_ifPoured_ok0 l D z ol sn hs T S Y G len P ch B hI k hk
  | 1, _ => exact m2_ifPoured_ok1 l D z ol sn hs T S Y G len P ch B hI k hk
  | 2, _ => exact m2_ifPoured_ok2 l D z ol sn hs T S Y G len P ch B hI k hk
