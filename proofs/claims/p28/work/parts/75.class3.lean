set_option maxHeartbeats 4000000 in
set_option maxRecDepth 100000 in
theorem m2_save6 (l : Launch) (D : va_G) (z : Ad) (ol hs : Nat) (hol : ol < 6) (T S Y : Nat → Int32) (G : Nat → Nat → Int32) (len : Nat) (P : PS) (ch : Nat → Nat) (hD : va_D (fun _ => True) (wX z ol 6 hs T S Y G len P ch)) : q_V l yX2_saveState wsX2_saveState { frames := 2, cells := 0, slots := 0, locals := 81 } [.ref (z.o)] (q_bp D (wX z ol 6 hs T S Y G len P ch) (tyX z)) (fun H => va_P D vwCl (wX z (((1 + ol) % 6)) 6 hs T S Y (updG G ((5 + (1 + ol) % 6) % 6) T) len P ch) H) (AX z) 0 0 := by
  refine q_goV (cc := cX2_saveState) (maxL := 1) (lv0 := [(0, .ref (z.o))]) (by decide) rfl (Nat.le_of_ble_eq_true rfl) rfl ?_
  intro p e s m args below meth c Q ls hx hb hml hts hown hP hK hl hret hnm
  have hi2 : ∀ w ∈ wsX20, w ∈ wsX2_saveState := by decide +kernel
  have hfl37 := hts (.fieldLink RX2 37 "WhisperedPots" "savedStates" "I") (by decide +kernel)
  have hfl33 := hts (.fieldLink RX2 33 "WhisperedPots" "oldestSaved" "I") (by decide +kernel)
  have hfl22 := hts (.fieldLink RX2 22 "WhisperedPots" "savedTables" "[LWhisperedPots$Table;") (by decide +kernel)
  have hfl12 := hts (.fieldLink RX2 12 "WhisperedPots" "table" "LWhisperedPots$Table;") (by decide +kernel)
  have hS : va_S (AX z) s.heap s.heap [] := va_S.rf
  refine lv_aload_n hx hb dX2_saveState_0 rfl (lv_at hl 0 rfl) ?_
  refine va_get (D := D) (ci := 2) (v := .int (nI 6)) (C := RX2) (T := TX2) (N := 8) hx hb hts hi2 hown hK hP 0 rfl rfl 6 (by decide) hfl37 (fun _ h9 => h9) rfl dX2_saveState_1 ?_
  refine lv_bipush (v := nI 6) hx hb dX2_saveState_4 (by decide) ?_
  refine q_neN (tgt := 32) hx hb (by omega) (by omega) dX2_saveState_6 (by decide) (fun c1 => absurd c1 (by decide)) (fun c1 => ?_)
  refine lv_aload_n hx hb dX2_saveState_9 rfl (lv_at hl 0 rfl) ?_
  refine lv_aload_n hx hb dX2_saveState_10 rfl (lv_at hl 0 rfl) ?_
  refine va_get (D := D) (ci := 2) (v := .int (nI ol)) (C := RX2) (T := TX2) (N := 8) hx hb hts hi2 hown hK hP 0 rfl rfl 5 (by decide) hfl33 (fun _ h9 => h9) rfl dX2_saveState_11 ?_
  refine lv_iconst (v := nI 1) hx hb dX2_saveState_14 (by decide) ?_
  refine q_addN hx hb (1 + ol) (by omega) dX2_saveState_15 ?_
  refine lv_bipush (v := nI 6) hx hb dX2_saveState_16 (by decide) ?_
  refine q_remN hx hb ((1 + ol) % 6) rfl (by omega) (by omega) (by omega) dX2_saveState_18 ?_
  refine q_pt (D := D) (ci := 2) (v := .int (nI ((1 + ol) % 6))) (ty := .int) (C := RX2) (T := TX2) (N := 8) hx hb hts hi2 tyX2 tyX2_ok nmX2 hown hK hP hD hS (AX_i 0 rfl) 0 rfl rfl 5 (by decide) hfl33 (fun _ h9 => h9) rfl (by decide +kernel) rfl rfl (Nat.le_of_ble_eq_true rfl) (ws' := wX z ((1 + ol) % 6) 6 hs T S Y G len P ch) rfl dX2_saveState_19 (fun H locs hP hD hS => ?_)
  refine lv_aload_n hx hb dX2_saveState_22 rfl (lv_at hl 0 rfl) ?_
  refine lv_dup hx hb dX2_saveState_23 rfl ?_
  refine va_get (D := D) (ci := 2) (v := .int (nI 6)) (C := RX2) (T := TX2) (N := 8) hx hb hts hi2 hown hK hP 0 rfl rfl 6 (by decide) hfl37 (fun _ h9 => h9) rfl dX2_saveState_24 ?_
  refine lv_iconst (v := nI 1) hx hb dX2_saveState_27 (by decide) ?_
  refine q_subN hx hb 5 (by omega) dX2_saveState_28 ?_
  refine q_pt (D := D) (ci := 2) (v := .int (nI 5)) (ty := .int) (C := RX2) (T := TX2) (N := 8) hx hb hts hi2 tyX2 tyX2_ok nmX2 hown hK hP hD hS (AX_i 0 rfl) 0 rfl rfl 6 (by decide) hfl37 (fun _ h9 => h9) rfl (by decide +kernel) rfl rfl (Nat.le_of_ble_eq_true rfl) (ws' := wX z ((1 + ol) % 6) 5 hs T S Y G len P ch) rfl dX2_saveState_29 (fun H locs hP hD hS => ?_)
  refine lv_aload_n hx hb dX2_saveState_32 rfl (lv_at hl 0 rfl) ?_
  refine va_get (D := D) (ci := 2) (v := .ref (z.sa)) (C := RX2) (T := TX2) (N := 8) hx hb hts hi2 hown hK hP 0 rfl rfl 3 (by decide) hfl22 (fun _ h9 => h9) rfl dX2_saveState_33 ?_
  refine lv_aload_n hx hb dX2_saveState_36 rfl (lv_at hl 0 rfl) ?_
  refine va_get (D := D) (ci := 2) (v := .int (nI ((1 + ol) % 6))) (C := RX2) (T := TX2) (N := 8) hx hb hts hi2 hown hK hP 0 rfl rfl 5 (by decide) hfl33 (fun _ h9 => h9) rfl dX2_saveState_37 ?_
  refine lv_aload_n hx hb dX2_saveState_40 rfl (lv_at hl 0 rfl) ?_
  refine va_get (D := D) (ci := 2) (v := .int (nI 5)) (C := RX2) (T := TX2) (N := 8) hx hb hts hi2 hown hK hP 0 rfl rfl 6 (by decide) hfl37 (fun _ h9 => h9) rfl dX2_saveState_41 ?_
  refine q_addN hx hb (5 + (1 + ol) % 6) (by omega) dX2_saveState_44 ?_
  refine lv_bipush (v := nI 6) hx hb dX2_saveState_45 (by decide) ?_
  refine q_remN hx hb ((5 + (1 + ol) % 6) % 6) rfl (by omega) (by omega) (by omega) dX2_saveState_47 ?_
  refine q_ldq hx hb hK hP 19 1 rfl rfl (j := ((5 + (1 + ol) % 6) % 6)) (v := z.ad (3 + ((5 + (1 + ol) % 6) % 6))) (by omega) (by omega) rfl dX2_saveState_48 ?_
  refine lv_aload_n hx hb dX2_saveState_49 rfl (lv_at hl 0 rfl) ?_
  refine va_get (D := D) (ci := 2) (v := .ref (z.ad 0)) (C := RX2) (T := TX2) (N := 8) hx hb hts hi2 hown hK hP 0 rfl rfl 0 (by decide) hfl12 (fun _ h9 => h9) rfl dX2_saveState_50 ?_
  have hk6 : ((5 + (1 + ol) % 6) % 6) < 6 := Nat.mod_lt _ (by decide)
  refine q_cv2 (i := 13 + ((5 + (1 + ol) % 6) % 6)) (j := 10) (ws' := wX z ((1 + ol) % 6) 5 hs T S Y (updG G ((5 + (1 + ol) % 6) % 6) T) len P ch) (va_runV (rm := { frames := 1, cells := 0, slots := 0, locals := 60 }) (As := [.ref (z.ad 0)]) (rest := []) ⟨hx, hb, hml, hown, hts⟩ (m1_copyFrom l D z.cI (z.ad (3 + ((5 + (1 + ol) % 6) % 6))) (z.rd (3 + ((5 + (1 + ol) % 6) % 6))) (z.ad 0) (z.rd 0) (G ((5 + (1 + ol) % 6) % 6)) T (wX_Dto hD hk6)) (cwV 1 hts gX2_saveState_X1_copyFrom rfl rfl rfl (by decide +kernel) ⟨Nat.le_of_ble_eq_true rfl, Nat.le_of_ble_eq_true rfl⟩) (q_pV (ci := 1) (q0 := 0) (wX_to hP hk6) (hK.sub [0] rfl) rfl rfl) rfl rfl hl.1 rfl (lv_room (Nat.le_of_ble_eq_true rfl)) dX2_saveState_53 ⟨Nat.le_of_ble_eq_true rfl, Nat.le_of_ble_eq_true rfl⟩) hP hD hS (wX_rd hk6) (by rfl) (AX_rd hk6) (AX_i 10 rfl) (by rw [wX_set hk6]; rfl) (fun H locs hP hD hS => ?_)
  refine lv_aload_n hx hb dX2_saveState_56 rfl (lv_at hl 0 rfl) ?_
  refine lv_dup hx hb dX2_saveState_57 rfl ?_
  refine va_get (D := D) (ci := 2) (v := .int (nI 5)) (C := RX2) (T := TX2) (N := 8) hx hb hts hi2 hown hK hP 0 rfl rfl 6 (by decide) hfl37 (fun _ h9 => h9) rfl dX2_saveState_58 ?_
  refine lv_iconst (v := nI 1) hx hb dX2_saveState_61 (by decide) ?_
  refine q_addN hx hb 6 (by omega) dX2_saveState_62 ?_
  refine q_pt (D := D) (ci := 2) (v := .int (nI 6)) (ty := .int) (C := RX2) (T := TX2) (N := 8) hx hb hts hi2 tyX2 tyX2_ok nmX2 hown hK hP hD hS (AX_i 0 rfl) 0 rfl rfl 6 (by decide) hfl37 (fun _ h9 => h9) rfl (by decide +kernel) rfl rfl (Nat.le_of_ble_eq_true rfl) (ws' := wX z ((1 + ol) % 6) 6 hs T S Y (updG G ((5 + (1 + ol) % 6) % 6) T) len P ch) rfl dX2_saveState_63 (fun H locs hP hD hS => ?_)
  exact hret _ _ _ _ hP hS dX2_saveState_66
set_option maxHeartbeats 4000000 in
set_option maxRecDepth 100000 in
theorem m2_saven (l : Launch) (D : va_G) (z : Ad) (ol sn hs : Nat) (hol : ol < 6) (hsn : sn < 6) (T S Y : Nat → Int32) (G : Nat → Nat → Int32) (len : Nat) (P : PS) (ch : Nat → Nat) (hD : va_D (fun _ => True) (wX z ol sn hs T S Y G len P ch)) : q_V l yX2_saveState wsX2_saveState { frames := 2, cells := 0, slots := 0, locals := 81 } [.ref (z.o)] (q_bp D (wX z ol sn hs T S Y G len P ch) (tyX z)) (fun H => va_P D vwCl (wX z ol ((sn + 1)) hs T S Y (updG G ((ol + sn) % 6) T) len P ch) H) (AX z) 0 0 := by
  refine q_goV (cc := cX2_saveState) (maxL := 1) (lv0 := [(0, .ref (z.o))]) (by decide) rfl (Nat.le_of_ble_eq_true rfl) rfl ?_
  intro p e s m args below meth c Q ls hx hb hml hts hown hP hK hl hret hnm
  have hi2 : ∀ w ∈ wsX20, w ∈ wsX2_saveState := by decide +kernel
  have hfl37 := hts (.fieldLink RX2 37 "WhisperedPots" "savedStates" "I") (by decide +kernel)
  have hfl33 := hts (.fieldLink RX2 33 "WhisperedPots" "oldestSaved" "I") (by decide +kernel)
  have hfl22 := hts (.fieldLink RX2 22 "WhisperedPots" "savedTables" "[LWhisperedPots$Table;") (by decide +kernel)
  have hfl12 := hts (.fieldLink RX2 12 "WhisperedPots" "table" "LWhisperedPots$Table;") (by decide +kernel)
  have hS : va_S (AX z) s.heap s.heap [] := va_S.rf
  refine lv_aload_n hx hb dX2_saveState_0 rfl (lv_at hl 0 rfl) ?_
  refine va_get (D := D) (ci := 2) (v := .int (nI sn)) (C := RX2) (T := TX2) (N := 8) hx hb hts hi2 hown hK hP 0 rfl rfl 6 (by decide) hfl37 (fun _ h9 => h9) rfl dX2_saveState_1 ?_
  refine lv_bipush (v := nI 6) hx hb dX2_saveState_4 (by decide) ?_
  refine q_neN (tgt := 32) hx hb (by omega) (by omega) dX2_saveState_6 (by decide) (fun c1 => ?_) (fun c1 => absurd c1 (by omega))
  refine lv_aload_n hx hb dX2_saveState_32 rfl (lv_at hl 0 rfl) ?_
  refine va_get (D := D) (ci := 2) (v := .ref (z.sa)) (C := RX2) (T := TX2) (N := 8) hx hb hts hi2 hown hK hP 0 rfl rfl 3 (by decide) hfl22 (fun _ h9 => h9) rfl dX2_saveState_33 ?_
  refine lv_aload_n hx hb dX2_saveState_36 rfl (lv_at hl 0 rfl) ?_
  refine va_get (D := D) (ci := 2) (v := .int (nI ol)) (C := RX2) (T := TX2) (N := 8) hx hb hts hi2 hown hK hP 0 rfl rfl 5 (by decide) hfl33 (fun _ h9 => h9) rfl dX2_saveState_37 ?_
  refine lv_aload_n hx hb dX2_saveState_40 rfl (lv_at hl 0 rfl) ?_
  refine va_get (D := D) (ci := 2) (v := .int (nI sn)) (C := RX2) (T := TX2) (N := 8) hx hb hts hi2 hown hK hP 0 rfl rfl 6 (by decide) hfl37 (fun _ h9 => h9) rfl dX2_saveState_41 ?_
  refine q_addN hx hb (ol + sn) (by omega) dX2_saveState_44 ?_
  refine lv_bipush (v := nI 6) hx hb dX2_saveState_45 (by decide) ?_
  refine q_remN hx hb ((ol + sn) % 6) rfl (by omega) (by omega) (by omega) dX2_saveState_47 ?_
  refine q_ldq hx hb hK hP 19 1 rfl rfl (j := ((ol + sn) % 6)) (v := z.ad (3 + ((ol + sn) % 6))) (by omega) (by omega) rfl dX2_saveState_48 ?_
  refine lv_aload_n hx hb dX2_saveState_49 rfl (lv_at hl 0 rfl) ?_
  refine va_get (D := D) (ci := 2) (v := .ref (z.ad 0)) (C := RX2) (T := TX2) (N := 8) hx hb hts hi2 hown hK hP 0 rfl rfl 0 (by decide) hfl12 (fun _ h9 => h9) rfl dX2_saveState_50 ?_
  have hk6 : ((ol + sn) % 6) < 6 := Nat.mod_lt _ (by decide)
  refine q_cv2 (i := 13 + ((ol + sn) % 6)) (j := 10) (ws' := wX z ol sn hs T S Y (updG G ((ol + sn) % 6) T) len P ch) (va_runV (rm := { frames := 1, cells := 0, slots := 0, locals := 60 }) (As := [.ref (z.ad 0)]) (rest := []) ⟨hx, hb, hml, hown, hts⟩ (m1_copyFrom l D z.cI (z.ad (3 + ((ol + sn) % 6))) (z.rd (3 + ((ol + sn) % 6))) (z.ad 0) (z.rd 0) (G ((ol + sn) % 6)) T (wX_Dto hD hk6)) (cwV 1 hts gX2_saveState_X1_copyFrom rfl rfl rfl (by decide +kernel) ⟨Nat.le_of_ble_eq_true rfl, Nat.le_of_ble_eq_true rfl⟩) (q_pV (ci := 1) (q0 := 0) (wX_to hP hk6) (hK.sub [0] rfl) rfl rfl) rfl rfl hl.1 rfl (lv_room (Nat.le_of_ble_eq_true rfl)) dX2_saveState_53 ⟨Nat.le_of_ble_eq_true rfl, Nat.le_of_ble_eq_true rfl⟩) hP hD hS (wX_rd hk6) (by rfl) (AX_rd hk6) (AX_i 10 rfl) (by rw [wX_set hk6]; rfl) (fun H locs hP hD hS => ?_)
  refine lv_aload_n hx hb dX2_saveState_56 rfl (lv_at hl 0 rfl) ?_
  refine lv_dup hx hb dX2_saveState_57 rfl ?_
  refine va_get (D := D) (ci := 2) (v := .int (nI sn)) (C := RX2) (T := TX2) (N := 8) hx hb hts hi2 hown hK hP 0 rfl rfl 6 (by decide) hfl37 (fun _ h9 => h9) rfl dX2_saveState_58 ?_
  refine lv_iconst (v := nI 1) hx hb dX2_saveState_61 (by decide) ?_
  refine q_addN hx hb (1 + sn) (by omega) dX2_saveState_62 ?_
  refine q_pt (D := D) (ci := 2) (v := .int (nI (1 + sn))) (ty := .int) (C := RX2) (T := TX2) (N := 8) hx hb hts hi2 tyX2 tyX2_ok nmX2 hown hK hP hD hS (AX_i 0 rfl) 0 rfl rfl 6 (by decide) hfl37 (fun _ h9 => h9) rfl (by decide +kernel) rfl rfl (Nat.le_of_ble_eq_true rfl) (ws' := wX z ol (1 + sn) hs T S Y (updG G ((ol + sn) % 6) T) len P ch) rfl dX2_saveState_63 (fun H locs hP hD hS => ?_)
  rw [show 1 + sn = sn + 1 by omega] at hP
  exact hret _ _ _ _ hP hS dX2_saveState_66
theorem m2_save (l : Launch) (D : va_G) (z : Ad) (ol sn hs : Nat) (hol : ol < 6) (hsn : sn ≤ 6) (T S Y : Nat → Int32) (G : Nat → Nat → Int32) (len : Nat) (P : PS) (ch : Nat → Nat) (hD : va_D (fun _ => True) (wX z ol sn hs T S Y G len P ch)) : q_V l yX2_saveState wsX2_saveState { frames := 2, cells := 0, slots := 0, locals := 81 } [.ref z.o] (q_bp D (wX z ol sn hs T S Y G len P ch) (tyX z)) (fun H => va_P D vwCl (wX z ((so ol sn)) ((svn sn)) hs T S Y (updG G (sr ol sn) T) len P ch) H) (AX z) 0 0 := by
  by_cases h : sn = 6
  · subst h
    rw [so_6, sr_6]
    exact m2_save6 l D z ol hs hol T S Y G len P ch hD
  · rw [so_n (by omega), sr_n (by omega), show svn sn = sn + 1 from if_neg h]
    exact m2_saven l D z ol sn hs hol (by omega) T S Y G len P ch hD

