set_option maxHeartbeats 4000000 in
set_option maxRecDepth 100000 in
theorem m3_digestOne (l : Launch) (D : va_G) (cI : ClassId) (o : Nat) (fs : List Value) (d v : Int64) (h14 : fs[14]? = some (.long d)) (hF : 14 < fs.length) : q_V l yX3_digestOne wsX3_digestOne { frames := 0, cells := 0, slots := 0, locals := 0 } [.ref o, .long v] (q_bp D ([(o, .inr (3, fs))]) []) (fun H => va_at D vwCl (o, .inr (3, fs.set 14 (.long (hL d v)))) H) (fun q => q = o) 0 0 := by
  refine q_goV (cc := cX3_digestOne) (maxL := 3) (lv0 := [(0, .ref o), (1, .long v)]) (by decide) rfl (Nat.le_of_ble_eq_true rfl) rfl ?_
  intro p e s m args below meth c Q ls hx hb hml hts hown hP hK hl hret hnm
  have hi3 : ∀ w ∈ wsX30, w ∈ wsX3_digestOne := by decide +kernel
  have hfl197 := hts (.fieldLink RX3 197 "WhisperedPotsModel" "digested" "J") (by decide +kernel)
  have hS : va_S (fun q => q = o) s.heap s.heap [] := va_S.rf
  have hD : va_D (fun _ => True) [(o, (.inr (3, fs) : va_E))] := q_d1
  refine lv_aload_n hx hb dX3_digestOne_0 rfl (lv_at hl 0 rfl) ?_
  refine lv_ldc2 hx hb hown (hts (.constantLong RX3 195 (31)) (by decide +kernel)) dX3_digestOne_1 ?_
  refine lv_aload_n hx hb dX3_digestOne_4 rfl (lv_at hl 0 rfl) ?_
  refine va_get (D := D) (ci := 3) (v := .long d) (C := RX3) (T := TX3) (N := 15) hx hb hts hi3 hown hK hP 0 rfl rfl 14 (by decide) hfl197 (fun _ h9 => h9) h14 dX3_digestOne_5 ?_
  refine lv_lmul hx hb dX3_digestOne_8 ?_
  refine lv_lload_n hx hb dX3_digestOne_9 rfl (lv_at hl 1 rfl) ?_
  refine lv_ladd hx hb dX3_digestOne_10 ?_
  refine q_pt (D := D) (ci := 3) (v := .long ((31 * d) + v)) (ty := .long) (C := RX3) (T := TX3) (N := 15) hx hb hts hi3 tyX3 tyX3_ok nmX3 hown hK hP hD hS rfl 0 rfl rfl 14 (by decide) hfl197 (fun _ h9 => h9) rfl (by decide +kernel) rfl rfl hF (ws' := [(o, .inr (3, fs.set 14 (.long (hL d v))))]) rfl dX3_digestOne_11 (fun H locs hP hD hS => ?_)
  exact hret _ _ _ _ (hP 0 _ rfl) hS dX3_digestOne_14
set_option maxHeartbeats 4000000 in
set_option maxRecDepth 100000 in
theorem m3_digestPot (l : Launch) (D : va_G) (cI : ClassId) (o ps pa pv pn px : Nat) (f fa fv fn fx : Nat → Int32) (k : Nat) (hk : k < 3) (B : Nat) (hI : Inv B f) (hB : B + 33600 < 2000000000) (th mn kp ln sp wr le wh te : Int32) (dg : Int64) (hD : va_D (fun _ => True) (wR o ps pa pv pn px cI (oM ps pa pv pn px th mn kp ln sp wr le wh te dg) (rr f) fa fv fn fx)) : q_V l yX3_digestPot wsX3_digestPot { frames := 8, cells := 0, slots := 0, locals := 184 } [.ref o, .int (nI k)] (q_bp D (wR o ps pa pv pn px cI (oM ps pa pv pn px th mn kp ln sp wr le wh te dg) (rr f) fa fv fn fx) [(cI, .int)]) (fun H => va_P D vwCl (wR o ps pa pv pn px cI (oM ps pa pv pn px th mn kp ln sp wr le wh te (dgP f k dg)) (rr f) (rr f) fv fn fx) H) (AM o ps pa pv pn px) 0 0 := by
  refine q_goV (cc := cX3_digestPot) (maxL := 3) (lv0 := [(0, .ref o), (1, .int (nI k))]) (by decide) rfl (Nat.le_of_ble_eq_true rfl) rfl ?_
  intro p e s m args below meth c Q ls hx hb hml hts hown hP hK hl hret hnm
  have hi3 : ∀ w ∈ wsX30, w ∈ wsX3_digestPot := by decide +kernel
  have hfl7 := hts (.fieldLink RX3 7 "WhisperedPotsModel" "s" "[I") (by decide +kernel)
  have hS : va_S (AM o ps pa pv pn px) s.heap s.heap [] := va_S.rf
  have hne : o ≠ ps := fun h => absurd (hD.1 0 1 _ _ rfl rfl h) (by decide)
  refine lv_iconst (v := nI 0) hx hb dX3_digestPot_0 (by decide) ?_
  refine lv_istore_n (lv' := [(2, .int (nI 0)), (0, .ref o), (1, .int (nI k))]) hx hb dX3_digestPot_1 rfl hl (by decide) rfl (fun ls hl => ?_)
  have LA : ∀ (n i : Nat)  (H : Heap) (locs : List Loc) (ls : Array Slot), i + n = 8 → va_P D vwCl (wR o ps pa pv pn px cI (oM ps pa pv pn px th mn kp ln sp wr le wh te (fo (g_po f k) i dg)) (rr f) fa fv fn fx) H → va_D (fun _ => True) (wR o ps pa pv pn px cI (oM ps pa pv pn px th mn kp ln sp wr le wh te (fo (g_po f k) i dg)) (rr f) fa fv fn fx) → va_S (AM o ps pa pv pn px) s.heap H locs → lv_has ls 3 [(2, .int (nI i)), (0, .ref o), (1, .int (nI k))] → W p l e { frames := 8, cells := 0, slots := 0, locals := 184 } s m args below meth c H locs 0 0 Q (F0 m 2 ls []) := by
    intro n
    induction n with
    | zero =>
      intro i  H locs ls hi  hP hD hS hl
      obtain rfl : 8 = i := by omega
      refine lv_iload_n hx hb dX3_digestPot_2 rfl (lv_at hl 0 rfl) ?_
      refine lv_bipush (v := nI 8) hx hb dX3_digestPot_3 (by decide) ?_
      refine q_geN (tgt := 25) hx hb (by omega) (by omega) dX3_digestPot_5 (by decide) (fun c1 => ?_) (fun c1 => absurd c1 (by decide))
      refine lv_iconst (v := nI 0) hx hb dX3_digestPot_25 (by decide) ?_
      refine lv_istore_n (lv' := [(2, .int (nI 0)), (0, .ref o), (1, .int (nI k))]) hx hb dX3_digestPot_26 rfl hl (by decide) rfl (fun ls hl => ?_)
      have LB : ∀ (n i : Nat)  (H : Heap) (locs : List Loc) (ls : Array Slot), i + n = 8 → va_P D vwCl (wR o ps pa pv pn px cI (oM ps pa pv pn px th mn kp ln sp wr le wh te (fo (fun g => f (87 + 8 * k + g)) i (fo (g_po f k) 8 dg))) (rr f) fa fv fn fx) H → va_D (fun _ => True) (wR o ps pa pv pn px cI (oM ps pa pv pn px th mn kp ln sp wr le wh te (fo (fun g => f (87 + 8 * k + g)) i (fo (g_po f k) 8 dg))) (rr f) fa fv fn fx) → va_S (AM o ps pa pv pn px) s.heap H locs → lv_has ls 3 [(2, .int (nI i)), (0, .ref o), (1, .int (nI k))] → W p l e { frames := 8, cells := 0, slots := 0, locals := 184 } s m args below meth c H locs 0 0 Q (F0 m 27 ls []) := by
        intro n
        induction n with
        | zero =>
          intro i  H locs ls hi  hP hD hS hl
          obtain rfl : 8 = i := by omega
          refine lv_iload_n hx hb dX3_digestPot_27 rfl (lv_at hl 0 rfl) ?_
          refine lv_bipush (v := nI 8) hx hb dX3_digestPot_28 (by decide) ?_
          refine q_geN (tgt := 58) hx hb (by omega) (by omega) dX3_digestPot_30 (by decide) (fun c2 => ?_) (fun c2 => absurd c2 (by decide))
          refine lv_iconst (v := nI 0) hx hb dX3_digestPot_58 (by decide) ?_
          refine lv_istore_n (lv' := [(2, .int (nI 0)), (0, .ref o), (1, .int (nI k))]) hx hb dX3_digestPot_59 rfl hl (by decide) rfl (fun ls hl => ?_)
          have LC : ∀ (n i : Nat)  (H : Heap) (locs : List Loc) (ls : Array Slot), i + n = 3 → va_P D vwCl (wR o ps pa pv pn px cI (oM ps pa pv pn px th mn kp ln sp wr le wh te (fo (g_br f k) i (fo (fun g => f (87 + 8 * k + g)) 8 (fo (g_po f k) 8 dg)))) (rr f) fa fv fn fx) H → va_D (fun _ => True) (wR o ps pa pv pn px cI (oM ps pa pv pn px th mn kp ln sp wr le wh te (fo (g_br f k) i (fo (fun g => f (87 + 8 * k + g)) 8 (fo (g_po f k) 8 dg)))) (rr f) fa fv fn fx) → va_S (AM o ps pa pv pn px) s.heap H locs → lv_has ls 3 [(2, .int (nI i)), (0, .ref o), (1, .int (nI k))] → W p l e { frames := 8, cells := 0, slots := 0, locals := 184 } s m args below meth c H locs 0 0 Q (F0 m 60 ls []) := by
            intro n
            induction n with
            | zero =>
              intro i  H locs ls hi  hP hD hS hl
              obtain rfl : 3 = i := by omega
              refine lv_iload_n hx hb dX3_digestPot_60 rfl (lv_at hl 0 rfl) ?_
              refine lv_iconst (v := nI 3) hx hb dX3_digestPot_61 (by decide) ?_
              refine q_geN (tgt := 82) hx hb (by omega) (by omega) dX3_digestPot_62 (by decide) (fun c3 => ?_) (fun c3 => absurd c3 (by decide))
              refine lv_aload_n hx hb dX3_digestPot_82 rfl (lv_at hl 1 rfl) ?_
              refine lv_aload_n hx hb dX3_digestPot_83 rfl (lv_at hl 1 rfl) ?_
              refine lv_iload_n hx hb dX3_digestPot_84 rfl (lv_at hl 2 rfl) ?_
              refine q_ciF (BH := fun H => va_P D vwCl (wR o ps pa pv pn px cI (oM ps pa pv pn px th mn kp ln sp wr le wh te (fo (g_br f k) 3 (fo (fun g => f (87 + 8 * k + g)) 8 (fo (g_po f k) 8 dg)))) (rr f) (rr f) fv fn fx) H) (va_runV (rm := { frames := 7, cells := 0, slots := 0, locals := 160 }) (As := [.int (nI k)]) (rest := [.ref o]) ⟨hx, hb, hml, hown, hts⟩ (m3_roundsUntilEmpty l D cI o ps pa pv pn px f fa fv fn fx k (by omega) B hI (by omega) th mn kp ln sp wr le wh te (fo (g_br f k) 3 (fo (fun g => f (87 + 8 * k + g)) 8 (fo (g_po f k) 8 dg))) hD) (cwV 1 hts gX3_digestPot_X3_roundsUntilEmpty rfl rfl rfl (by decide +kernel) ⟨Nat.le_of_ble_eq_true rfl, Nat.le_of_ble_eq_true rfl⟩) (q_pV (ci := 3) (q0 := 0) hP hK rfl rfl) rfl rfl hl.1 rfl (lv_room (Nat.le_of_ble_eq_true rfl)) dX3_digestPot_85 ⟨Nat.le_of_ble_eq_true rfl, Nat.le_of_ble_eq_true rfl⟩) (fun _ h => h) hS (fun _ h => h) (fun x4 H locs e4 hP hS => ?_)
              have e4 : x4 = g_ei 21 0 f k := e4
              have hD := q_D2 (ws' := wR o ps pa pv pn px cI (oM ps pa pv pn px th mn kp ln sp wr le wh te (fo (g_br f k) 3 (fo (fun g => f (87 + 8 * k + g)) 8 (fo (g_po f k) 8 dg)))) (rr f) (rr f) fv fn fx) hD rfl
              refine lv_i2l (v := (x4.toInt64)) hx hb dX3_digestPot_88 rfl ?_
              refine q_cv1 (i := 0) (ws' := wR o ps pa pv pn px cI (oM ps pa pv pn px th mn kp ln sp wr le wh te (hL (fo (g_br f k) 3 (fo (fun g => f (87 + 8 * k + g)) 8 (fo (g_po f k) 8 dg))) (x4.toInt64))) (rr f) (rr f) fv fn fx) (va_runV (rm := { frames := 0, cells := 0, slots := 0, locals := 0 }) (As := [.long (x4.toInt64)]) (rest := []) ⟨hx, hb, hml, hown, hts⟩ (m3_digestOne l D cI o (oM ps pa pv pn px th mn kp ln sp wr le wh te (fo (g_br f k) 3 (fo (fun g => f (87 + 8 * k + g)) 8 (fo (g_po f k) 8 dg)))) (fo (g_br f k) 3 (fo (fun g => f (87 + 8 * k + g)) 8 (fo (g_po f k) 8 dg))) (x4.toInt64) rfl (Nat.le_of_ble_eq_true rfl)) (cwV 1 hts gX3_digestPot_X3_digestOne rfl rfl rfl (by decide +kernel) ⟨Nat.le_of_ble_eq_true rfl, Nat.le_of_ble_eq_true rfl⟩) (q_pV (ci := 3) (q0 := 0) (hP.sub [0] rfl) (hK.sub [] rfl) rfl rfl) rfl rfl hl.1 rfl (lv_room (Nat.le_of_ble_eq_true rfl)) dX3_digestPot_89 ⟨Nat.le_of_ble_eq_true rfl, Nat.le_of_ble_eq_true rfl⟩) hP hD hS rfl (Or.inl rfl) rfl (fun H locs hP hD hS => ?_)
              refine lv_aload_n hx hb dX3_digestPot_92 rfl (lv_at hl 1 rfl) ?_
              refine lv_aload_n hx hb dX3_digestPot_93 rfl (lv_at hl 1 rfl) ?_
              refine lv_iload_n hx hb dX3_digestPot_94 rfl (lv_at hl 2 rfl) ?_
              refine q_ciF (BH := fun H => va_P D vwCl (wR o ps pa pv pn px cI (oM ps pa pv pn px th mn kp ln sp wr le wh te (hL (fo (g_br f k) 3 (fo (fun g => f (87 + 8 * k + g)) 8 (fo (g_po f k) 8 dg))) (x4.toInt64))) (rr f) (rr f) fv fn fx) H) (va_runV (rm := { frames := 5, cells := 0, slots := 0, locals := 110 }) (As := [.int (nI k)]) (rest := [.ref o]) ⟨hx, hb, hml, hown, hts⟩ (m3_bestFor l D cI o ps pa pv pn px f (rr f) fv fn fx k (by omega) B hI (by omega) th mn kp ln sp wr le wh te (hL (fo (g_br f k) 3 (fo (fun g => f (87 + 8 * k + g)) 8 (fo (g_po f k) 8 dg))) (x4.toInt64)) hD) (cwV 1 hts gX3_digestPot_X3_bestFor rfl rfl rfl (by decide +kernel) ⟨Nat.le_of_ble_eq_true rfl, Nat.le_of_ble_eq_true rfl⟩) (q_pV (ci := 3) (q0 := 0) hP hK rfl rfl) rfl rfl hl.1 rfl (lv_room (Nat.le_of_ble_eq_true rfl)) dX3_digestPot_95 ⟨Nat.le_of_ble_eq_true rfl, Nat.le_of_ble_eq_true rfl⟩) (fun _ h => h) hS (fun _ h => h) (fun x5 H locs e5 hP hS => ?_)
              have e5 : x5 = g_bg 8 (-1) (nI 0) f k := e5
              have hD := q_D2 (ws' := wR o ps pa pv pn px cI (oM ps pa pv pn px th mn kp ln sp wr le wh te (hL (fo (g_br f k) 3 (fo (fun g => f (87 + 8 * k + g)) 8 (fo (g_po f k) 8 dg))) (x4.toInt64))) (rr f) (rr f) fv fn fx) hD rfl
              refine lv_i2l (v := (x5.toInt64)) hx hb dX3_digestPot_98 rfl ?_
              refine q_cv1 (i := 0) (ws' := wR o ps pa pv pn px cI (oM ps pa pv pn px th mn kp ln sp wr le wh te (hL (hL (fo (g_br f k) 3 (fo (fun g => f (87 + 8 * k + g)) 8 (fo (g_po f k) 8 dg))) (x4.toInt64)) (x5.toInt64))) (rr f) (rr f) fv fn fx) (va_runV (rm := { frames := 0, cells := 0, slots := 0, locals := 0 }) (As := [.long (x5.toInt64)]) (rest := []) ⟨hx, hb, hml, hown, hts⟩ (m3_digestOne l D cI o (oM ps pa pv pn px th mn kp ln sp wr le wh te (hL (fo (g_br f k) 3 (fo (fun g => f (87 + 8 * k + g)) 8 (fo (g_po f k) 8 dg))) (x4.toInt64))) (hL (fo (g_br f k) 3 (fo (fun g => f (87 + 8 * k + g)) 8 (fo (g_po f k) 8 dg))) (x4.toInt64)) (x5.toInt64) rfl (Nat.le_of_ble_eq_true rfl)) (cwV 1 hts gX3_digestPot_X3_digestOne rfl rfl rfl (by decide +kernel) ⟨Nat.le_of_ble_eq_true rfl, Nat.le_of_ble_eq_true rfl⟩) (q_pV (ci := 3) (q0 := 0) (hP.sub [0] rfl) (hK.sub [] rfl) rfl rfl) rfl rfl hl.1 rfl (lv_room (Nat.le_of_ble_eq_true rfl)) dX3_digestPot_99 ⟨Nat.le_of_ble_eq_true rfl, Nat.le_of_ble_eq_true rfl⟩) hP hD hS rfl (Or.inl rfl) rfl (fun H locs hP hD hS => ?_)
              have hw : (hL (hL (fo (g_br f k) 3 (fo (fun g => f (87 + 8 * k + g)) 8 (fo (g_po f k) 8 dg))) (x4.toInt64)) (x5.toInt64)) = dgP f k dg := by
                rw [e4, e5]
                exact dgP_eq f k dg
              rw [hw] at hP
              exact hret _ _ _ _ hP hS dX3_digestPot_102
            | succ n ih =>
              intro i  H locs ls hi  hP hD hS hl
              refine lv_iload_n hx hb dX3_digestPot_60 rfl (lv_at hl 0 rfl) ?_
              refine lv_iconst (v := nI 3) hx hb dX3_digestPot_61 (by decide) ?_
              refine q_geN (tgt := 82) hx hb (by omega) (by omega) dX3_digestPot_62 (by decide) (fun c6 => absurd c6 (by omega)) (fun c6 => ?_)
              refine lv_aload_n hx hb dX3_digestPot_65 rfl (lv_at hl 1 rfl) ?_
              refine lv_aload_n hx hb dX3_digestPot_66 rfl (lv_at hl 1 rfl) ?_
              refine lv_iload_n hx hb dX3_digestPot_67 rfl (lv_at hl 2 rfl) ?_
              refine lv_iload_n hx hb dX3_digestPot_68 rfl (lv_at hl 0 rfl) ?_
              refine q_ciR (va_runV (rm := { frames := 5, cells := 0, slots := 0, locals := 110 }) (As := [.int (nI k), .int (nI i)]) (rest := [.ref o]) ⟨hx, hb, hml, hown, hts⟩ (m3_wouldBring l D cI o ps k i (oM ps pa pv pn px th mn kp ln sp wr le wh te (fo (g_br f k) i (fo (fun g => f (87 + 8 * k + g)) 8 (fo (g_po f k) 8 dg)))) f rfl B hI (by omega) (by omega)) (cwV 2 hts gX3_digestPot_X3_wouldBring rfl rfl rfl (by decide +kernel) ⟨Nat.le_of_ble_eq_true rfl, Nat.le_of_ble_eq_true rfl⟩) (q_pV (ci := 3) (q0 := 0) (hP.sub (ws' := wS o ps cI (oM ps pa pv pn px th mn kp ln sp wr le wh te (fo (g_br f k) i (fo (fun g => f (87 + 8 * k + g)) 8 (fo (g_po f k) 8 dg)))) f) [0, 1] rfl) hK rfl rfl) rfl rfl hl.1 rfl (lv_room (Nat.le_of_ble_eq_true rfl)) dX3_digestPot_69 ⟨Nat.le_of_ble_eq_true rfl, Nat.le_of_ble_eq_true rfl⟩) hP hS (fun x7 H locs e7 hP hS => ?_)
              have e7 : x7 = g_br f k i := e7
              refine lv_i2l (v := (x7.toInt64)) hx hb dX3_digestPot_72 rfl ?_
              refine q_cv1 (i := 0) (ws' := wR o ps pa pv pn px cI (oM ps pa pv pn px th mn kp ln sp wr le wh te (hL (fo (g_br f k) i (fo (fun g => f (87 + 8 * k + g)) 8 (fo (g_po f k) 8 dg))) (x7.toInt64))) (rr f) fa fv fn fx) (va_runV (rm := { frames := 0, cells := 0, slots := 0, locals := 0 }) (As := [.long (x7.toInt64)]) (rest := []) ⟨hx, hb, hml, hown, hts⟩ (m3_digestOne l D cI o (oM ps pa pv pn px th mn kp ln sp wr le wh te (fo (g_br f k) i (fo (fun g => f (87 + 8 * k + g)) 8 (fo (g_po f k) 8 dg)))) (fo (g_br f k) i (fo (fun g => f (87 + 8 * k + g)) 8 (fo (g_po f k) 8 dg))) (x7.toInt64) rfl (Nat.le_of_ble_eq_true rfl)) (cwV 1 hts gX3_digestPot_X3_digestOne rfl rfl rfl (by decide +kernel) ⟨Nat.le_of_ble_eq_true rfl, Nat.le_of_ble_eq_true rfl⟩) (q_pV (ci := 3) (q0 := 0) (hP.sub [0] rfl) (hK.sub [] rfl) rfl rfl) rfl rfl hl.1 rfl (lv_room (Nat.le_of_ble_eq_true rfl)) dX3_digestPot_73 ⟨Nat.le_of_ble_eq_true rfl, Nat.le_of_ble_eq_true rfl⟩) hP hD hS rfl (Or.inl rfl) rfl (fun H locs hP hD hS => ?_)
              refine lv_iinc (v := (nI (i + 1))) (lv' := [(2, .int (nI (i + 1))), (0, .ref o), (1, .int (nI k))]) hx hb dX3_digestPot_76 hl (k := 0) rfl (q_inc i 1 (i + 1) (by omega)) (by decide) rfl (fun ls hl => ?_)
              refine lv_goto (tgt := 60) hx hb dX3_digestPot_79 (by decide) ?_
              have hw : (hL (fo (g_br f k) i (fo (fun g => f (87 + 8 * k + g)) 8 (fo (g_po f k) 8 dg))) (x7.toInt64)) = (fo (g_br f k) (i + 1) (fo (fun g => f (87 + 8 * k + g)) 8 (fo (g_po f k) 8 dg))) := by
                rw [e7]
                exact fo_s _ _ _
              rw [hw] at hP hD
              exact ih (i + 1) _ _ _ (by omega) hP hD hS (lv_sub hl [0, 1, 2] rfl)
          exact LC 3 0  _ _ _ (by omega)  (by rw [fo_0]; exact hP) (by rw [fo_0]; exact hD) hS (lv_sub hl [0, 1, 2] rfl)
        | succ n ih =>
          intro i  H locs ls hi  hP hD hS hl
          refine lv_iload_n hx hb dX3_digestPot_27 rfl (lv_at hl 0 rfl) ?_
          refine lv_bipush (v := nI 8) hx hb dX3_digestPot_28 (by decide) ?_
          refine q_geN (tgt := 58) hx hb (by omega) (by omega) dX3_digestPot_30 (by decide) (fun c8 => absurd c8 (by omega)) (fun c8 => ?_)
          refine lv_aload_n hx hb dX3_digestPot_33 rfl (lv_at hl 1 rfl) ?_
          refine lv_aload_n hx hb dX3_digestPot_34 rfl (lv_at hl 1 rfl) ?_
          refine va_get (D := D) (ci := 3) (v := .ref ps) (C := RX3) (T := TX3) (N := 15) hx hb hts hi3 hown hK hP 0 rfl rfl 1 (by decide) hfl7 (fun _ h9 => h9) rfl dX3_digestPot_35 ?_
          refine lv_bipush (v := nI 87) hx hb dX3_digestPot_38 (by decide) ?_
          refine lv_bipush (v := nI 8) hx hb dX3_digestPot_40 (by decide) ?_
          refine lv_iload_n hx hb dX3_digestPot_42 rfl (lv_at hl 2 rfl) ?_
          refine q_mulN hx hb (8 * k) (by omega) dX3_digestPot_43 ?_
          refine q_addN hx hb (87 + 8 * k) (by omega) dX3_digestPot_44 ?_
          refine lv_iload_n hx hb dX3_digestPot_45 rfl (lv_at hl 0 rfl) ?_
          refine q_addN hx hb (87 + 8 * k + i) (by omega) dX3_digestPot_46 ?_
          refine q_ld hx hb hK hP 1 0 rfl rfl (j := (87 + 8 * k + i)) (v := f (87 + 8 * k + i)) (by omega) (by omega) (rr_at (pm_id (by omega))) dX3_digestPot_47 ?_
          refine lv_i2l (v := ((f (87 + 8 * k + i)).toInt64)) hx hb dX3_digestPot_48 rfl ?_
          refine q_cv1 (i := 0) (ws' := wR o ps pa pv pn px cI (oM ps pa pv pn px th mn kp ln sp wr le wh te (hL (fo (fun g => f (87 + 8 * k + g)) i (fo (g_po f k) 8 dg)) ((f (87 + 8 * k + i)).toInt64))) (rr f) fa fv fn fx) (va_runV (rm := { frames := 0, cells := 0, slots := 0, locals := 0 }) (As := [.long ((f (87 + 8 * k + i)).toInt64)]) (rest := []) ⟨hx, hb, hml, hown, hts⟩ (m3_digestOne l D cI o (oM ps pa pv pn px th mn kp ln sp wr le wh te (fo (fun g => f (87 + 8 * k + g)) i (fo (g_po f k) 8 dg))) (fo (fun g => f (87 + 8 * k + g)) i (fo (g_po f k) 8 dg)) ((f (87 + 8 * k + i)).toInt64) rfl (Nat.le_of_ble_eq_true rfl)) (cwV 1 hts gX3_digestPot_X3_digestOne rfl rfl rfl (by decide +kernel) ⟨Nat.le_of_ble_eq_true rfl, Nat.le_of_ble_eq_true rfl⟩) (q_pV (ci := 3) (q0 := 0) (hP.sub [0] rfl) (hK.sub [] rfl) rfl rfl) rfl rfl hl.1 rfl (lv_room (Nat.le_of_ble_eq_true rfl)) dX3_digestPot_49 ⟨Nat.le_of_ble_eq_true rfl, Nat.le_of_ble_eq_true rfl⟩) hP hD hS rfl (Or.inl rfl) rfl (fun H locs hP hD hS => ?_)
          refine lv_iinc (v := (nI (i + 1))) (lv' := [(2, .int (nI (i + 1))), (0, .ref o), (1, .int (nI k))]) hx hb dX3_digestPot_52 hl (k := 0) rfl (q_inc i 1 (i + 1) (by omega)) (by decide) rfl (fun ls hl => ?_)
          refine lv_goto (tgt := 27) hx hb dX3_digestPot_55 (by decide) ?_
          have hw : (hL (fo (fun g => f (87 + 8 * k + g)) i (fo (g_po f k) 8 dg)) ((f (87 + 8 * k + i)).toInt64)) = (fo (fun g => f (87 + 8 * k + g)) (i + 1) (fo (g_po f k) 8 dg)) := by
            exact fo_s _ _ _
          rw [hw] at hP hD
          exact ih (i + 1) _ _ _ (by omega) hP hD hS (lv_sub hl [0, 1, 2] rfl)
      exact LB 8 0  _ _ _ (by omega)  (by rw [fo_0]; exact hP) (by rw [fo_0]; exact hD) hS (lv_sub hl [0, 1, 2] rfl)
    | succ n ih =>
      intro i  H locs ls hi  hP hD hS hl
      refine lv_iload_n hx hb dX3_digestPot_2 rfl (lv_at hl 0 rfl) ?_
      refine lv_bipush (v := nI 8) hx hb dX3_digestPot_3 (by decide) ?_
      refine q_geN (tgt := 25) hx hb (by omega) (by omega) dX3_digestPot_5 (by decide) (fun c9 => absurd c9 (by omega)) (fun c9 => ?_)
      refine lv_aload_n hx hb dX3_digestPot_8 rfl (lv_at hl 1 rfl) ?_
      refine lv_aload_n hx hb dX3_digestPot_9 rfl (lv_at hl 1 rfl) ?_
      refine lv_iload_n hx hb dX3_digestPot_10 rfl (lv_at hl 2 rfl) ?_
      refine lv_iload_n hx hb dX3_digestPot_11 rfl (lv_at hl 0 rfl) ?_
      refine q_ciR (va_runV (rm := { frames := 3, cells := 0, slots := 0, locals := 64 }) (As := [.int (nI k), .int (nI i)]) (rest := [.ref o]) ⟨hx, hb, hml, hown, hts⟩ (m3_ofOne l D cI o ps k i (oM ps pa pv pn px th mn kp ln sp wr le wh te (fo (g_po f k) i dg)) f rfl B hI (by omega) (by omega)) (cwV 2 hts gX3_digestPot_X3_ofOne rfl rfl rfl (by decide +kernel) ⟨Nat.le_of_ble_eq_true rfl, Nat.le_of_ble_eq_true rfl⟩) (q_pV (ci := 3) (q0 := 0) (hP.sub (ws' := wS o ps cI (oM ps pa pv pn px th mn kp ln sp wr le wh te (fo (g_po f k) i dg)) f) [0, 1] rfl) hK rfl rfl) rfl rfl hl.1 rfl (lv_room (Nat.le_of_ble_eq_true rfl)) dX3_digestPot_12 ⟨Nat.le_of_ble_eq_true rfl, Nat.le_of_ble_eq_true rfl⟩) hP hS (fun x10 H locs e10 hP hS => ?_)
      have e10 : x10 = g_po f k i := e10
      refine lv_i2l (v := (x10.toInt64)) hx hb dX3_digestPot_15 rfl ?_
      refine q_cv1 (i := 0) (ws' := wR o ps pa pv pn px cI (oM ps pa pv pn px th mn kp ln sp wr le wh te (hL (fo (g_po f k) i dg) (x10.toInt64))) (rr f) fa fv fn fx) (va_runV (rm := { frames := 0, cells := 0, slots := 0, locals := 0 }) (As := [.long (x10.toInt64)]) (rest := []) ⟨hx, hb, hml, hown, hts⟩ (m3_digestOne l D cI o (oM ps pa pv pn px th mn kp ln sp wr le wh te (fo (g_po f k) i dg)) (fo (g_po f k) i dg) (x10.toInt64) rfl (Nat.le_of_ble_eq_true rfl)) (cwV 1 hts gX3_digestPot_X3_digestOne rfl rfl rfl (by decide +kernel) ⟨Nat.le_of_ble_eq_true rfl, Nat.le_of_ble_eq_true rfl⟩) (q_pV (ci := 3) (q0 := 0) (hP.sub [0] rfl) (hK.sub [] rfl) rfl rfl) rfl rfl hl.1 rfl (lv_room (Nat.le_of_ble_eq_true rfl)) dX3_digestPot_16 ⟨Nat.le_of_ble_eq_true rfl, Nat.le_of_ble_eq_true rfl⟩) hP hD hS rfl (Or.inl rfl) rfl (fun H locs hP hD hS => ?_)
      refine lv_iinc (v := (nI (i + 1))) (lv' := [(2, .int (nI (i + 1))), (0, .ref o), (1, .int (nI k))]) hx hb dX3_digestPot_19 hl (k := 0) rfl (q_inc i 1 (i + 1) (by omega)) (by decide) rfl (fun ls hl => ?_)
      refine lv_goto (tgt := 2) hx hb dX3_digestPot_22 (by decide) ?_
      have hw : (hL (fo (g_po f k) i dg) (x10.toInt64)) = (fo (g_po f k) (i + 1) dg) := by
        rw [e10]
        exact fo_s _ _ _
      rw [hw] at hP hD
      exact ih (i + 1) _ _ _ (by omega) hP hD hS (lv_sub hl [0, 1, 2] rfl)
  exact LA 8 0  _ _ _ (by omega)  (by rw [fo_0]; exact hP) (by rw [fo_0]; exact hD) hS (lv_sub hl [0, 1, 2] rfl)
