set_option maxHeartbeats 4000000 in
set_option maxRecDepth 100000 in
theorem m3_roundsUntilEmpty (l : Launch) (D : va_G) (cI : ClassId) (o ps pa pv pn px : Nat) (f fa fv fn fx : Nat → Int32) (k : Nat) (hk : k < 3) (B : Nat) (hI : Inv B f) (hB : B + 33600 < 2000000000) (th mn kp ln sp wr le wh te : Int32) (dg : Int64) (hD : va_D (fun _ => True) (wR o ps pa pv pn px cI (oM ps pa pv pn px th mn kp ln sp wr le wh te dg) (rr f) fa fv fn fx)) : q_I l yX3_roundsUntilEmpty wsX3_roundsUntilEmpty { frames := 7, cells := 0, slots := 0, locals := 160 } [.ref o, .int (nI k)] (q_bp D (wR o ps pa pv pn px cI (oM ps pa pv pn px th mn kp ln sp wr le wh te dg) (rr f) fa fv fn fx) [(cI, .int)]) (fun v => v = g_ei 21 0 f k) (fun H => va_P D vwCl (wR o ps pa pv pn px cI (oM ps pa pv pn px th mn kp ln sp wr le wh te dg) (rr f) (rr f) fv fn fx) H) (AM o ps pa pv pn px) 0 0 := by
  refine q_goI (cc := cX3_roundsUntilEmpty) (maxL := 5) (ty := .int) (lv0 := [(0, .ref o), (1, .int (nI k))]) (by decide) rfl (Nat.le_of_ble_eq_true rfl) rfl ?_
  intro p e s m args below meth c Q ls hx hb hml hts hown hP hK hl hret
  have hi3 : ∀ w ∈ wsX30, w ∈ wsX3_roundsUntilEmpty := by decide +kernel
  have hfl7 := hts (.fieldLink RX3 7 "WhisperedPotsModel" "s" "[I") (by decide +kernel)
  have hS : va_S (AM o ps pa pv pn px) s.heap s.heap [] := va_S.rf
  have hne : o ≠ ps := fun h => absurd (hD.1 0 1 _ _ rfl rfl h) (by decide)
  refine lv_aload_n hx hb dX3_roundsUntilEmpty_0 rfl (lv_at hl 0 rfl) ?_
  refine q_cvF (BH := fun H => va_P D vwCl (wR o ps pa pv pn px cI (oM ps pa pv pn px th mn kp ln sp wr le wh te dg) (rr f) (rr f) fv fn fx) H) (va_runV (rm := { frames := 0, cells := 0, slots := 0, locals := 0 }) (As := []) (rest := []) ⟨hx, hb, hml, hown, hts⟩ (m3_putAside l D cI o ps pa pv pn px f fa fv fn fx th mn kp ln sp wr le wh te dg hD) (cwV 0 hts gX3_roundsUntilEmpty_X3_putAside rfl rfl rfl (by decide +kernel) ⟨Nat.le_of_ble_eq_true rfl, Nat.le_of_ble_eq_true rfl⟩) (q_pV (ci := 3) (q0 := 0) hP hK rfl rfl) rfl rfl hl.1 rfl (lv_room (Nat.le_of_ble_eq_true rfl)) dX3_roundsUntilEmpty_1 ⟨Nat.le_of_ble_eq_true rfl, Nat.le_of_ble_eq_true rfl⟩) (fun _ h => h) hS (fun _ h => h) (fun H locs hP hS => ?_)
  have hD := q_D2 (ws' := wR o ps pa pv pn px cI (oM ps pa pv pn px th mn kp ln sp wr le wh te dg) (rr f) (rr f) fv fn fx) hD rfl
  refine lv_iconst (v := nI 0) hx hb dX3_roundsUntilEmpty_4 (by decide) ?_
  refine lv_istore_n (lv' := [(2, .int (nI 0)), (0, .ref o), (1, .int (nI k))]) hx hb dX3_roundsUntilEmpty_5 rfl hl (by decide) rfl (fun ls hl => ?_)
  have LP : ∀ (n i : Nat) (fa : Nat → Int32) (H : Heap) (locs : List Loc) (ls : Array Slot), i + n = 21 → (hI2 : Inv (B + 1600 * i) fa) → (hE : g_ei n i fa k = g_ei 21 0 f k) → va_P D vwCl (wR o ps pa pv pn px cI (oM ps pa pv pn px th mn kp ln sp wr le wh te dg) (rr fa) (rr f) fv fn fx) H → va_D (fun _ => True) (wR o ps pa pv pn px cI (oM ps pa pv pn px th mn kp ln sp wr le wh te dg) (rr fa) (rr f) fv fn fx) → va_S (AM o ps pa pv pn px) s.heap H locs → lv_has ls 5 [(2, .int (nI i)), (0, .ref o), (1, .int (nI k))] → W p l e { frames := 7, cells := 0, slots := 0, locals := 160 } s m args below meth c H locs 0 0 Q (F0 m 6 ls []) := by
    intro n
    induction n with
    | zero =>
      intro i fa H locs ls hi hI2 hE hP hD hS hl
      obtain rfl : 21 = i := by omega
      refine lv_iload_n hx hb dX3_roundsUntilEmpty_6 rfl (lv_at hl 0 rfl) ?_
      refine lv_bipush (v := nI 20) hx hb dX3_roundsUntilEmpty_7 (by decide) ?_
      refine q_gtN (tgt := 62) hx hb (by omega) (by omega) dX3_roundsUntilEmpty_9 (by decide) (fun c1 => ?_) (fun c1 => absurd c1 (by omega))
      refine lv_aload_n hx hb dX3_roundsUntilEmpty_62 rfl (lv_at hl 1 rfl) ?_
      refine q_cvF (BH := fun H => va_P D vwCl (wR o ps pa pv pn px cI (oM ps pa pv pn px th mn kp ln sp wr le wh te dg) (rr f) (rr f) fv fn fx) H) (va_runV (rm := { frames := 0, cells := 0, slots := 0, locals := 0 }) (As := []) (rest := []) ⟨hx, hb, hml, hown, hts⟩ (m3_putBack l D cI o ps pa pv pn px fa f fv fn fx th mn kp ln sp wr le wh te dg hD) (cwV 0 hts gX3_roundsUntilEmpty_X3_putBack rfl rfl rfl (by decide +kernel) ⟨Nat.le_of_ble_eq_true rfl, Nat.le_of_ble_eq_true rfl⟩) (q_pV (ci := 3) (q0 := 0) hP hK rfl rfl) rfl rfl hl.1 rfl (lv_room (Nat.le_of_ble_eq_true rfl)) dX3_roundsUntilEmpty_63 ⟨Nat.le_of_ble_eq_true rfl, Nat.le_of_ble_eq_true rfl⟩) (fun _ h => h) hS (fun _ h => h) (fun H locs hP hS => ?_)
      have hD := q_D2 (ws' := wR o ps pa pv pn px cI (oM ps pa pv pn px th mn kp ln sp wr le wh te dg) (rr f) (rr f) fv fn fx) hD rfl
      refine lv_iload_n hx hb dX3_roundsUntilEmpty_66 rfl (lv_at hl 0 rfl) ?_
      refine lv_bipush (v := nI 20) hx hb dX3_roundsUntilEmpty_67 (by decide) ?_
      refine q_leN (tgt := 76) hx hb (by omega) (by omega) dX3_roundsUntilEmpty_69 (by decide) (fun c2 => absurd c2 (by omega)) (fun c2 => ?_)
      refine lv_iconst (v := (-1)) hx hb dX3_roundsUntilEmpty_72 (by decide) ?_
      refine lv_goto (tgt := 77) hx hb dX3_roundsUntilEmpty_73 (by decide) ?_
      refine hret _ _ _ _ _ rfl ?_ hP hS dX3_roundsUntilEmpty_77
      rw [← hE]
      rfl
    | succ n ih =>
      intro i fa H locs ls hi hI2 hE hP hD hS hl
      refine lv_iload_n hx hb dX3_roundsUntilEmpty_6 rfl (lv_at hl 0 rfl) ?_
      refine lv_bipush (v := nI 20) hx hb dX3_roundsUntilEmpty_7 (by decide) ?_
      refine q_gtN (tgt := 62) hx hb (by omega) (by omega) dX3_roundsUntilEmpty_9 (by decide) (fun c3 => absurd c3 (by omega)) (fun c3 => ?_)
      refine lv_aload_n hx hb dX3_roundsUntilEmpty_12 rfl (lv_at hl 1 rfl) ?_
      refine va_get (D := D) (ci := 3) (v := .ref ps) (C := RX3) (T := TX3) (N := 15) hx hb hts hi3 hown hK hP 0 rfl rfl 1 (by decide) hfl7 (fun _ h9 => h9) rfl dX3_roundsUntilEmpty_13 ?_
      refine lv_iload_n hx hb dX3_roundsUntilEmpty_16 rfl (lv_at hl 2 rfl) ?_
      refine lv_iconst (v := nI 1) hx hb dX3_roundsUntilEmpty_17 (by decide) ?_
      refine q_ciR (va_runS (rm := { frames := 0, cells := 0, slots := 0, locals := 0 }) (As := [.int (nI k), .int (nI 1)]) (rest := [.ref ps]) ⟨hx, hb, hml, hown, hts⟩ (m3_ofPot l D k 1 (by omega) (by omega)) (va_cwS 2 hts gX3_roundsUntilEmpty_X3_ofPot rfl rfl rfl (by decide +kernel) ⟨Nat.le_of_ble_eq_true rfl, Nat.le_of_ble_eq_true rfl⟩) (q_pS (hP.sub [] rfl) (hK.sub [] rfl)) rfl rfl hl.1 rfl (lv_room (Nat.le_of_ble_eq_true rfl)) dX3_roundsUntilEmpty_18 ⟨Nat.le_of_ble_eq_true rfl, Nat.le_of_ble_eq_true rfl⟩) hP hS (fun x4 H locs e4 hP hS => ?_)
      have e4 : x4 = (nI (73 + 5 * k)) := Eq.trans e4 (congrArg nI (by omega))
      subst e4
      refine q_ld hx hb hK hP 1 0 rfl rfl (j := (73 + 5 * k)) (v := fa (75 + k)) (by omega) (by omega) (rr_at (pm_p1 (by omega))) dX3_roundsUntilEmpty_21 ?_
      refine lv_if_le (tgt := 62) hx hb dX3_roundsUntilEmpty_22 (by decide) (fun c5 => ?_) (fun c5 => ?_)
      ·
        refine lv_aload_n hx hb dX3_roundsUntilEmpty_62 rfl (lv_at hl 1 rfl) ?_
        refine q_cvF (BH := fun H => va_P D vwCl (wR o ps pa pv pn px cI (oM ps pa pv pn px th mn kp ln sp wr le wh te dg) (rr f) (rr f) fv fn fx) H) (va_runV (rm := { frames := 0, cells := 0, slots := 0, locals := 0 }) (As := []) (rest := []) ⟨hx, hb, hml, hown, hts⟩ (m3_putBack l D cI o ps pa pv pn px fa f fv fn fx th mn kp ln sp wr le wh te dg hD) (cwV 0 hts gX3_roundsUntilEmpty_X3_putBack rfl rfl rfl (by decide +kernel) ⟨Nat.le_of_ble_eq_true rfl, Nat.le_of_ble_eq_true rfl⟩) (q_pV (ci := 3) (q0 := 0) hP hK rfl rfl) rfl rfl hl.1 rfl (lv_room (Nat.le_of_ble_eq_true rfl)) dX3_roundsUntilEmpty_63 ⟨Nat.le_of_ble_eq_true rfl, Nat.le_of_ble_eq_true rfl⟩) (fun _ h => h) hS (fun _ h => h) (fun H locs hP hS => ?_)
        have hD := q_D2 (ws' := wR o ps pa pv pn px cI (oM ps pa pv pn px th mn kp ln sp wr le wh te dg) (rr f) (rr f) fv fn fx) hD rfl
        refine lv_iload_n hx hb dX3_roundsUntilEmpty_66 rfl (lv_at hl 0 rfl) ?_
        refine lv_bipush (v := nI 20) hx hb dX3_roundsUntilEmpty_67 (by decide) ?_
        refine q_leN (tgt := 76) hx hb (by omega) (by omega) dX3_roundsUntilEmpty_69 (by decide) (fun c6 => ?_) (fun c6 => absurd c6 (by omega))
        refine lv_iload_n hx hb dX3_roundsUntilEmpty_76 rfl (lv_at hl 0 rfl) ?_
        have hf0 : fa (75 + k) = 0 := fill_0 hI2 hk c5
        refine hret _ _ _ _ _ rfl ?_ hP hS dX3_roundsUntilEmpty_77
        rw [← hE]
        show _ = (if fa (75 + k) = 0 then _ else _)
        rw [if_pos hf0]
      ·
        have hf0 : ¬ fa (75 + k) = 0 := fun z => c5 (by rw [z]; decide)
        have ih1 := ih
        refine lv_aload_n hx hb dX3_roundsUntilEmpty_25 rfl (lv_at hl 1 rfl) ?_
        refine lv_iload_n hx hb dX3_roundsUntilEmpty_26 rfl (lv_at hl 2 rfl) ?_
        refine q_ci1 (i := 1) (ws' := wR o ps pa pv pn px cI (oM ps pa pv pn px th mn kp ln sp wr le wh te dg) (rr (g_rn 8 fa k)) (rr f) fv fn fx) (va_runV (rm := { frames := 6, cells := 0, slots := 0, locals := 135 }) (As := [.int (nI k)]) (rest := []) ⟨hx, hb, hml, hown, hts⟩ (m3_goesRound l D cI o ps k (oM ps pa pv pn px th mn kp ln sp wr le wh te dg) fa rfl _ hI2 hk (by omega) hne) (cwV 1 hts gX3_roundsUntilEmpty_X3_goesRound rfl rfl rfl (by decide +kernel) ⟨Nat.le_of_ble_eq_true rfl, Nat.le_of_ble_eq_true rfl⟩) (q_pV (ci := 3) (q0 := 0) (hP.sub (ws' := wS o ps cI (oM ps pa pv pn px th mn kp ln sp wr le wh te dg) fa) [0, 1] rfl) hK rfl rfl) rfl rfl hl.1 rfl (lv_room (Nat.le_of_ble_eq_true rfl)) dX3_roundsUntilEmpty_27 ⟨Nat.le_of_ble_eq_true rfl, Nat.le_of_ble_eq_true rfl⟩) hP hD hS rfl (Or.inr (Or.inl rfl)) rfl (fun x7 H locs e7 hP hD hS => ?_)
        obtain ⟨f7, hf7⟩ : ∃ z, z = g_rn 8 fa k := ⟨_, rfl⟩
        rw [← hf7] at hP hD
        have e7 : x7 = nI (g_rc 8 fa k) := e7
        refine lv_istore_n (lv' := [(3, .int x7), (2, .int (nI i)), (0, .ref o), (1, .int (nI k))]) hx hb dX3_roundsUntilEmpty_30 rfl hl (by decide) rfl (fun ls hl => ?_)
        refine lv_iconst (v := nI 0) hx hb dX3_roundsUntilEmpty_31 (by decide) ?_
        refine lv_istore (lv' := [(4, .int (nI 0)), (3, .int x7), (2, .int (nI i)), (0, .ref o), (1, .int (nI k))]) hx hb dX3_roundsUntilEmpty_32 hl (by decide) rfl (fun ls hl => ?_)
        have hI3 : Inv (B + 1600 * i + 1600) f7 := by rw [hf7]; exact rn_inv hk 8 hI2 (by omega)
        obtain ⟨fb, hfb⟩ : ∃ z, z = f7 := ⟨_, rfl⟩
        rw [← hfb] at hP hD hI3
        have LJ : ∀ (n j : Nat) (y : Int32) (H : Heap) (locs : List Loc) (ls : Array Slot), j + n = 8 → va_P D vwCl (wR o ps pa pv pn px cI (oM ps pa pv pn px th mn kp ln sp wr le wh te dg) (rr (g_all j fb)) (rr f) fv fn fx) H → va_D (fun _ => True) (wR o ps pa pv pn px cI (oM ps pa pv pn px th mn kp ln sp wr le wh te dg) (rr (g_all j fb)) (rr f) fv fn fx) → va_S (AM o ps pa pv pn px) s.heap H locs → lv_has ls 5 [(4, .int (nI j)), (3, .int y), (2, .int (nI i)), (0, .ref o), (1, .int (nI k))] → W p l e { frames := 7, cells := 0, slots := 0, locals := 160 } s m args below meth c H locs 0 0 Q (F0 m 34 ls []) := by
          intro n
          induction n with
          | zero =>
            intro j y H locs ls hi  hP hD hS hl
            obtain rfl : 8 = j := by omega
            refine lv_iload hx hb dX3_roundsUntilEmpty_34 (lv_at hl 0 rfl) ?_
            refine lv_bipush (v := nI 8) hx hb dX3_roundsUntilEmpty_36 (by decide) ?_
            refine q_geN (tgt := 56) hx hb (by omega) (by omega) dX3_roundsUntilEmpty_38 (by decide) (fun c8 => ?_) (fun c8 => absurd c8 (by omega))
            refine lv_iinc (v := (nI (i + 1))) (lv' := [(2, .int (nI (i + 1))), (4, .int (nI 8)), (3, .int y), (0, .ref o), (1, .int (nI k))]) hx hb dX3_roundsUntilEmpty_56 hl (k := 2) rfl (q_inc i 1 (i + 1) (by omega)) (by decide) rfl (fun ls hl => ?_)
            refine lv_goto (tgt := 6) hx hb dX3_roundsUntilEmpty_59 (by decide) ?_
            have hnx : g_all 8 fb = g_nx fa k := by rw [hfb, hf7]; rfl
            rw [hnx] at hP hD
            have hI4 : Inv (B + 1600 * (i + 1)) (g_nx fa k) := by rw [show B + 1600 * (i + 1) = B + 1600 * i + 1600 by omega]; exact nx_inv hI2 (by omega) hk
            exact ih1 (i + 1) _ _ _ _ (by omega) hI4 (by rw [← hE]; show _ = (if fa (75 + k) = 0 then _ else _); rw [if_neg hf0]) hP hD hS (lv_sub hl [0, 3, 4] rfl)
          | succ n ih =>
            intro j y H locs ls hi  hP hD hS hl
            refine lv_iload hx hb dX3_roundsUntilEmpty_34 (lv_at hl 0 rfl) ?_
            refine lv_bipush (v := nI 8) hx hb dX3_roundsUntilEmpty_36 (by decide) ?_
            refine q_geN (tgt := 56) hx hb (by omega) (by omega) dX3_roundsUntilEmpty_38 (by decide) (fun c9 => absurd c9 (by omega)) (fun c9 => ?_)
            refine lv_iload_n hx hb dX3_roundsUntilEmpty_41 rfl (lv_at hl 1 rfl) ?_
            refine lv_aload_n hx hb dX3_roundsUntilEmpty_42 rfl (lv_at hl 3 rfl) ?_
            refine lv_iload hx hb dX3_roundsUntilEmpty_43 (lv_at hl 0 rfl) ?_
            refine q_ci1 (i := 1) (ws' := wR o ps pa pv pn px cI (oM ps pa pv pn px th mn kp ln sp wr le wh te dg) (rr (g_drink (g_all j fb) j)) (rr f) fv fn fx) (va_runV (rm := { frames := 1, cells := 0, slots := 0, locals := 21 }) (As := [.int (nI j)]) (rest := [.int y]) ⟨hx, hb, hml, hown, hts⟩ (m3_sips l D cI o ps j (oM ps pa pv pn px th mn kp ln sp wr le wh te dg) (g_all j fb) rfl (by omega) _ (all_inv hI3 _ (by omega)) hne) (cwV 1 hts gX3_roundsUntilEmpty_X3_sips rfl rfl rfl (by decide +kernel) ⟨Nat.le_of_ble_eq_true rfl, Nat.le_of_ble_eq_true rfl⟩) (q_pV (ci := 3) (q0 := 0) (hP.sub (ws' := wS o ps cI (oM ps pa pv pn px th mn kp ln sp wr le wh te dg) (g_all j fb)) [0, 1] rfl) hK rfl rfl) rfl rfl hl.1 rfl (lv_room (Nat.le_of_ble_eq_true rfl)) dX3_roundsUntilEmpty_45 ⟨Nat.le_of_ble_eq_true rfl, Nat.le_of_ble_eq_true rfl⟩) hP hD hS rfl (Or.inr (Or.inl rfl)) rfl (fun x10 H locs e10 hP hD hS => ?_)
            obtain ⟨f10, hf10⟩ : ∃ z, z = g_drink (g_all j fb) j := ⟨_, rfl⟩
            rw [← hf10] at hP hD
            have e10 : x10 = g_dr (g_all j fb) j := e10
            refine lv_iadd hx hb dX3_roundsUntilEmpty_48 ?_
            refine lv_topi (fun x11 e11 => ?_)
            refine lv_istore_n (lv' := [(3, .int x11), (4, .int (nI j)), (2, .int (nI i)), (0, .ref o), (1, .int (nI k))]) hx hb dX3_roundsUntilEmpty_49 rfl hl (by decide) rfl (fun ls hl => ?_)
            refine lv_iinc (v := (nI (j + 1))) (lv' := [(4, .int (nI (j + 1))), (3, .int x11), (2, .int (nI i)), (0, .ref o), (1, .int (nI k))]) hx hb dX3_roundsUntilEmpty_50 hl (k := 1) rfl (q_inc j 1 (j + 1) (by omega)) (by decide) rfl (fun ls hl => ?_)
            refine lv_goto (tgt := 34) hx hb dX3_roundsUntilEmpty_53 (by decide) ?_
            have hw : f10 = g_all (j + 1) fb := by (subst hf10; rfl)
            rw [hw] at hP hD
            exact ih (j + 1) x11 _ _ _ (by omega) hP hD hS (lv_sub hl [0, 1, 2, 3, 4] rfl)
        exact LJ 8 0 x7 _ _ _ (by omega)  hP hD hS (lv_sub hl [0, 1, 2, 3, 4] rfl)
  exact LP 21 0 f _ _ _ (by omega) hI rfl hP hD hS (lv_sub hl [0, 1, 2] rfl)
set_option maxHeartbeats 4000000 in
set_option maxRecDepth 100000 in
theorem m3_bestFor (l : Launch) (D : va_G) (cI : ClassId) (o ps pa pv pn px : Nat) (f fa fv fn fx : Nat → Int32) (k : Nat) (hk : k < 3) (B : Nat) (hI : Inv B f) (hB : B + 33600 < 2000000000) (th mn kp ln sp wr le wh te : Int32) (dg : Int64) (hD : va_D (fun _ => True) (wR o ps pa pv pn px cI (oM ps pa pv pn px th mn kp ln sp wr le wh te dg) (rr f) fa fv fn fx)) : q_I l yX3_bestFor wsX3_bestFor { frames := 5, cells := 0, slots := 0, locals := 110 } [.ref o, .int (nI k)] (q_bp D (wR o ps pa pv pn px cI (oM ps pa pv pn px th mn kp ln sp wr le wh te dg) (rr f) fa fv fn fx) [(cI, .int)]) (fun v => v = g_bg 8 (-1) (nI 0) f k) (fun H => va_P D vwCl (wR o ps pa pv pn px cI (oM ps pa pv pn px th mn kp ln sp wr le wh te dg) (rr f) (rr f) fv fn fx) H) (AM o ps pa pv pn px) 0 0 := by
  refine q_goI (cc := cX3_bestFor) (maxL := 7) (ty := .int) (lv0 := [(0, .ref o), (1, .int (nI k))]) (by decide) rfl (Nat.le_of_ble_eq_true rfl) rfl ?_
  intro p e s m args below meth c Q ls hx hb hml hts hown hP hK hl hret
  have hS : va_S (AM o ps pa pv pn px) s.heap s.heap [] := va_S.rf
  have hne : o ≠ ps := fun h => absurd (hD.1 0 1 _ _ rfl rfl h) (by decide)
  refine lv_aload_n hx hb dX3_bestFor_0 rfl (lv_at hl 0 rfl) ?_
  refine q_cvF (BH := fun H => va_P D vwCl (wR o ps pa pv pn px cI (oM ps pa pv pn px th mn kp ln sp wr le wh te dg) (rr f) (rr f) fv fn fx) H) (va_runV (rm := { frames := 0, cells := 0, slots := 0, locals := 0 }) (As := []) (rest := []) ⟨hx, hb, hml, hown, hts⟩ (m3_putAside l D cI o ps pa pv pn px f fa fv fn fx th mn kp ln sp wr le wh te dg hD) (cwV 0 hts gX3_bestFor_X3_putAside rfl rfl rfl (by decide +kernel) ⟨Nat.le_of_ble_eq_true rfl, Nat.le_of_ble_eq_true rfl⟩) (q_pV (ci := 3) (q0 := 0) hP hK rfl rfl) rfl rfl hl.1 rfl (lv_room (Nat.le_of_ble_eq_true rfl)) dX3_bestFor_1 ⟨Nat.le_of_ble_eq_true rfl, Nat.le_of_ble_eq_true rfl⟩) (fun _ h => h) hS (fun _ h => h) (fun H locs hP hS => ?_)
  have hD := q_D2 (ws' := wR o ps pa pv pn px cI (oM ps pa pv pn px th mn kp ln sp wr le wh te dg) (rr f) (rr f) fv fn fx) hD rfl
  refine lv_iconst (v := (-1)) hx hb dX3_bestFor_4 (by decide) ?_
  refine lv_istore_n (lv' := [(2, .int (-1)), (0, .ref o), (1, .int (nI k))]) hx hb dX3_bestFor_5 rfl hl (by decide) rfl (fun ls hl => ?_)
  refine lv_iconst (v := nI 0) hx hb dX3_bestFor_6 (by decide) ?_
  refine lv_istore_n (lv' := [(3, .int (nI 0)), (2, .int (-1)), (0, .ref o), (1, .int (nI k))]) hx hb dX3_bestFor_7 rfl hl (by decide) rfl (fun ls hl => ?_)
  refine lv_iconst (v := nI 0) hx hb dX3_bestFor_8 (by decide) ?_
  refine lv_istore (lv' := [(4, .int (nI 0)), (3, .int (nI 0)), (2, .int (-1)), (0, .ref o), (1, .int (nI k))]) hx hb dX3_bestFor_9 hl (by decide) rfl (fun ls hl => ?_)
  have LP : ∀ (n i : Nat) (fa : Nat → Int32) (bb bm : Int32) (H : Heap) (locs : List Loc) (ls : Array Slot), i + n = 8 → (hI2 : Inv B fa) → (hE : g_bg n bb bm fa k = g_bg 8 (-1) (nI 0) f k) → va_P D vwCl (wR o ps pa pv pn px cI (oM ps pa pv pn px th mn kp ln sp wr le wh te dg) (rr fa) (rr f) fv fn fx) H → va_D (fun _ => True) (wR o ps pa pv pn px cI (oM ps pa pv pn px th mn kp ln sp wr le wh te dg) (rr fa) (rr f) fv fn fx) → va_S (AM o ps pa pv pn px) s.heap H locs → lv_has ls 7 [(4, .int (nI i)), (3, .int bm), (2, .int bb), (0, .ref o), (1, .int (nI k))] → W p l e { frames := 5, cells := 0, slots := 0, locals := 110 } s m args below meth c H locs 0 0 Q (F0 m 11 ls []) := by
    intro n
    induction n with
    | zero =>
      intro i fa bb bm H locs ls hi hI2 hE hP hD hS hl
      obtain rfl : 8 = i := by omega
      refine lv_iload hx hb dX3_bestFor_11 (lv_at hl 0 rfl) ?_
      refine lv_bipush (v := nI 8) hx hb dX3_bestFor_13 (by decide) ?_
      refine q_geN (tgt := 91) hx hb (by omega) (by omega) dX3_bestFor_15 (by decide) (fun c1 => ?_) (fun c1 => absurd c1 (by omega))
      refine lv_aload_n hx hb dX3_bestFor_91 rfl (lv_at hl 3 rfl) ?_
      refine q_cvF (BH := fun H => va_P D vwCl (wR o ps pa pv pn px cI (oM ps pa pv pn px th mn kp ln sp wr le wh te dg) (rr f) (rr f) fv fn fx) H) (va_runV (rm := { frames := 0, cells := 0, slots := 0, locals := 0 }) (As := []) (rest := []) ⟨hx, hb, hml, hown, hts⟩ (m3_putBack l D cI o ps pa pv pn px fa f fv fn fx th mn kp ln sp wr le wh te dg hD) (cwV 0 hts gX3_bestFor_X3_putBack rfl rfl rfl (by decide +kernel) ⟨Nat.le_of_ble_eq_true rfl, Nat.le_of_ble_eq_true rfl⟩) (q_pV (ci := 3) (q0 := 0) hP hK rfl rfl) rfl rfl hl.1 rfl (lv_room (Nat.le_of_ble_eq_true rfl)) dX3_bestFor_92 ⟨Nat.le_of_ble_eq_true rfl, Nat.le_of_ble_eq_true rfl⟩) (fun _ h => h) hS (fun _ h => h) (fun H locs hP hS => ?_)
      have hD := q_D2 (ws' := wR o ps pa pv pn px cI (oM ps pa pv pn px th mn kp ln sp wr le wh te dg) (rr f) (rr f) fv fn fx) hD rfl
      refine lv_iload_n hx hb dX3_bestFor_95 rfl (lv_at hl 2 rfl) ?_
      exact hret _ _ _ _ _ rfl hE hP hS dX3_bestFor_96
    | succ n ih =>
      intro i fa bb bm H locs ls hi hI2 hE hP hD hS hl
      refine lv_iload hx hb dX3_bestFor_11 (lv_at hl 0 rfl) ?_
      refine lv_bipush (v := nI 8) hx hb dX3_bestFor_13 (by decide) ?_
      refine q_geN (tgt := 91) hx hb (by omega) (by omega) dX3_bestFor_15 (by decide) (fun c2 => absurd c2 (by omega)) (fun c2 => ?_)
      refine lv_aload_n hx hb dX3_bestFor_18 rfl (lv_at hl 3 rfl) ?_
      refine lv_iload_n hx hb dX3_bestFor_19 rfl (lv_at hl 4 rfl) ?_
      refine q_ciR (va_runV (rm := { frames := 2, cells := 0, slots := 0, locals := 42 }) (As := [.int (nI k)]) (rest := []) ⟨hx, hb, hml, hown, hts⟩ (m3_hindrance l D cI o ps k (oM ps pa pv pn px th mn kp ln sp wr le wh te dg) fa rfl _ hI2 hk) (cwV 1 hts gX3_bestFor_X3_hindrance rfl rfl rfl (by decide +kernel) ⟨Nat.le_of_ble_eq_true rfl, Nat.le_of_ble_eq_true rfl⟩) (q_pV (ci := 3) (q0 := 0) (hP.sub (ws' := wS o ps cI (oM ps pa pv pn px th mn kp ln sp wr le wh te dg) fa) [0, 1] rfl) hK rfl rfl) rfl rfl hl.1 rfl (lv_room (Nat.le_of_ble_eq_true rfl)) dX3_bestFor_20 ⟨Nat.le_of_ble_eq_true rfl, Nat.le_of_ble_eq_true rfl⟩) hP hS (fun x3 H locs e3 hP hS => ?_)
      have e3 : x3 = g_wy fa k := e3
      refine lv_if_ne (tgt := 44) hx hb dX3_bestFor_23 (by decide) (fun c4 => ?_) (fun c4 => ?_)
      ·
        refine lv_iconst (v := nI 0) hx hb dX3_bestFor_44 (by decide) ?_
        refine lv_istore (lv' := [(5, .int (nI 0)), (4, .int (nI i)), (3, .int bm), (2, .int bb), (0, .ref o), (1, .int (nI k))]) hx hb dX3_bestFor_45 hl (by decide) rfl (fun ls hl => ?_)
        have hbo : g_bo bb bm fa k = false := by
          unfold g_bo
          rw [decide_eq_false (show ¬ g_wy fa k = 0 from fun z => c4 (by rw [e3, z])), Bool.false_and]
        refine lv_iload hx hb dX3_bestFor_47 (lv_at hl 0 rfl) ?_
        refine lv_if_eq (tgt := 60) hx hb dX3_bestFor_49 (by decide) (fun c5 => ?_) (fun c5 => absurd c5 (by decide))
        refine lv_iload_n hx hb dX3_bestFor_60 rfl (lv_at hl 3 rfl) ?_
        refine lv_istore_n (lv' := [(2, .int bb), (5, .int (nI 0)), (4, .int (nI i)), (3, .int bm), (0, .ref o), (1, .int (nI k))]) hx hb dX3_bestFor_61 rfl hl (by decide) rfl (fun ls hl => ?_)
        refine lv_iload hx hb dX3_bestFor_62 (lv_at hl 1 rfl) ?_
        refine lv_if_eq (tgt := 75) hx hb dX3_bestFor_64 (by decide) (fun c6 => ?_) (fun c6 => absurd c6 (by decide))
        refine lv_iload_n hx hb dX3_bestFor_75 rfl (lv_at hl 3 rfl) ?_
        refine lv_istore_n (lv' := [(3, .int bm), (2, .int bb), (5, .int (nI 0)), (4, .int (nI i)), (0, .ref o), (1, .int (nI k))]) hx hb dX3_bestFor_76 rfl hl (by decide) rfl (fun ls hl => ?_)
        refine lv_aload_n hx hb dX3_bestFor_77 rfl (lv_at hl 4 rfl) ?_
        refine lv_iload_n hx hb dX3_bestFor_78 rfl (lv_at hl 5 rfl) ?_
        refine lv_iconst (v := nI 1) hx hb dX3_bestFor_79 (by decide) ?_
        refine q_ci1 (i := 1) (ws' := wR o ps pa pv pn px cI (oM ps pa pv pn px th mn kp ln sp wr le wh te dg) (rr (g_hand fa k 1)) (rr f) fv fn fx) (va_runV (rm := { frames := 3, cells := 0, slots := 0, locals := 64 }) (As := [.int (nI k), .int (nI 1)]) (rest := []) ⟨hx, hb, hml, hown, hts⟩ (m3_hands l D cI o ps k (hN fa k + 9) 1 (oM ps pa pv pn px th mn kp ln sp wr le wh te dg) fa rfl _ hI2 (nI 1) hk (bw_1 _) (by omega) (by have := hI2.hN8 hk; omega) hne) (cwV 2 hts gX3_bestFor_X3_hands rfl rfl rfl (by decide +kernel) ⟨Nat.le_of_ble_eq_true rfl, Nat.le_of_ble_eq_true rfl⟩) (q_pV (ci := 3) (q0 := 0) (hP.sub (ws' := wS o ps cI (oM ps pa pv pn px th mn kp ln sp wr le wh te dg) fa) [0, 1] rfl) hK rfl rfl) rfl rfl hl.1 rfl (lv_room (Nat.le_of_ble_eq_true rfl)) dX3_bestFor_80 ⟨Nat.le_of_ble_eq_true rfl, Nat.le_of_ble_eq_true rfl⟩) hP hD hS rfl (Or.inr (Or.inl rfl)) rfl (fun x7 H locs e7 hP hD hS => ?_)
        obtain ⟨f7, hf7⟩ : ∃ z, z = g_hand fa k 1 := ⟨_, rfl⟩
        rw [← hf7] at hP hD
        have e7 : x7 = nI ((hN fa k + 1) % 8) := e7
        refine lv_istore (lv' := [(6, .int x7), (3, .int bm), (2, .int bb), (5, .int (nI 0)), (4, .int (nI i)), (0, .ref o), (1, .int (nI k))]) hx hb dX3_bestFor_83 hl (by decide) rfl (fun ls hl => ?_)
        refine lv_iinc (v := (nI (i + 1))) (lv' := [(4, .int (nI (i + 1))), (6, .int x7), (3, .int bm), (2, .int bb), (5, .int (nI 0)), (0, .ref o), (1, .int (nI k))]) hx hb dX3_bestFor_85 hl (k := 4) rfl (q_inc i 1 (i + 1) (by omega)) (by decide) rfl (fun ls hl => ?_)
        refine lv_goto (tgt := 11) hx hb dX3_bestFor_88 (by decide) ?_
        have hI4 : Inv B f7 := by rw [hf7]; exact hand_inv hI2 hk
        have hE : g_bg n bb bm f7 k = g_bg 8 (-1) (nI 0) f k := by
          rw [← hE]
          show _ = g_bg n (if g_bo bb bm fa k then nI (hN fa k) else bb) (if g_bo bb bm fa k then g_ov fa k else bm) (g_hand fa k 1) k
          rw [hbo, hf7]
          rfl
        exact ih (i + 1) f7 bb bm _ _ _ (by omega) hI4 hE hP hD hS (lv_sub hl [0, 2, 3, 5, 6] rfl)
      ·
        refine lv_iload_n hx hb dX3_bestFor_26 rfl (lv_at hl 2 rfl) ?_
        refine lv_iconst (v := (-1)) hx hb dX3_bestFor_27 (by decide) ?_
        refine lv_icmp_eq (tgt := 40) hx hb dX3_bestFor_28 (by decide) (fun c8 => ?_) (fun c8 => ?_)
        ·
          refine lv_iconst (v := nI 1) hx hb dX3_bestFor_40 (by decide) ?_
          refine lv_goto (tgt := 45) hx hb dX3_bestFor_41 (by decide) ?_
          refine lv_istore (lv' := [(5, .int (nI 1)), (4, .int (nI i)), (3, .int bm), (2, .int bb), (0, .ref o), (1, .int (nI k))]) hx hb dX3_bestFor_45 hl (by decide) rfl (fun ls hl => ?_)
          have hbo : g_bo bb bm fa k = true := by
            unfold g_bo
            rw [decide_eq_true (show g_wy fa k = 0 by rw [← e3, c4]), Bool.true_and]
            rw [decide_eq_true c8, Bool.true_or]
          refine lv_iload hx hb dX3_bestFor_47 (lv_at hl 0 rfl) ?_
          refine lv_if_eq (tgt := 60) hx hb dX3_bestFor_49 (by decide) (fun c9 => absurd c9 (by decide)) (fun c9 => ?_)
          refine lv_aload_n hx hb dX3_bestFor_52 rfl (lv_at hl 4 rfl) ?_
          refine lv_iload_n hx hb dX3_bestFor_53 rfl (lv_at hl 5 rfl) ?_
          refine q_ciR (va_runV (rm := { frames := 1, cells := 0, slots := 0, locals := 21 }) (As := [.int (nI k)]) (rest := []) ⟨hx, hb, hml, hown, hts⟩ (m3_with l D cI o ps k (oM ps pa pv pn px th mn kp ln sp wr le wh te dg) fa rfl _ hI2 hk) (cwV 1 hts gX3_bestFor_X3_with rfl rfl rfl (by decide +kernel) ⟨Nat.le_of_ble_eq_true rfl, Nat.le_of_ble_eq_true rfl⟩) (q_pV (ci := 3) (q0 := 0) (hP.sub (ws' := wS o ps cI (oM ps pa pv pn px th mn kp ln sp wr le wh te dg) fa) [0, 1] rfl) hK rfl rfl) rfl rfl hl.1 rfl (lv_room (Nat.le_of_ble_eq_true rfl)) dX3_bestFor_54 ⟨Nat.le_of_ble_eq_true rfl, Nat.le_of_ble_eq_true rfl⟩) hP hS (fun x10 H locs e10 hP hS => ?_)
          have e10 : x10 = (nI ((hN fa k))) := Eq.trans e10 (congrArg nI (by omega))
          subst e10
          refine lv_goto (tgt := 61) hx hb dX3_bestFor_57 (by decide) ?_
          refine lv_istore_n (lv' := [(2, .int (nI ((hN fa k)))), (5, .int (nI 1)), (4, .int (nI i)), (3, .int bm), (0, .ref o), (1, .int (nI k))]) hx hb dX3_bestFor_61 rfl hl (by decide) rfl (fun ls hl => ?_)
          refine lv_iload hx hb dX3_bestFor_62 (lv_at hl 1 rfl) ?_
          refine lv_if_eq (tgt := 75) hx hb dX3_bestFor_64 (by decide) (fun c11 => absurd c11 (by decide)) (fun c11 => ?_)
          refine lv_aload_n hx hb dX3_bestFor_67 rfl (lv_at hl 4 rfl) ?_
          refine lv_iload_n hx hb dX3_bestFor_68 rfl (lv_at hl 5 rfl) ?_
          refine q_ciR (va_runV (rm := { frames := 4, cells := 0, slots := 0, locals := 88 }) (As := [.int (nI k)]) (rest := []) ⟨hx, hb, hml, hown, hts⟩ (m3_wouldSpill l D cI o ps k (oM ps pa pv pn px th mn kp ln sp wr le wh te dg) fa rfl _ hI2 hk) (cwV 1 hts gX3_bestFor_X3_wouldSpill rfl rfl rfl (by decide +kernel) ⟨Nat.le_of_ble_eq_true rfl, Nat.le_of_ble_eq_true rfl⟩) (q_pV (ci := 3) (q0 := 0) (hP.sub (ws' := wS o ps cI (oM ps pa pv pn px th mn kp ln sp wr le wh te dg) fa) [0, 1] rfl) hK rfl rfl) rfl rfl hl.1 rfl (lv_room (Nat.le_of_ble_eq_true rfl)) dX3_bestFor_69 ⟨Nat.le_of_ble_eq_true rfl, Nat.le_of_ble_eq_true rfl⟩) hP hS (fun x12 H locs e12 hP hS => ?_)
          have e12 : x12 = g_ov fa k := e12
          refine lv_goto (tgt := 76) hx hb dX3_bestFor_72 (by decide) ?_
          refine lv_istore_n (lv' := [(3, .int x12), (2, .int (nI ((hN fa k)))), (5, .int (nI 1)), (4, .int (nI i)), (0, .ref o), (1, .int (nI k))]) hx hb dX3_bestFor_76 rfl hl (by decide) rfl (fun ls hl => ?_)
          refine lv_aload_n hx hb dX3_bestFor_77 rfl (lv_at hl 4 rfl) ?_
          refine lv_iload_n hx hb dX3_bestFor_78 rfl (lv_at hl 5 rfl) ?_
          refine lv_iconst (v := nI 1) hx hb dX3_bestFor_79 (by decide) ?_
          refine q_ci1 (i := 1) (ws' := wR o ps pa pv pn px cI (oM ps pa pv pn px th mn kp ln sp wr le wh te dg) (rr (g_hand fa k 1)) (rr f) fv fn fx) (va_runV (rm := { frames := 3, cells := 0, slots := 0, locals := 64 }) (As := [.int (nI k), .int (nI 1)]) (rest := []) ⟨hx, hb, hml, hown, hts⟩ (m3_hands l D cI o ps k (hN fa k + 9) 1 (oM ps pa pv pn px th mn kp ln sp wr le wh te dg) fa rfl _ hI2 (nI 1) hk (bw_1 _) (by omega) (by have := hI2.hN8 hk; omega) hne) (cwV 2 hts gX3_bestFor_X3_hands rfl rfl rfl (by decide +kernel) ⟨Nat.le_of_ble_eq_true rfl, Nat.le_of_ble_eq_true rfl⟩) (q_pV (ci := 3) (q0 := 0) (hP.sub (ws' := wS o ps cI (oM ps pa pv pn px th mn kp ln sp wr le wh te dg) fa) [0, 1] rfl) hK rfl rfl) rfl rfl hl.1 rfl (lv_room (Nat.le_of_ble_eq_true rfl)) dX3_bestFor_80 ⟨Nat.le_of_ble_eq_true rfl, Nat.le_of_ble_eq_true rfl⟩) hP hD hS rfl (Or.inr (Or.inl rfl)) rfl (fun x13 H locs e13 hP hD hS => ?_)
          obtain ⟨f13, hf13⟩ : ∃ z, z = g_hand fa k 1 := ⟨_, rfl⟩
          rw [← hf13] at hP hD
          have e13 : x13 = nI ((hN fa k + 1) % 8) := e13
          refine lv_istore (lv' := [(6, .int x13), (3, .int x12), (2, .int (nI ((hN fa k)))), (5, .int (nI 1)), (4, .int (nI i)), (0, .ref o), (1, .int (nI k))]) hx hb dX3_bestFor_83 hl (by decide) rfl (fun ls hl => ?_)
          refine lv_iinc (v := (nI (i + 1))) (lv' := [(4, .int (nI (i + 1))), (6, .int x13), (3, .int x12), (2, .int (nI ((hN fa k)))), (5, .int (nI 1)), (0, .ref o), (1, .int (nI k))]) hx hb dX3_bestFor_85 hl (k := 4) rfl (q_inc i 1 (i + 1) (by omega)) (by decide) rfl (fun ls hl => ?_)
          refine lv_goto (tgt := 11) hx hb dX3_bestFor_88 (by decide) ?_
          have hI4 : Inv B f13 := by rw [hf13]; exact hand_inv hI2 hk
          have hE : g_bg n (nI ((hN fa k))) x12 f13 k = g_bg 8 (-1) (nI 0) f k := by
            rw [← hE]
            show _ = g_bg n (if g_bo bb bm fa k then nI (hN fa k) else bb) (if g_bo bb bm fa k then g_ov fa k else bm) (g_hand fa k 1) k
            rw [hbo, hf13, e12]
            rfl
          exact ih (i + 1) f13 (nI ((hN fa k))) x12 _ _ _ (by omega) hI4 hE hP hD hS (lv_sub hl [0, 2, 3, 5, 6] rfl)
        ·
          refine lv_aload_n hx hb dX3_bestFor_31 rfl (lv_at hl 3 rfl) ?_
          refine lv_iload_n hx hb dX3_bestFor_32 rfl (lv_at hl 4 rfl) ?_
          refine q_ciR (va_runV (rm := { frames := 4, cells := 0, slots := 0, locals := 88 }) (As := [.int (nI k)]) (rest := []) ⟨hx, hb, hml, hown, hts⟩ (m3_wouldSpill l D cI o ps k (oM ps pa pv pn px th mn kp ln sp wr le wh te dg) fa rfl _ hI2 hk) (cwV 1 hts gX3_bestFor_X3_wouldSpill rfl rfl rfl (by decide +kernel) ⟨Nat.le_of_ble_eq_true rfl, Nat.le_of_ble_eq_true rfl⟩) (q_pV (ci := 3) (q0 := 0) (hP.sub (ws' := wS o ps cI (oM ps pa pv pn px th mn kp ln sp wr le wh te dg) fa) [0, 1] rfl) hK rfl rfl) rfl rfl hl.1 rfl (lv_room (Nat.le_of_ble_eq_true rfl)) dX3_bestFor_33 ⟨Nat.le_of_ble_eq_true rfl, Nat.le_of_ble_eq_true rfl⟩) hP hS (fun x14 H locs e14 hP hS => ?_)
          have e14 : x14 = g_ov fa k := e14
          refine lv_iload_n hx hb dX3_bestFor_36 rfl (lv_at hl 1 rfl) ?_
          refine lv_icmp_ge (tgt := 44) hx hb dX3_bestFor_37 (by decide) (fun c15 => ?_) (fun c15 => ?_)
          ·
            refine lv_iconst (v := nI 0) hx hb dX3_bestFor_44 (by decide) ?_
            refine lv_istore (lv' := [(5, .int (nI 0)), (4, .int (nI i)), (3, .int bm), (2, .int bb), (0, .ref o), (1, .int (nI k))]) hx hb dX3_bestFor_45 hl (by decide) rfl (fun ls hl => ?_)
            have hbo : g_bo bb bm fa k = false := by
              unfold g_bo
              rw [decide_eq_true (show g_wy fa k = 0 by rw [← e3, c4]), Bool.true_and]
              rw [decide_eq_false c8, Bool.false_or]
              exact decide_eq_false (fun z => by rw [e14, ← q_nlt] at c15; exact c15 z)
            refine lv_iload hx hb dX3_bestFor_47 (lv_at hl 0 rfl) ?_
            refine lv_if_eq (tgt := 60) hx hb dX3_bestFor_49 (by decide) (fun c16 => ?_) (fun c16 => absurd c16 (by decide))
            refine lv_iload_n hx hb dX3_bestFor_60 rfl (lv_at hl 3 rfl) ?_
            refine lv_istore_n (lv' := [(2, .int bb), (5, .int (nI 0)), (4, .int (nI i)), (3, .int bm), (0, .ref o), (1, .int (nI k))]) hx hb dX3_bestFor_61 rfl hl (by decide) rfl (fun ls hl => ?_)
            refine lv_iload hx hb dX3_bestFor_62 (lv_at hl 1 rfl) ?_
            refine lv_if_eq (tgt := 75) hx hb dX3_bestFor_64 (by decide) (fun c17 => ?_) (fun c17 => absurd c17 (by decide))
            refine lv_iload_n hx hb dX3_bestFor_75 rfl (lv_at hl 3 rfl) ?_
            refine lv_istore_n (lv' := [(3, .int bm), (2, .int bb), (5, .int (nI 0)), (4, .int (nI i)), (0, .ref o), (1, .int (nI k))]) hx hb dX3_bestFor_76 rfl hl (by decide) rfl (fun ls hl => ?_)
            refine lv_aload_n hx hb dX3_bestFor_77 rfl (lv_at hl 4 rfl) ?_
            refine lv_iload_n hx hb dX3_bestFor_78 rfl (lv_at hl 5 rfl) ?_
            refine lv_iconst (v := nI 1) hx hb dX3_bestFor_79 (by decide) ?_
            refine q_ci1 (i := 1) (ws' := wR o ps pa pv pn px cI (oM ps pa pv pn px th mn kp ln sp wr le wh te dg) (rr (g_hand fa k 1)) (rr f) fv fn fx) (va_runV (rm := { frames := 3, cells := 0, slots := 0, locals := 64 }) (As := [.int (nI k), .int (nI 1)]) (rest := []) ⟨hx, hb, hml, hown, hts⟩ (m3_hands l D cI o ps k (hN fa k + 9) 1 (oM ps pa pv pn px th mn kp ln sp wr le wh te dg) fa rfl _ hI2 (nI 1) hk (bw_1 _) (by omega) (by have := hI2.hN8 hk; omega) hne) (cwV 2 hts gX3_bestFor_X3_hands rfl rfl rfl (by decide +kernel) ⟨Nat.le_of_ble_eq_true rfl, Nat.le_of_ble_eq_true rfl⟩) (q_pV (ci := 3) (q0 := 0) (hP.sub (ws' := wS o ps cI (oM ps pa pv pn px th mn kp ln sp wr le wh te dg) fa) [0, 1] rfl) hK rfl rfl) rfl rfl hl.1 rfl (lv_room (Nat.le_of_ble_eq_true rfl)) dX3_bestFor_80 ⟨Nat.le_of_ble_eq_true rfl, Nat.le_of_ble_eq_true rfl⟩) hP hD hS rfl (Or.inr (Or.inl rfl)) rfl (fun x18 H locs e18 hP hD hS => ?_)
            obtain ⟨f18, hf18⟩ : ∃ z, z = g_hand fa k 1 := ⟨_, rfl⟩
            rw [← hf18] at hP hD
            have e18 : x18 = nI ((hN fa k + 1) % 8) := e18
            refine lv_istore (lv' := [(6, .int x18), (3, .int bm), (2, .int bb), (5, .int (nI 0)), (4, .int (nI i)), (0, .ref o), (1, .int (nI k))]) hx hb dX3_bestFor_83 hl (by decide) rfl (fun ls hl => ?_)
            refine lv_iinc (v := (nI (i + 1))) (lv' := [(4, .int (nI (i + 1))), (6, .int x18), (3, .int bm), (2, .int bb), (5, .int (nI 0)), (0, .ref o), (1, .int (nI k))]) hx hb dX3_bestFor_85 hl (k := 4) rfl (q_inc i 1 (i + 1) (by omega)) (by decide) rfl (fun ls hl => ?_)
            refine lv_goto (tgt := 11) hx hb dX3_bestFor_88 (by decide) ?_
            have hI4 : Inv B f18 := by rw [hf18]; exact hand_inv hI2 hk
            have hE : g_bg n bb bm f18 k = g_bg 8 (-1) (nI 0) f k := by
              rw [← hE]
              show _ = g_bg n (if g_bo bb bm fa k then nI (hN fa k) else bb) (if g_bo bb bm fa k then g_ov fa k else bm) (g_hand fa k 1) k
              rw [hbo, hf18]
              rfl
            exact ih (i + 1) f18 bb bm _ _ _ (by omega) hI4 hE hP hD hS (lv_sub hl [0, 2, 3, 5, 6] rfl)
          ·
            refine lv_iconst (v := nI 1) hx hb dX3_bestFor_40 (by decide) ?_
            refine lv_goto (tgt := 45) hx hb dX3_bestFor_41 (by decide) ?_
            refine lv_istore (lv' := [(5, .int (nI 1)), (4, .int (nI i)), (3, .int bm), (2, .int bb), (0, .ref o), (1, .int (nI k))]) hx hb dX3_bestFor_45 hl (by decide) rfl (fun ls hl => ?_)
            have hbo : g_bo bb bm fa k = true := by
              unfold g_bo
              rw [decide_eq_true (show g_wy fa k = 0 by rw [← e3, c4]), Bool.true_and]
              rw [decide_eq_false c8, Bool.false_or]
              exact decide_eq_true (by rw [e14, ← q_nlt, Classical.not_not] at c15; exact c15)
            refine lv_iload hx hb dX3_bestFor_47 (lv_at hl 0 rfl) ?_
            refine lv_if_eq (tgt := 60) hx hb dX3_bestFor_49 (by decide) (fun c19 => absurd c19 (by decide)) (fun c19 => ?_)
            refine lv_aload_n hx hb dX3_bestFor_52 rfl (lv_at hl 4 rfl) ?_
            refine lv_iload_n hx hb dX3_bestFor_53 rfl (lv_at hl 5 rfl) ?_
            refine q_ciR (va_runV (rm := { frames := 1, cells := 0, slots := 0, locals := 21 }) (As := [.int (nI k)]) (rest := []) ⟨hx, hb, hml, hown, hts⟩ (m3_with l D cI o ps k (oM ps pa pv pn px th mn kp ln sp wr le wh te dg) fa rfl _ hI2 hk) (cwV 1 hts gX3_bestFor_X3_with rfl rfl rfl (by decide +kernel) ⟨Nat.le_of_ble_eq_true rfl, Nat.le_of_ble_eq_true rfl⟩) (q_pV (ci := 3) (q0 := 0) (hP.sub (ws' := wS o ps cI (oM ps pa pv pn px th mn kp ln sp wr le wh te dg) fa) [0, 1] rfl) hK rfl rfl) rfl rfl hl.1 rfl (lv_room (Nat.le_of_ble_eq_true rfl)) dX3_bestFor_54 ⟨Nat.le_of_ble_eq_true rfl, Nat.le_of_ble_eq_true rfl⟩) hP hS (fun x20 H locs e20 hP hS => ?_)
            have e20 : x20 = (nI ((hN fa k))) := Eq.trans e20 (congrArg nI (by omega))
            subst e20
            refine lv_goto (tgt := 61) hx hb dX3_bestFor_57 (by decide) ?_
            refine lv_istore_n (lv' := [(2, .int (nI ((hN fa k)))), (5, .int (nI 1)), (4, .int (nI i)), (3, .int bm), (0, .ref o), (1, .int (nI k))]) hx hb dX3_bestFor_61 rfl hl (by decide) rfl (fun ls hl => ?_)
            refine lv_iload hx hb dX3_bestFor_62 (lv_at hl 1 rfl) ?_
            refine lv_if_eq (tgt := 75) hx hb dX3_bestFor_64 (by decide) (fun c21 => absurd c21 (by decide)) (fun c21 => ?_)
            refine lv_aload_n hx hb dX3_bestFor_67 rfl (lv_at hl 4 rfl) ?_
            refine lv_iload_n hx hb dX3_bestFor_68 rfl (lv_at hl 5 rfl) ?_
            refine q_ciR (va_runV (rm := { frames := 4, cells := 0, slots := 0, locals := 88 }) (As := [.int (nI k)]) (rest := []) ⟨hx, hb, hml, hown, hts⟩ (m3_wouldSpill l D cI o ps k (oM ps pa pv pn px th mn kp ln sp wr le wh te dg) fa rfl _ hI2 hk) (cwV 1 hts gX3_bestFor_X3_wouldSpill rfl rfl rfl (by decide +kernel) ⟨Nat.le_of_ble_eq_true rfl, Nat.le_of_ble_eq_true rfl⟩) (q_pV (ci := 3) (q0 := 0) (hP.sub (ws' := wS o ps cI (oM ps pa pv pn px th mn kp ln sp wr le wh te dg) fa) [0, 1] rfl) hK rfl rfl) rfl rfl hl.1 rfl (lv_room (Nat.le_of_ble_eq_true rfl)) dX3_bestFor_69 ⟨Nat.le_of_ble_eq_true rfl, Nat.le_of_ble_eq_true rfl⟩) hP hS (fun x22 H locs e22 hP hS => ?_)
            have e22 : x22 = g_ov fa k := e22
            refine lv_goto (tgt := 76) hx hb dX3_bestFor_72 (by decide) ?_
            refine lv_istore_n (lv' := [(3, .int x22), (2, .int (nI ((hN fa k)))), (5, .int (nI 1)), (4, .int (nI i)), (0, .ref o), (1, .int (nI k))]) hx hb dX3_bestFor_76 rfl hl (by decide) rfl (fun ls hl => ?_)
            refine lv_aload_n hx hb dX3_bestFor_77 rfl (lv_at hl 4 rfl) ?_
            refine lv_iload_n hx hb dX3_bestFor_78 rfl (lv_at hl 5 rfl) ?_
            refine lv_iconst (v := nI 1) hx hb dX3_bestFor_79 (by decide) ?_
            refine q_ci1 (i := 1) (ws' := wR o ps pa pv pn px cI (oM ps pa pv pn px th mn kp ln sp wr le wh te dg) (rr (g_hand fa k 1)) (rr f) fv fn fx) (va_runV (rm := { frames := 3, cells := 0, slots := 0, locals := 64 }) (As := [.int (nI k), .int (nI 1)]) (rest := []) ⟨hx, hb, hml, hown, hts⟩ (m3_hands l D cI o ps k (hN fa k + 9) 1 (oM ps pa pv pn px th mn kp ln sp wr le wh te dg) fa rfl _ hI2 (nI 1) hk (bw_1 _) (by omega) (by have := hI2.hN8 hk; omega) hne) (cwV 2 hts gX3_bestFor_X3_hands rfl rfl rfl (by decide +kernel) ⟨Nat.le_of_ble_eq_true rfl, Nat.le_of_ble_eq_true rfl⟩) (q_pV (ci := 3) (q0 := 0) (hP.sub (ws' := wS o ps cI (oM ps pa pv pn px th mn kp ln sp wr le wh te dg) fa) [0, 1] rfl) hK rfl rfl) rfl rfl hl.1 rfl (lv_room (Nat.le_of_ble_eq_true rfl)) dX3_bestFor_80 ⟨Nat.le_of_ble_eq_true rfl, Nat.le_of_ble_eq_true rfl⟩) hP hD hS rfl (Or.inr (Or.inl rfl)) rfl (fun x23 H locs e23 hP hD hS => ?_)
            obtain ⟨f23, hf23⟩ : ∃ z, z = g_hand fa k 1 := ⟨_, rfl⟩
            rw [← hf23] at hP hD
            have e23 : x23 = nI ((hN fa k + 1) % 8) := e23
            refine lv_istore (lv' := [(6, .int x23), (3, .int x22), (2, .int (nI ((hN fa k)))), (5, .int (nI 1)), (4, .int (nI i)), (0, .ref o), (1, .int (nI k))]) hx hb dX3_bestFor_83 hl (by decide) rfl (fun ls hl => ?_)
            refine lv_iinc (v := (nI (i + 1))) (lv' := [(4, .int (nI (i + 1))), (6, .int x23), (3, .int x22), (2, .int (nI ((hN fa k)))), (5, .int (nI 1)), (0, .ref o), (1, .int (nI k))]) hx hb dX3_bestFor_85 hl (k := 4) rfl (q_inc i 1 (i + 1) (by omega)) (by decide) rfl (fun ls hl => ?_)
            refine lv_goto (tgt := 11) hx hb dX3_bestFor_88 (by decide) ?_
            have hI4 : Inv B f23 := by rw [hf23]; exact hand_inv hI2 hk
            have hE : g_bg n (nI ((hN fa k))) x22 f23 k = g_bg 8 (-1) (nI 0) f k := by
              rw [← hE]
              show _ = g_bg n (if g_bo bb bm fa k then nI (hN fa k) else bb) (if g_bo bb bm fa k then g_ov fa k else bm) (g_hand fa k 1) k
              rw [hbo, hf23, e22]
              rfl
            exact ih (i + 1) f23 (nI ((hN fa k))) x22 _ _ _ (by omega) hI4 hE hP hD hS (lv_sub hl [0, 2, 3, 5, 6] rfl)
  exact LP 8 0 f (-1) (nI 0) _ _ _ (by omega) hI rfl hP hD hS (lv_sub hl [0, 1, 2, 3, 4] rfl)
set_option maxHeartbeats 4000000 in
set_option maxRecDepth 100000 in
theorem m3_emptyIn_ok (l : Launch) (D : va_G) (cI : ClassId) (o ps pa pv pn px : Nat) (f fa fv fn fx : Nat → Int32) (B : Nat) (hI : Inv B f) (ns : Nat) (hn : ns ≤ 6) (th kp ln sp wr le wh te : Int32) (dg : Int64) (k : Nat) (hk : k < 3) (hB : B + 33600 < 2000000000) (hD : va_D (fun _ => True) (wR o ps pa pv pn px cI (oM ps pa pv pn px th (nI ns) kp ln sp wr le wh te dg) (rr f) fa fv fn fx)) : q_I l yX3_emptyIn wsX3_emptyIn { frames := 8, cells := 0, slots := 0, locals := 184 } [.ref o, .int (nI k)] (q_bp D (wR o ps pa pv pn px cI (oM ps pa pv pn px th (nI ns) kp ln sp wr le wh te dg) (rr f) fa fv fn fx) [(cI, .int)]) (fun v => v = g_ei 21 0 f k) (fun H => va_P D vwCl (wR o ps pa pv pn px cI (oM ps pa pv pn px (nI 0) (nI ns) kp ln sp wr le wh te dg) (rr f) (rr f) fv fn fx) H) (AM o ps pa pv pn px) 0 0 := by
  refine q_goI (cc := cX3_emptyIn) (maxL := 2) (ty := .int) (lv0 := [(0, .ref o), (1, .int (nI k))]) (by decide) rfl (Nat.le_of_ble_eq_true rfl) rfl ?_
  intro p e s m args below meth c Q ls hx hb hml hts hown hP hK hl hret
  have hS : va_S (AM o ps pa pv pn px) s.heap s.heap [] := va_S.rf
  have hne : o ≠ ps := fun h => absurd (hD.1 0 1 _ _ rfl rfl h) (by decide)
  refine lv_aload_n hx hb dX3_emptyIn_0 rfl (lv_at hl 0 rfl) ?_
  refine lv_iload_n hx hb dX3_emptyIn_1 rfl (lv_at hl 1 rfl) ?_
  refine q_ciR (va_runS (rm := { frames := 1, cells := 0, slots := 0, locals := 22 }) (As := [.int (nI k)]) (rest := [.ref o]) ⟨hx, hb, hml, hown, hts⟩ (m3_isPot l D (nI k)) (va_cwS 1 hts gX3_emptyIn_X3_isPot rfl rfl rfl (by decide +kernel) ⟨Nat.le_of_ble_eq_true rfl, Nat.le_of_ble_eq_true rfl⟩) (q_pS (hP.sub [] rfl) (hK.sub [] rfl)) rfl rfl hl.1 rfl (lv_room (Nat.le_of_ble_eq_true rfl)) dX3_emptyIn_2 ⟨Nat.le_of_ble_eq_true rfl, Nat.le_of_ble_eq_true rfl⟩) hP hS (fun x1 H locs e1 hP hS => ?_)
  have e1 : x1 = nI 1 := by
    have h9 : x1 = p_b (q_in (nI 0) (nI 2) (nI k)) := e1
    rw [h9, ((q_inN (Nat.zero_le _) (by omega) (by decide)) : q_in (nI 0) (nI 2) (nI k) = true)]
    rfl
  subst e1
  refine lv_if_eq (tgt := 12) hx hb dX3_emptyIn_5 (by decide) (fun c2 => absurd c2 (by decide)) (fun c2 => ?_)
  refine lv_iconst (v := nI 0) hx hb dX3_emptyIn_8 (by decide) ?_
  refine lv_goto (tgt := 13) hx hb dX3_emptyIn_9 (by decide) ?_
  refine q_ci1 (i := 0) (ws' := wR o ps pa pv pn px cI (oM ps pa pv pn px (nI 0) (nI ns) kp ln sp wr le wh te dg) (rr f) fa fv fn fx) (va_runV (rm := { frames := 0, cells := 0, slots := 0, locals := 0 }) (As := [.int (nI 0)]) (rest := []) ⟨hx, hb, hml, hown, hts⟩ (m3_holds0 l D cI o (oM ps pa pv pn px th (nI ns) kp ln sp wr le wh te dg) (Nat.le_of_ble_eq_true rfl)) (cwV 1 hts gX3_emptyIn_X3_holds rfl rfl rfl (by decide +kernel) ⟨Nat.le_of_ble_eq_true rfl, Nat.le_of_ble_eq_true rfl⟩) (q_pV (ci := 3) (q0 := 0) (hP.sub [0] rfl) (hK.sub [] rfl) rfl rfl) rfl rfl hl.1 rfl (lv_room (Nat.le_of_ble_eq_true rfl)) dX3_emptyIn_13 ⟨Nat.le_of_ble_eq_true rfl, Nat.le_of_ble_eq_true rfl⟩) hP hD hS rfl (Or.inl rfl) rfl (fun x3 H locs e3 hP hD hS => ?_)
  have e3 : x3 = nI 1 := e3
  subst e3
  refine lv_if_eq (tgt := 27) hx hb dX3_emptyIn_16 (by decide) (fun c4 => absurd c4 (by decide)) (fun c4 => ?_)
  refine lv_aload_n hx hb dX3_emptyIn_19 rfl (lv_at hl 0 rfl) ?_
  refine lv_iload_n hx hb dX3_emptyIn_20 rfl (lv_at hl 1 rfl) ?_
  refine q_ciF (BH := fun H => va_P D vwCl (wR o ps pa pv pn px cI (oM ps pa pv pn px (nI 0) (nI ns) kp ln sp wr le wh te dg) (rr f) (rr f) fv fn fx) H) (va_runV (rm := { frames := 7, cells := 0, slots := 0, locals := 160 }) (As := [.int (nI k)]) (rest := []) ⟨hx, hb, hml, hown, hts⟩ (m3_roundsUntilEmpty l D cI o ps pa pv pn px f fa fv fn fx k (by omega) B hI (by omega) (nI 0) (nI ns) kp ln sp wr le wh te dg hD) (cwV 1 hts gX3_emptyIn_X3_roundsUntilEmpty rfl rfl rfl (by decide +kernel) ⟨Nat.le_of_ble_eq_true rfl, Nat.le_of_ble_eq_true rfl⟩) (q_pV (ci := 3) (q0 := 0) hP hK rfl rfl) rfl rfl hl.1 rfl (lv_room (Nat.le_of_ble_eq_true rfl)) dX3_emptyIn_21 ⟨Nat.le_of_ble_eq_true rfl, Nat.le_of_ble_eq_true rfl⟩) (fun _ h => h) hS (fun _ h => h) (fun x5 H locs e5 hP hS => ?_)
  have e5 : x5 = g_ei 21 0 f k := e5
  have hD := q_D2 (ws' := wR o ps pa pv pn px cI (oM ps pa pv pn px (nI 0) (nI ns) kp ln sp wr le wh te dg) (rr f) (rr f) fv fn fx) hD rfl
  refine lv_goto (tgt := 28) hx hb dX3_emptyIn_24 (by decide) ?_
  refine hret _ _ _ _ _ rfl ?_ (hP) hS dX3_emptyIn_28
  subst e5
  rfl
set_option maxHeartbeats 4000000 in
set_option maxRecDepth 100000 in
theorem m3_emptyIn_1 (l : Launch) (D : va_G) (cI : ClassId) (o ps pa pv pn px : Nat) (f fa fv fn fx : Nat → Int32) (B : Nat) (hI : Inv B f) (ns : Nat) (hn : ns ≤ 6) (th kp ln sp wr le wh te : Int32) (dg : Int64) (x0 : Int32) (h0q : q_in (nI 0) (nI 2) x0 = false) (hD : va_D (fun _ => True) (wR o ps pa pv pn px cI (oM ps pa pv pn px th (nI ns) kp ln sp wr le wh te dg) (rr f) fa fv fn fx)) : q_I l yX3_emptyIn wsX3_emptyIn { frames := 2, cells := 0, slots := 0, locals := 42 } [.ref o, .int x0] (q_bp D (wR o ps pa pv pn px cI (oM ps pa pv pn px th (nI ns) kp ln sp wr le wh te dg) (rr f) fa fv fn fx) [(cI, .int)]) (fun v => True) (fun H => va_P D vwCl (wR o ps pa pv pn px cI (oM ps pa pv pn px (nI 1) (nI ns) kp ln sp wr le wh te dg) (rr f) fa fv fn fx) H) (AM o ps pa pv pn px) 0 0 := by
  refine q_goI (cc := cX3_emptyIn) (maxL := 2) (ty := .int) (lv0 := [(0, .ref o), (1, .int x0)]) (by decide) rfl (Nat.le_of_ble_eq_true rfl) rfl ?_
  intro p e s m args below meth c Q ls hx hb hml hts hown hP hK hl hret
  have hS : va_S (AM o ps pa pv pn px) s.heap s.heap [] := va_S.rf
  have hne : o ≠ ps := fun h => absurd (hD.1 0 1 _ _ rfl rfl h) (by decide)
  refine lv_aload_n hx hb dX3_emptyIn_0 rfl (lv_at hl 0 rfl) ?_
  refine lv_iload_n hx hb dX3_emptyIn_1 rfl (lv_at hl 1 rfl) ?_
  refine q_ciR (va_runS (rm := { frames := 1, cells := 0, slots := 0, locals := 22 }) (As := [.int x0]) (rest := [.ref o]) ⟨hx, hb, hml, hown, hts⟩ (m3_isPot l D x0) (va_cwS 1 hts gX3_emptyIn_X3_isPot rfl rfl rfl (by decide +kernel) ⟨Nat.le_of_ble_eq_true rfl, Nat.le_of_ble_eq_true rfl⟩) (q_pS (hP.sub [] rfl) (hK.sub [] rfl)) rfl rfl hl.1 rfl (lv_room (Nat.le_of_ble_eq_true rfl)) dX3_emptyIn_2 ⟨Nat.le_of_ble_eq_true rfl, Nat.le_of_ble_eq_true rfl⟩) hP hS (fun x1 H locs e1 hP hS => ?_)
  have e1 : x1 = nI 0 := by
    have h9 : x1 = p_b (q_in (nI 0) (nI 2) x0) := e1
    rw [h9, (h0q : q_in (nI 0) (nI 2) x0 = false)]
    rfl
  subst e1
  refine lv_if_eq (tgt := 12) hx hb dX3_emptyIn_5 (by decide) (fun c2 => ?_) (fun c2 => absurd c2 (by decide))
  refine lv_iconst (v := nI 1) hx hb dX3_emptyIn_12 (by decide) ?_
  refine q_ci1 (i := 0) (ws' := wR o ps pa pv pn px cI (oM ps pa pv pn px (nI 1) (nI ns) kp ln sp wr le wh te dg) (rr f) fa fv fn fx) (va_runV (rm := { frames := 0, cells := 0, slots := 0, locals := 0 }) (As := [.int (nI 1)]) (rest := []) ⟨hx, hb, hml, hown, hts⟩ (m3_holds1 l D cI o (oM ps pa pv pn px th (nI ns) kp ln sp wr le wh te dg) (Nat.le_of_ble_eq_true rfl)) (cwV 1 hts gX3_emptyIn_X3_holds rfl rfl rfl (by decide +kernel) ⟨Nat.le_of_ble_eq_true rfl, Nat.le_of_ble_eq_true rfl⟩) (q_pV (ci := 3) (q0 := 0) (hP.sub [0] rfl) (hK.sub [] rfl) rfl rfl) rfl rfl hl.1 rfl (lv_room (Nat.le_of_ble_eq_true rfl)) dX3_emptyIn_13 ⟨Nat.le_of_ble_eq_true rfl, Nat.le_of_ble_eq_true rfl⟩) hP hD hS rfl (Or.inl rfl) rfl (fun x3 H locs e3 hP hD hS => ?_)
  have e3 : x3 = nI 0 := e3
  subst e3
  refine lv_if_eq (tgt := 27) hx hb dX3_emptyIn_16 (by decide) (fun c4 => ?_) (fun c4 => absurd c4 (by decide))
  refine lv_iconst (v := nI 0) hx hb dX3_emptyIn_27 (by decide) ?_
  refine hret _ _ _ _ _ rfl ?_ (hP) hS dX3_emptyIn_28
  trivial
set_option maxHeartbeats 4000000 in
set_option maxRecDepth 100000 in
theorem m3_bestGuest_ok (l : Launch) (D : va_G) (cI : ClassId) (o ps pa pv pn px : Nat) (f fa fv fn fx : Nat → Int32) (B : Nat) (hI : Inv B f) (ns : Nat) (hn : ns ≤ 6) (th kp ln sp wr le wh te : Int32) (dg : Int64) (k : Nat) (hk : k < 3) (hB : B + 33600 < 2000000000) (hD : va_D (fun _ => True) (wR o ps pa pv pn px cI (oM ps pa pv pn px th (nI ns) kp ln sp wr le wh te dg) (rr f) fa fv fn fx)) : q_I l yX3_bestGuest wsX3_bestGuest { frames := 6, cells := 0, slots := 0, locals := 136 } [.ref o, .int (nI k)] (q_bp D (wR o ps pa pv pn px cI (oM ps pa pv pn px th (nI ns) kp ln sp wr le wh te dg) (rr f) fa fv fn fx) [(cI, .int)]) (fun v => v = g_bg 8 (-1) (nI 0) f k) (fun H => va_P D vwCl (wR o ps pa pv pn px cI (oM ps pa pv pn px (nI 0) (nI ns) kp ln sp wr le wh te dg) (rr f) (rr f) fv fn fx) H) (AM o ps pa pv pn px) 0 0 := by
  refine q_goI (cc := cX3_bestGuest) (maxL := 2) (ty := .int) (lv0 := [(0, .ref o), (1, .int (nI k))]) (by decide) rfl (Nat.le_of_ble_eq_true rfl) rfl ?_
  intro p e s m args below meth c Q ls hx hb hml hts hown hP hK hl hret
  have hS : va_S (AM o ps pa pv pn px) s.heap s.heap [] := va_S.rf
  have hne : o ≠ ps := fun h => absurd (hD.1 0 1 _ _ rfl rfl h) (by decide)
  refine lv_aload_n hx hb dX3_bestGuest_0 rfl (lv_at hl 0 rfl) ?_
  refine lv_iload_n hx hb dX3_bestGuest_1 rfl (lv_at hl 1 rfl) ?_
  refine q_ciR (va_runS (rm := { frames := 1, cells := 0, slots := 0, locals := 22 }) (As := [.int (nI k)]) (rest := [.ref o]) ⟨hx, hb, hml, hown, hts⟩ (m3_isPot l D (nI k)) (va_cwS 1 hts gX3_bestGuest_X3_isPot rfl rfl rfl (by decide +kernel) ⟨Nat.le_of_ble_eq_true rfl, Nat.le_of_ble_eq_true rfl⟩) (q_pS (hP.sub [] rfl) (hK.sub [] rfl)) rfl rfl hl.1 rfl (lv_room (Nat.le_of_ble_eq_true rfl)) dX3_bestGuest_2 ⟨Nat.le_of_ble_eq_true rfl, Nat.le_of_ble_eq_true rfl⟩) hP hS (fun x1 H locs e1 hP hS => ?_)
  have e1 : x1 = nI 1 := by
    have h9 : x1 = p_b (q_in (nI 0) (nI 2) (nI k)) := e1
    rw [h9, ((q_inN (Nat.zero_le _) (by omega) (by decide)) : q_in (nI 0) (nI 2) (nI k) = true)]
    rfl
  subst e1
  refine lv_if_eq (tgt := 12) hx hb dX3_bestGuest_5 (by decide) (fun c2 => absurd c2 (by decide)) (fun c2 => ?_)
  refine lv_iconst (v := nI 0) hx hb dX3_bestGuest_8 (by decide) ?_
  refine lv_goto (tgt := 13) hx hb dX3_bestGuest_9 (by decide) ?_
  refine q_ci1 (i := 0) (ws' := wR o ps pa pv pn px cI (oM ps pa pv pn px (nI 0) (nI ns) kp ln sp wr le wh te dg) (rr f) fa fv fn fx) (va_runV (rm := { frames := 0, cells := 0, slots := 0, locals := 0 }) (As := [.int (nI 0)]) (rest := []) ⟨hx, hb, hml, hown, hts⟩ (m3_holds0 l D cI o (oM ps pa pv pn px th (nI ns) kp ln sp wr le wh te dg) (Nat.le_of_ble_eq_true rfl)) (cwV 1 hts gX3_bestGuest_X3_holds rfl rfl rfl (by decide +kernel) ⟨Nat.le_of_ble_eq_true rfl, Nat.le_of_ble_eq_true rfl⟩) (q_pV (ci := 3) (q0 := 0) (hP.sub [0] rfl) (hK.sub [] rfl) rfl rfl) rfl rfl hl.1 rfl (lv_room (Nat.le_of_ble_eq_true rfl)) dX3_bestGuest_13 ⟨Nat.le_of_ble_eq_true rfl, Nat.le_of_ble_eq_true rfl⟩) hP hD hS rfl (Or.inl rfl) rfl (fun x3 H locs e3 hP hD hS => ?_)
  have e3 : x3 = nI 1 := e3
  subst e3
  refine lv_if_eq (tgt := 27) hx hb dX3_bestGuest_16 (by decide) (fun c4 => absurd c4 (by decide)) (fun c4 => ?_)
  refine lv_aload_n hx hb dX3_bestGuest_19 rfl (lv_at hl 0 rfl) ?_
  refine lv_iload_n hx hb dX3_bestGuest_20 rfl (lv_at hl 1 rfl) ?_
  refine q_ciF (BH := fun H => va_P D vwCl (wR o ps pa pv pn px cI (oM ps pa pv pn px (nI 0) (nI ns) kp ln sp wr le wh te dg) (rr f) (rr f) fv fn fx) H) (va_runV (rm := { frames := 5, cells := 0, slots := 0, locals := 110 }) (As := [.int (nI k)]) (rest := []) ⟨hx, hb, hml, hown, hts⟩ (m3_bestFor l D cI o ps pa pv pn px f fa fv fn fx k (by omega) B hI (by omega) (nI 0) (nI ns) kp ln sp wr le wh te dg hD) (cwV 1 hts gX3_bestGuest_X3_bestFor rfl rfl rfl (by decide +kernel) ⟨Nat.le_of_ble_eq_true rfl, Nat.le_of_ble_eq_true rfl⟩) (q_pV (ci := 3) (q0 := 0) hP hK rfl rfl) rfl rfl hl.1 rfl (lv_room (Nat.le_of_ble_eq_true rfl)) dX3_bestGuest_21 ⟨Nat.le_of_ble_eq_true rfl, Nat.le_of_ble_eq_true rfl⟩) (fun _ h => h) hS (fun _ h => h) (fun x5 H locs e5 hP hS => ?_)
  have e5 : x5 = g_bg 8 (-1) (nI 0) f k := e5
  have hD := q_D2 (ws' := wR o ps pa pv pn px cI (oM ps pa pv pn px (nI 0) (nI ns) kp ln sp wr le wh te dg) (rr f) (rr f) fv fn fx) hD rfl
  refine lv_goto (tgt := 28) hx hb dX3_bestGuest_24 (by decide) ?_
  refine hret _ _ _ _ _ rfl ?_ (hP) hS dX3_bestGuest_28
  subst e5
  rfl
set_option maxHeartbeats 4000000 in
set_option maxRecDepth 100000 in
theorem m3_bestGuest_1 (l : Launch) (D : va_G) (cI : ClassId) (o ps pa pv pn px : Nat) (f fa fv fn fx : Nat → Int32) (B : Nat) (hI : Inv B f) (ns : Nat) (hn : ns ≤ 6) (th kp ln sp wr le wh te : Int32) (dg : Int64) (x0 : Int32) (h0q : q_in (nI 0) (nI 2) x0 = false) (hD : va_D (fun _ => True) (wR o ps pa pv pn px cI (oM ps pa pv pn px th (nI ns) kp ln sp wr le wh te dg) (rr f) fa fv fn fx)) : q_I l yX3_bestGuest wsX3_bestGuest { frames := 2, cells := 0, slots := 0, locals := 42 } [.ref o, .int x0] (q_bp D (wR o ps pa pv pn px cI (oM ps pa pv pn px th (nI ns) kp ln sp wr le wh te dg) (rr f) fa fv fn fx) [(cI, .int)]) (fun v => True) (fun H => va_P D vwCl (wR o ps pa pv pn px cI (oM ps pa pv pn px (nI 1) (nI ns) kp ln sp wr le wh te dg) (rr f) fa fv fn fx) H) (AM o ps pa pv pn px) 0 0 := by
  refine q_goI (cc := cX3_bestGuest) (maxL := 2) (ty := .int) (lv0 := [(0, .ref o), (1, .int x0)]) (by decide) rfl (Nat.le_of_ble_eq_true rfl) rfl ?_
  intro p e s m args below meth c Q ls hx hb hml hts hown hP hK hl hret
  have hS : va_S (AM o ps pa pv pn px) s.heap s.heap [] := va_S.rf
  have hne : o ≠ ps := fun h => absurd (hD.1 0 1 _ _ rfl rfl h) (by decide)
  refine lv_aload_n hx hb dX3_bestGuest_0 rfl (lv_at hl 0 rfl) ?_
  refine lv_iload_n hx hb dX3_bestGuest_1 rfl (lv_at hl 1 rfl) ?_
  refine q_ciR (va_runS (rm := { frames := 1, cells := 0, slots := 0, locals := 22 }) (As := [.int x0]) (rest := [.ref o]) ⟨hx, hb, hml, hown, hts⟩ (m3_isPot l D x0) (va_cwS 1 hts gX3_bestGuest_X3_isPot rfl rfl rfl (by decide +kernel) ⟨Nat.le_of_ble_eq_true rfl, Nat.le_of_ble_eq_true rfl⟩) (q_pS (hP.sub [] rfl) (hK.sub [] rfl)) rfl rfl hl.1 rfl (lv_room (Nat.le_of_ble_eq_true rfl)) dX3_bestGuest_2 ⟨Nat.le_of_ble_eq_true rfl, Nat.le_of_ble_eq_true rfl⟩) hP hS (fun x1 H locs e1 hP hS => ?_)
  have e1 : x1 = nI 0 := by
    have h9 : x1 = p_b (q_in (nI 0) (nI 2) x0) := e1
    rw [h9, (h0q : q_in (nI 0) (nI 2) x0 = false)]
    rfl
  subst e1
  refine lv_if_eq (tgt := 12) hx hb dX3_bestGuest_5 (by decide) (fun c2 => ?_) (fun c2 => absurd c2 (by decide))
  refine lv_iconst (v := nI 1) hx hb dX3_bestGuest_12 (by decide) ?_
  refine q_ci1 (i := 0) (ws' := wR o ps pa pv pn px cI (oM ps pa pv pn px (nI 1) (nI ns) kp ln sp wr le wh te dg) (rr f) fa fv fn fx) (va_runV (rm := { frames := 0, cells := 0, slots := 0, locals := 0 }) (As := [.int (nI 1)]) (rest := []) ⟨hx, hb, hml, hown, hts⟩ (m3_holds1 l D cI o (oM ps pa pv pn px th (nI ns) kp ln sp wr le wh te dg) (Nat.le_of_ble_eq_true rfl)) (cwV 1 hts gX3_bestGuest_X3_holds rfl rfl rfl (by decide +kernel) ⟨Nat.le_of_ble_eq_true rfl, Nat.le_of_ble_eq_true rfl⟩) (q_pV (ci := 3) (q0 := 0) (hP.sub [0] rfl) (hK.sub [] rfl) rfl rfl) rfl rfl hl.1 rfl (lv_room (Nat.le_of_ble_eq_true rfl)) dX3_bestGuest_13 ⟨Nat.le_of_ble_eq_true rfl, Nat.le_of_ble_eq_true rfl⟩) hP hD hS rfl (Or.inl rfl) rfl (fun x3 H locs e3 hP hD hS => ?_)
  have e3 : x3 = nI 0 := e3
  subst e3
  refine lv_if_eq (tgt := 27) hx hb dX3_bestGuest_16 (by decide) (fun c4 => ?_) (fun c4 => absurd c4 (by decide))
  refine lv_iconst (v := nI 0) hx hb dX3_bestGuest_27 (by decide) ?_
  refine hret _ _ _ _ _ rfl ?_ (hP) hS dX3_bestGuest_28
  trivial
