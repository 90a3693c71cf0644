theorem sh_ne {B : Nat} {f : Nat → Int32} (h : Inv B f) (hB : 8 * B < 2147483648) (c : 0 < g_sm f 64 8) : ¬ g_sm f 64 8 = 0 := fun z => by
  rw [z] at c
  exact absurd c (by decide)
theorem sh_eq {B : Nat} {f : Nat → Int32} (h : Inv B f) (hB : 8 * B < 2147483648) (c : ¬ 0 < g_sm f 64 8) : g_sm f 64 8 = 0 := by
  have h0 := (h.share hB).1
  rw [t_lt, t_0] at c
  rw [t_eq, t_0]
  omega
set_option maxHeartbeats 4000000 in
set_option maxRecDepth 100000 in
theorem m2_emptyIn_ok (l : Launch) (D : va_G) (z : Ad) (ol sn hs : Nat) (T S Y : Nat → Int32) (G : Nat → Nat → Int32) (len : Nat) (P : PS) (ch : Nat → Nat) (B : Nat) (hI : Inv B T) (k : Nat) (hk : k < 3) (hB : B + 33600 < 2000000000) (hD : va_D (fun _ => True) (wX z ol sn hs T S Y G len P ch)) : q_I l yX2_emptyIn wsX2_emptyIn { frames := 5, cells := 0, slots := 0, locals := 118 } [.ref (z.o), .int (nI k)] (q_bp D (wX z ol sn hs T S Y G len P ch) (tyX z)) (fun v => v = g_ei 21 0 T k) (fun H => ∃ Y2 : Nat → Int32, va_P D vwCl (wX z ol sn hs T S Y2 G len P ch) H) (AX z) 0 0 := by
  refine q_goI (cc := cX2_emptyIn) (maxL := 3) (ty := .int) (lv0 := [(0, .ref (z.o)), (1, .int (nI k))]) (by decide) rfl (Nat.le_of_ble_eq_true rfl) rfl ?_
  intro p e s m args below meth c Q ls hx hb hml hts hown hP hK hl hret
  have hi1 : ∀ w ∈ wsX10, w ∈ wsX2_emptyIn := by decide +kernel
  have hi2 : ∀ w ∈ wsX20, w ∈ wsX2_emptyIn := by decide +kernel
  have hfl19 := hts (.fieldLink RX2 19 "WhisperedPots" "trial" "LWhisperedPots$Table;") (by decide +kernel)
  have hfl12 := hts (.fieldLink RX2 12 "WhisperedPots" "table" "LWhisperedPots$Table;") (by decide +kernel)
  have hfl55 := hts (.fieldLink RX2 55 "WhisperedPots$Table" "row" "[I") (by decide +kernel)
  have hS : va_S (AX z) s.heap s.heap [] := va_S.rf
  refine lv_iload_n hx hb dX2_emptyIn_0 rfl (lv_at hl 1 rfl) ?_
  refine q_cvR (va_runS (rm := { frames := 0, cells := 0, slots := 0, locals := 0 }) (As := [.int (nI k)]) (rest := []) ⟨hx, hb, hml, hown, hts⟩ (m2_requirePot_ok l D k hk) (va_cwS 1 hts gX2_emptyIn_X2_requirePot rfl rfl rfl (by decide +kernel) ⟨Nat.le_of_ble_eq_true rfl, Nat.le_of_ble_eq_true rfl⟩) (q_pS (hP.sub (ws' := []) [] rfl) (hK.sub [] rfl)) rfl rfl hl.1 rfl (lv_room (Nat.le_of_ble_eq_true rfl)) dX2_emptyIn_1 ⟨Nat.le_of_ble_eq_true rfl, Nat.le_of_ble_eq_true rfl⟩) hP hS (fun H locs hP hS => ?_)
  refine lv_aload_n hx hb dX2_emptyIn_4 rfl (lv_at hl 0 rfl) ?_
  refine va_get (D := D) (ci := 2) (v := .ref (z.ad 2)) (C := RX2) (T := TX2) (N := 8) hx hb hts hi2 hown hK hP 0 rfl rfl 2 (by decide) hfl19 (fun _ h9 => h9) rfl dX2_emptyIn_5 ?_
  refine lv_aload_n hx hb dX2_emptyIn_8 rfl (lv_at hl 0 rfl) ?_
  refine va_get (D := D) (ci := 2) (v := .ref (z.ad 0)) (C := RX2) (T := TX2) (N := 8) hx hb hts hi2 hown hK hP 0 rfl rfl 0 (by decide) hfl12 (fun _ h9 => h9) rfl dX2_emptyIn_9 ?_
  refine q_cv2 (i := 12) (j := 10) (ws' := wX z ol sn hs T S T G len P ch) (va_runV (rm := { frames := 1, cells := 0, slots := 0, locals := 60 }) (As := [.ref (z.ad 0)]) (rest := []) ⟨hx, hb, hml, hown, hts⟩ (m1_copyFrom l D z.cI (z.ad 2) (z.rd 2) (z.ad 0) (z.rd 0) Y T (hD.sub [3, 12, 1, 10] rfl rfl)) (cwV 1 hts gX2_emptyIn_X1_copyFrom rfl rfl rfl (by decide +kernel) ⟨Nat.le_of_ble_eq_true rfl, Nat.le_of_ble_eq_true rfl⟩) (q_pV (ci := 1) (q0 := 0) (hP.sub (ws' := wT (z.ad 2) (z.rd 2) z.cI Y ++ wT (z.ad 0) (z.rd 0) z.cI T) [3, 12, 1, 10] rfl) (hK.sub [0] rfl) rfl rfl) rfl rfl hl.1 rfl (lv_room (Nat.le_of_ble_eq_true rfl)) dX2_emptyIn_12 ⟨Nat.le_of_ble_eq_true rfl, Nat.le_of_ble_eq_true rfl⟩) hP hD hS rfl rfl (AX_i 12 rfl) (AX_i 10 rfl) rfl (fun H locs hP hD hS => ?_)
  refine lv_iconst (v := nI 0) hx hb dX2_emptyIn_15 (by decide) ?_
  refine lv_istore_n (lv' := [(2, .int (nI 0)), (0, .ref (z.o)), (1, .int (nI k))]) hx hb dX2_emptyIn_16 rfl hl (by decide) rfl (fun ls hl => ?_)
  have LP : ∀ (n i : Nat) (fa : Nat → Int32) (H : Heap) (locs : List Loc) (ls : Array Slot), i + n = 21 → (hI2 : Inv (B + 1600 * i) fa) → (hE : g_ei n i fa k = g_ei 21 0 T k) → va_P D vwCl (wX z ol sn hs T S fa G len P ch) H → va_D (fun _ => True) (wX z ol sn hs T S fa G len P ch) → va_S (AX z) s.heap H locs → lv_has ls 3 [(2, .int (nI i)), (0, .ref (z.o)), (1, .int (nI k))] → W p l e { frames := 5, cells := 0, slots := 0, locals := 118 } s m args below meth c H locs 0 0 Q (F0 m 17 ls []) := by
    intro n
    induction n with
    | zero =>
      intro i fa H locs ls hi hI2 hE hP hD hS hl
      obtain rfl : 21 = i := by omega
      refine lv_iload_n hx hb dX2_emptyIn_17 rfl (lv_at hl 0 rfl) ?_
      refine lv_bipush (v := nI 20) hx hb dX2_emptyIn_18 (by decide) ?_
      refine q_gtN (tgt := 62) hx hb (by omega) (by omega) dX2_emptyIn_20 (by decide) (fun c1 => ?_) (fun c1 => absurd c1 (by decide))
      refine lv_iconst (v := (-1)) hx hb dX2_emptyIn_62 (by decide) ?_
      refine hret _ _ _ _ _ rfl ?_ (⟨_, hP⟩) hS dX2_emptyIn_63
      exact hE
    | succ n ih =>
      intro i fa H locs ls hi hI2 hE hP hD hS hl
      refine lv_iload_n hx hb dX2_emptyIn_17 rfl (lv_at hl 0 rfl) ?_
      refine lv_bipush (v := nI 20) hx hb dX2_emptyIn_18 (by decide) ?_
      refine q_gtN (tgt := 62) hx hb (by omega) (by omega) dX2_emptyIn_20 (by decide) (fun c2 => absurd c2 (by omega)) (fun c2 => ?_)
      refine lv_aload_n hx hb dX2_emptyIn_23 rfl (lv_at hl 1 rfl) ?_
      refine va_get (D := D) (ci := 2) (v := .ref (z.ad 2)) (C := RX2) (T := TX2) (N := 8) hx hb hts hi2 hown hK hP 0 rfl rfl 2 (by decide) hfl19 (fun _ h9 => h9) rfl dX2_emptyIn_24 ?_
      refine va_get (D := D) (ci := 1) (v := .ref (z.rd 2)) (C := RX1) (T := TX1) (N := 1) hx hb hts hi1 hown hK hP 3 rfl rfl 0 (by decide) hfl55 (fun _ h9 => h9) rfl dX2_emptyIn_27 ?_
      refine lv_bipush (v := nI 75) hx hb dX2_emptyIn_30 (by decide) ?_
      refine lv_iload_n hx hb dX2_emptyIn_32 rfl (lv_at hl 2 rfl) ?_
      refine q_addN hx hb (75 + k) (by omega) dX2_emptyIn_33 ?_
      refine q_ld hx hb hK hP 12 0 rfl rfl (j := (75 + k)) (by omega) (by omega) rfl dX2_emptyIn_34 ?_
      refine lv_if_ne (tgt := 40) hx hb dX2_emptyIn_35 (by decide) (fun c3 => ?_) (fun c3 => ?_)
      ·
        refine lv_aload_n hx hb dX2_emptyIn_40 rfl (lv_at hl 1 rfl) ?_
        refine va_get (D := D) (ci := 2) (v := .ref (z.ad 2)) (C := RX2) (T := TX2) (N := 8) hx hb hts hi2 hown hK hP 0 rfl rfl 2 (by decide) hfl19 (fun _ h9 => h9) rfl dX2_emptyIn_41 ?_
        refine lv_iload_n hx hb dX2_emptyIn_44 rfl (lv_at hl 2 rfl) ?_
        refine q_ci1 (i := 12) (ws' := wX z ol sn hs T S (g_rn 8 fa k) G len P ch) (va_runV (rm := { frames := 4, cells := 0, slots := 0, locals := 93 }) (As := [.int (nI k)]) (rest := []) ⟨hx, hb, hml, hown, hts⟩ (m1_goRound l D z.cI (z.ad 2) (z.rd 2) k fa hk (rn_ok hk 8 hI2 (by omega)) (wX_ne2 hD)) (cwV 1 hts gX2_emptyIn_X1_goRound rfl rfl rfl (by decide +kernel) ⟨Nat.le_of_ble_eq_true rfl, Nat.le_of_ble_eq_true rfl⟩) (q_pV (ci := 1) (q0 := 0) (hP.sub (ws' := wT (z.ad 2) (z.rd 2) z.cI fa) [3, 12] rfl) (hK.sub [0] rfl) rfl rfl) rfl rfl hl.1 rfl (lv_room (Nat.le_of_ble_eq_true rfl)) dX2_emptyIn_45 ⟨Nat.le_of_ble_eq_true rfl, Nat.le_of_ble_eq_true rfl⟩) hP hD hS rfl (AX_i 12 rfl) rfl (fun x4 H locs e4 hP hD hS => ?_)
        obtain ⟨f4, hf4⟩ : ∃ z, z = g_rn 8 fa k := ⟨_, rfl⟩
        rw [← hf4] at hP hD
        have e4 : x4 = nI (g_rc 8 fa k) := e4
        refine lv_pop hx hb dX2_emptyIn_48 rfl ?_
        refine lv_aload_n hx hb dX2_emptyIn_49 rfl (lv_at hl 1 rfl) ?_
        refine va_get (D := D) (ci := 2) (v := .ref (z.ad 2)) (C := RX2) (T := TX2) (N := 8) hx hb hts hi2 hown hK hP 0 rfl rfl 2 (by decide) hfl19 (fun _ h9 => h9) rfl dX2_emptyIn_50 ?_
        refine q_cv1 (i := 12) (ws' := wX z ol sn hs T S (g_all 8 f4) G len P ch) (va_runV (rm := { frames := 2, cells := 0, slots := 0, locals := 56 }) (As := []) (rest := []) ⟨hx, hb, hml, hown, hts⟩ (m1_allDrink l D z.cI (z.ad 2) (z.rd 2) f4 (wX_ne2 hD)) (cwV 0 hts gX2_emptyIn_X1_allDrink rfl rfl rfl (by decide +kernel) ⟨Nat.le_of_ble_eq_true rfl, Nat.le_of_ble_eq_true rfl⟩) (q_pV (ci := 1) (q0 := 0) (hP.sub (ws' := wT (z.ad 2) (z.rd 2) z.cI f4) [3, 12] rfl) (hK.sub [0] rfl) rfl rfl) rfl rfl hl.1 rfl (lv_room (Nat.le_of_ble_eq_true rfl)) dX2_emptyIn_53 ⟨Nat.le_of_ble_eq_true rfl, Nat.le_of_ble_eq_true rfl⟩) hP hD hS rfl (AX_i 12 rfl) rfl (fun H locs hP hD hS => ?_)
        obtain ⟨f5, hf5⟩ : ∃ z, z = g_all 8 f4 := ⟨_, rfl⟩
        rw [← hf5] at hP hD
        refine lv_iinc (v := (nI (i + 1))) (lv' := [(2, .int (nI (i + 1))), (0, .ref (z.o)), (1, .int (nI k))]) hx hb dX2_emptyIn_56 hl (k := 0) rfl (q_inc i 1 (i + 1) (by omega)) (by decide) rfl (fun ls hl => ?_)
        refine lv_goto (tgt := 17) hx hb dX2_emptyIn_59 (by decide) ?_
        have hnx : f5 = g_nx fa k := by rw [hf5, hf4]; rfl
        have hI4 : Inv (B + 1600 * (i + 1)) f5 := by rw [hnx]; exact (nx_inv hI2 (by omega) hk).mono (by omega)
        have hE4 : g_ei n (i + 1) f5 k = g_ei 21 0 T k := by
          rw [← hE]
          show _ = (if fa (75 + k) = 0 then _ else g_ei n (i + 1) (g_nx fa k) k)
          rw [if_neg c3, hnx]
        exact ih (i + 1) f5 _ _ _ (by omega) hI4 hE4 hP hD hS (lv_sub hl [0, 1, 2] rfl)
      ·
        refine lv_iload_n hx hb dX2_emptyIn_38 rfl (lv_at hl 0 rfl) ?_
        refine hret _ _ _ _ _ rfl ?_ (⟨_, hP⟩) hS dX2_emptyIn_39
        rw [← hE]
        show _ = (if fa (75 + k) = 0 then _ else _)
        rw [if_pos c3]
  exact LP 21 0 T _ _ _ (by omega) hI rfl hP hD hS (lv_sub hl [0, 1, 2] rfl)
set_option maxHeartbeats 4000000 in
set_option maxRecDepth 100000 in
theorem m2_bestGuest_ok (l : Launch) (D : va_G) (z : Ad) (ol sn hs : Nat) (T S Y : Nat → Int32) (G : Nat → Nat → Int32) (len : Nat) (P : PS) (ch : Nat → Nat) (B : Nat) (hI : Inv B T) (k : Nat) (hk : k < 3) (hB : B + 33600 < 2000000000) (hD : va_D (fun _ => True) (wX z ol sn hs T S Y G len P ch)) : q_I l yX2_bestGuest wsX2_bestGuest { frames := 4, cells := 0, slots := 0, locals := 91 } [.ref (z.o), .int (nI k)] (q_bp D (wX z ol sn hs T S Y G len P ch) (tyX z)) (fun v => v = g_bg 8 (-1) (nI 0) T k) (fun H => ∃ Y2 : Nat → Int32, va_P D vwCl (wX z ol sn hs T S Y2 G len P ch) H) (AX z) 0 0 := by
  refine q_goI (cc := cX2_bestGuest) (maxL := 6) (ty := .int) (lv0 := [(0, .ref (z.o)), (1, .int (nI k))]) (by decide) rfl (Nat.le_of_ble_eq_true rfl) rfl ?_
  intro p e s m args below meth c Q ls hx hb hml hts hown hP hK hl hret
  have hi1 : ∀ w ∈ wsX10, w ∈ wsX2_bestGuest := by decide +kernel
  have hi2 : ∀ w ∈ wsX20, w ∈ wsX2_bestGuest := by decide +kernel
  have hfl19 := hts (.fieldLink RX2 19 "WhisperedPots" "trial" "LWhisperedPots$Table;") (by decide +kernel)
  have hfl12 := hts (.fieldLink RX2 12 "WhisperedPots" "table" "LWhisperedPots$Table;") (by decide +kernel)
  have hfl55 := hts (.fieldLink RX2 55 "WhisperedPots$Table" "row" "[I") (by decide +kernel)
  have hS : va_S (AX z) s.heap s.heap [] := va_S.rf
  refine lv_iload_n hx hb dX2_bestGuest_0 rfl (lv_at hl 1 rfl) ?_
  refine q_cvR (va_runS (rm := { frames := 0, cells := 0, slots := 0, locals := 0 }) (As := [.int (nI k)]) (rest := []) ⟨hx, hb, hml, hown, hts⟩ (m2_requirePot_ok l D k hk) (va_cwS 1 hts gX2_bestGuest_X2_requirePot rfl rfl rfl (by decide +kernel) ⟨Nat.le_of_ble_eq_true rfl, Nat.le_of_ble_eq_true rfl⟩) (q_pS (hP.sub (ws' := []) [] rfl) (hK.sub [] rfl)) rfl rfl hl.1 rfl (lv_room (Nat.le_of_ble_eq_true rfl)) dX2_bestGuest_1 ⟨Nat.le_of_ble_eq_true rfl, Nat.le_of_ble_eq_true rfl⟩) hP hS (fun H locs hP hS => ?_)
  refine lv_aload_n hx hb dX2_bestGuest_4 rfl (lv_at hl 0 rfl) ?_
  refine va_get (D := D) (ci := 2) (v := .ref (z.ad 2)) (C := RX2) (T := TX2) (N := 8) hx hb hts hi2 hown hK hP 0 rfl rfl 2 (by decide) hfl19 (fun _ h9 => h9) rfl dX2_bestGuest_5 ?_
  refine lv_aload_n hx hb dX2_bestGuest_8 rfl (lv_at hl 0 rfl) ?_
  refine va_get (D := D) (ci := 2) (v := .ref (z.ad 0)) (C := RX2) (T := TX2) (N := 8) hx hb hts hi2 hown hK hP 0 rfl rfl 0 (by decide) hfl12 (fun _ h9 => h9) rfl dX2_bestGuest_9 ?_
  refine q_cv2 (i := 12) (j := 10) (ws' := wX z ol sn hs T S T G len P ch) (va_runV (rm := { frames := 1, cells := 0, slots := 0, locals := 60 }) (As := [.ref (z.ad 0)]) (rest := []) ⟨hx, hb, hml, hown, hts⟩ (m1_copyFrom l D z.cI (z.ad 2) (z.rd 2) (z.ad 0) (z.rd 0) Y T (hD.sub [3, 12, 1, 10] rfl rfl)) (cwV 1 hts gX2_bestGuest_X1_copyFrom rfl rfl rfl (by decide +kernel) ⟨Nat.le_of_ble_eq_true rfl, Nat.le_of_ble_eq_true rfl⟩) (q_pV (ci := 1) (q0 := 0) (hP.sub (ws' := wT (z.ad 2) (z.rd 2) z.cI Y ++ wT (z.ad 0) (z.rd 0) z.cI T) [3, 12, 1, 10] rfl) (hK.sub [0] rfl) rfl rfl) rfl rfl hl.1 rfl (lv_room (Nat.le_of_ble_eq_true rfl)) dX2_bestGuest_12 ⟨Nat.le_of_ble_eq_true rfl, Nat.le_of_ble_eq_true rfl⟩) hP hD hS rfl rfl (AX_i 12 rfl) (AX_i 10 rfl) rfl (fun H locs hP hD hS => ?_)
  refine lv_iconst (v := (-1)) hx hb dX2_bestGuest_15 (by decide) ?_
  refine lv_istore_n (lv' := [(2, .int (-1)), (0, .ref (z.o)), (1, .int (nI k))]) hx hb dX2_bestGuest_16 rfl hl (by decide) rfl (fun ls hl => ?_)
  refine lv_iconst (v := nI 0) hx hb dX2_bestGuest_17 (by decide) ?_
  refine lv_istore_n (lv' := [(3, .int (nI 0)), (2, .int (-1)), (0, .ref (z.o)), (1, .int (nI k))]) hx hb dX2_bestGuest_18 rfl hl (by decide) rfl (fun ls hl => ?_)
  refine lv_iconst (v := nI 0) hx hb dX2_bestGuest_19 (by decide) ?_
  refine lv_istore (lv' := [(4, .int (nI 0)), (3, .int (nI 0)), (2, .int (-1)), (0, .ref (z.o)), (1, .int (nI k))]) hx hb dX2_bestGuest_20 hl (by decide) rfl (fun ls hl => ?_)
  have LP : ∀ (n i : Nat) (fa : Nat → Int32) (bb bm : Int32) (H : Heap) (locs : List Loc) (ls : Array Slot), i + n = 8 → (hI2 : Inv B fa) → (hE : g_bg n bb bm fa k = g_bg 8 (-1) (nI 0) T k) → va_P D vwCl (wX z ol sn hs T S fa G len P ch) H → va_D (fun _ => True) (wX z ol sn hs T S fa G len P ch) → va_S (AX z) s.heap H locs → lv_has ls 6 [(4, .int (nI i)), (3, .int bm), (2, .int bb), (0, .ref (z.o)), (1, .int (nI k))] → W p l e { frames := 4, cells := 0, slots := 0, locals := 91 } s m args below meth c H locs 0 0 Q (F0 m 22 ls []) := by
    intro n
    induction n with
    | zero =>
      intro i fa bb bm H locs ls hi hI2 hE hP hD hS hl
      obtain rfl : 8 = i := by omega
      refine lv_iload hx hb dX2_bestGuest_22 (lv_at hl 0 rfl) ?_
      refine lv_bipush (v := nI 8) hx hb dX2_bestGuest_24 (by decide) ?_
      refine q_geN (tgt := 93) hx hb (by omega) (by omega) dX2_bestGuest_26 (by decide) (fun c1 => ?_) (fun c1 => absurd c1 (by decide))
      refine lv_iload_n hx hb dX2_bestGuest_93 rfl (lv_at hl 2 rfl) ?_
      refine hret _ _ _ _ _ rfl ?_ (⟨_, hP⟩) hS dX2_bestGuest_94
      exact hE
    | succ n ih =>
      intro i fa bb bm H locs ls hi hI2 hE hP hD hS hl
      refine lv_iload hx hb dX2_bestGuest_22 (lv_at hl 0 rfl) ?_
      refine lv_bipush (v := nI 8) hx hb dX2_bestGuest_24 (by decide) ?_
      refine q_geN (tgt := 93) hx hb (by omega) (by omega) dX2_bestGuest_26 (by decide) (fun c2 => absurd c2 (by omega)) (fun c2 => ?_)
      refine lv_aload_n hx hb dX2_bestGuest_29 rfl (lv_at hl 3 rfl) ?_
      refine va_get (D := D) (ci := 2) (v := .ref (z.ad 2)) (C := RX2) (T := TX2) (N := 8) hx hb hts hi2 hown hK hP 0 rfl rfl 2 (by decide) hfl19 (fun _ h9 => h9) rfl dX2_bestGuest_30 ?_
      refine lv_iload_n hx hb dX2_bestGuest_33 rfl (lv_at hl 4 rfl) ?_
      refine q_ciR (va_runV (rm := { frames := 1, cells := 0, slots := 0, locals := 21 }) (As := [.int (nI k)]) (rest := []) ⟨hx, hb, hml, hown, hts⟩ (m1_whyNotPour l D z.cI (z.ad 2) (z.rd 2) k fa hk (hI2.ok1 hk)) (cwV 1 hts gX2_bestGuest_X1_whyNotPour rfl rfl rfl (by decide +kernel) ⟨Nat.le_of_ble_eq_true rfl, Nat.le_of_ble_eq_true rfl⟩) (q_pV (ci := 1) (q0 := 0) (hP.sub (ws' := wT (z.ad 2) (z.rd 2) z.cI fa) [3, 12] rfl) (hK.sub [0] rfl) rfl rfl) rfl rfl hl.1 rfl (lv_room (Nat.le_of_ble_eq_true rfl)) dX2_bestGuest_34 ⟨Nat.le_of_ble_eq_true rfl, Nat.le_of_ble_eq_true rfl⟩) hP hS (fun x3 H locs e3 hP hS => ?_)
      have e3 : x3 = g_wy fa k := e3
      refine lv_if_ne (tgt := 77) hx hb dX2_bestGuest_37 (by decide) (fun c4 => ?_) (fun c4 => ?_)
      ·
        have hbo : g_bo bb bm fa k = false := by
          unfold g_bo
          rw [decide_eq_false (show ¬ g_wy fa k = 0 from fun z => c4 (by rw [e3, z])), Bool.false_and]
        refine lv_aload_n hx hb dX2_bestGuest_77 rfl (lv_at hl 3 rfl) ?_
        refine va_get (D := D) (ci := 2) (v := .ref (z.ad 2)) (C := RX2) (T := TX2) (N := 8) hx hb hts hi2 hown hK hP 0 rfl rfl 2 (by decide) hfl19 (fun _ h9 => h9) rfl dX2_bestGuest_78 ?_
        refine lv_iload_n hx hb dX2_bestGuest_81 rfl (lv_at hl 4 rfl) ?_
        refine lv_iconst (v := nI 1) hx hb dX2_bestGuest_82 (by decide) ?_
        refine q_ci1 (i := 12) (ws' := wX z ol sn hs T S (g_hand fa k 1) G len P ch) (va_runV (rm := { frames := 2, cells := 0, slots := 0, locals := 44 }) (As := [.int (nI k), .int (nI 1)]) (rest := []) ⟨hx, hb, hml, hown, hts⟩ (m1_handOn l D z.cI (z.ad 2) (z.rd 2) k 1 fa hk (hI2.ok1 hk) (hI2.ok2 hk) (by decide) (wX_ne2 hD)) (cwV 2 hts gX2_bestGuest_X1_handOn rfl rfl rfl (by decide +kernel) ⟨Nat.le_of_ble_eq_true rfl, Nat.le_of_ble_eq_true rfl⟩) (q_pV (ci := 1) (q0 := 0) (hP.sub (ws' := wT (z.ad 2) (z.rd 2) z.cI fa) [3, 12] rfl) (hK.sub [0] rfl) rfl rfl) rfl rfl hl.1 rfl (lv_room (Nat.le_of_ble_eq_true rfl)) dX2_bestGuest_83 ⟨Nat.le_of_ble_eq_true rfl, Nat.le_of_ble_eq_true rfl⟩) hP hD hS rfl (AX_i 12 rfl) rfl (fun x5 H locs e5 hP hD hS => ?_)
        obtain ⟨f5, hf5⟩ : ∃ z, z = g_hand fa k 1 := ⟨_, rfl⟩
        rw [← hf5] at hP hD
        have e5 : x5 = nI ((hN fa k + 1) % 8) := e5
        refine lv_pop hx hb dX2_bestGuest_86 rfl ?_
        refine lv_iinc (v := (nI (i + 1))) (lv' := [(4, .int (nI (i + 1))), (3, .int bm), (2, .int bb), (0, .ref (z.o)), (1, .int (nI k))]) hx hb dX2_bestGuest_87 hl (k := 0) rfl (q_inc i 1 (i + 1) (by omega)) (by decide) rfl (fun ls hl => ?_)
        refine lv_goto (tgt := 22) hx hb dX2_bestGuest_90 (by decide) ?_
        have hI4 : Inv B f5 := by rw [hf5]; exact hand_inv hI2 hk
        have hE4 : g_bg n bb bm f5 k = g_bg 8 (-1) (nI 0) T k := by
          rw [← hE]
          show _ = g_bg n (if g_bo bb bm fa k then nI (hN fa k) else bb) (if g_bo bb bm fa k then g_ov fa k else bm) (g_hand fa k 1) k
          rw [hbo, hf5]
          rfl
        exact ih (i + 1) f5 bb bm _ _ _ (by omega) hI4 hE4 hP hD hS (lv_sub hl [0, 1, 2, 3, 4] rfl)
      ·
        refine lv_aload_n hx hb dX2_bestGuest_40 rfl (lv_at hl 3 rfl) ?_
        refine va_get (D := D) (ci := 2) (v := .ref (z.ad 2)) (C := RX2) (T := TX2) (N := 8) hx hb hts hi2 hown hK hP 0 rfl rfl 2 (by decide) hfl19 (fun _ h9 => h9) rfl dX2_bestGuest_41 ?_
        refine lv_iload_n hx hb dX2_bestGuest_44 rfl (lv_at hl 4 rfl) ?_
        refine q_ciR (va_runV (rm := { frames := 3, cells := 0, slots := 0, locals := 69 }) (As := [.int (nI k)]) (rest := []) ⟨hx, hb, hml, hown, hts⟩ (m1_wouldSpillFrom l D z.cI (z.ad 2) (z.rd 2) k fa hk (hI2.ok1 hk)) (cwV 1 hts gX2_bestGuest_X1_wouldSpillFrom rfl rfl rfl (by decide +kernel) ⟨Nat.le_of_ble_eq_true rfl, Nat.le_of_ble_eq_true rfl⟩) (q_pV (ci := 1) (q0 := 0) (hP.sub (ws' := wT (z.ad 2) (z.rd 2) z.cI fa) [3, 12] rfl) (hK.sub [0] rfl) rfl rfl) rfl rfl hl.1 rfl (lv_room (Nat.le_of_ble_eq_true rfl)) dX2_bestGuest_45 ⟨Nat.le_of_ble_eq_true rfl, Nat.le_of_ble_eq_true rfl⟩) hP hS (fun x6 H locs e6 hP hS => ?_)
        have e6 : x6 = g_sp fa k := e6
        refine lv_istore (lv' := [(5, .int x6), (4, .int (nI i)), (3, .int bm), (2, .int bb), (0, .ref (z.o)), (1, .int (nI k))]) hx hb dX2_bestGuest_48 hl (by decide) rfl (fun ls hl => ?_)
        refine lv_iload_n hx hb dX2_bestGuest_50 rfl (lv_at hl 3 rfl) ?_
        refine lv_iconst (v := (-1)) hx hb dX2_bestGuest_51 (by decide) ?_
        refine lv_icmp_eq (tgt := 61) hx hb dX2_bestGuest_52 (by decide) (fun c7 => ?_) (fun c7 => ?_)
        ·
          refine lv_aload_n hx hb dX2_bestGuest_61 rfl (lv_at hl 4 rfl) ?_
          refine va_get (D := D) (ci := 2) (v := .ref (z.ad 2)) (C := RX2) (T := TX2) (N := 8) hx hb hts hi2 hown hK hP 0 rfl rfl 2 (by decide) hfl19 (fun _ h9 => h9) rfl dX2_bestGuest_62 ?_
          refine va_get (D := D) (ci := 1) (v := .ref (z.rd 2)) (C := RX1) (T := TX1) (N := 1) hx hb hts hi1 hown hK hP 3 rfl rfl 0 (by decide) hfl55 (fun _ h9 => h9) rfl dX2_bestGuest_65 ?_
          refine lv_bipush (v := nI 72) hx hb dX2_bestGuest_68 (by decide) ?_
          refine lv_iload_n hx hb dX2_bestGuest_70 rfl (lv_at hl 5 rfl) ?_
          refine q_addN hx hb (72 + k) (by omega) dX2_bestGuest_71 ?_
          refine q_ld hx hb hK hP 12 0 rfl rfl (j := (72 + k)) (v := (nI ((hN fa k)))) (by omega) (by omega) (hI2.ok1 hk).1 dX2_bestGuest_72 ?_
          refine lv_istore_n (lv' := [(2, .int (nI ((hN fa k)))), (5, .int x6), (4, .int (nI i)), (3, .int bm), (0, .ref (z.o)), (1, .int (nI k))]) hx hb dX2_bestGuest_73 rfl hl (by decide) rfl (fun ls hl => ?_)
          refine lv_iload hx hb dX2_bestGuest_74 (lv_at hl 1 rfl) ?_
          refine lv_istore_n (lv' := [(3, .int x6), (2, .int (nI ((hN fa k)))), (5, .int x6), (4, .int (nI i)), (0, .ref (z.o)), (1, .int (nI k))]) hx hb dX2_bestGuest_76 rfl hl (by decide) rfl (fun ls hl => ?_)
          have hbo : g_bo bb bm fa k = true := by
            unfold g_bo
            rw [decide_eq_true (show g_wy fa k = 0 by rw [← e3, c4]), Bool.true_and]
            rw [decide_eq_true c7, Bool.true_or]
          refine lv_aload_n hx hb dX2_bestGuest_77 rfl (lv_at hl 4 rfl) ?_
          refine va_get (D := D) (ci := 2) (v := .ref (z.ad 2)) (C := RX2) (T := TX2) (N := 8) hx hb hts hi2 hown hK hP 0 rfl rfl 2 (by decide) hfl19 (fun _ h9 => h9) rfl dX2_bestGuest_78 ?_
          refine lv_iload_n hx hb dX2_bestGuest_81 rfl (lv_at hl 5 rfl) ?_
          refine lv_iconst (v := nI 1) hx hb dX2_bestGuest_82 (by decide) ?_
          refine q_ci1 (i := 12) (ws' := wX z ol sn hs T S (g_hand fa k 1) G len P ch) (va_runV (rm := { frames := 2, cells := 0, slots := 0, locals := 44 }) (As := [.int (nI k), .int (nI 1)]) (rest := []) ⟨hx, hb, hml, hown, hts⟩ (m1_handOn l D z.cI (z.ad 2) (z.rd 2) k 1 fa hk (hI2.ok1 hk) (hI2.ok2 hk) (by decide) (wX_ne2 hD)) (cwV 2 hts gX2_bestGuest_X1_handOn rfl rfl rfl (by decide +kernel) ⟨Nat.le_of_ble_eq_true rfl, Nat.le_of_ble_eq_true rfl⟩) (q_pV (ci := 1) (q0 := 0) (hP.sub (ws' := wT (z.ad 2) (z.rd 2) z.cI fa) [3, 12] rfl) (hK.sub [0] rfl) rfl rfl) rfl rfl hl.1 rfl (lv_room (Nat.le_of_ble_eq_true rfl)) dX2_bestGuest_83 ⟨Nat.le_of_ble_eq_true rfl, Nat.le_of_ble_eq_true rfl⟩) hP hD hS rfl (AX_i 12 rfl) rfl (fun x8 H locs e8 hP hD hS => ?_)
          obtain ⟨f8, hf8⟩ : ∃ z, z = g_hand fa k 1 := ⟨_, rfl⟩
          rw [← hf8] at hP hD
          have e8 : x8 = nI ((hN fa k + 1) % 8) := e8
          refine lv_pop hx hb dX2_bestGuest_86 rfl ?_
          refine lv_iinc (v := (nI (i + 1))) (lv' := [(4, .int (nI (i + 1))), (3, .int x6), (2, .int (nI ((hN fa k)))), (5, .int x6), (0, .ref (z.o)), (1, .int (nI k))]) hx hb dX2_bestGuest_87 hl (k := 3) rfl (q_inc i 1 (i + 1) (by omega)) (by decide) rfl (fun ls hl => ?_)
          refine lv_goto (tgt := 22) hx hb dX2_bestGuest_90 (by decide) ?_
          have hI4 : Inv B f8 := by rw [hf8]; exact hand_inv hI2 hk
          have hE4 : g_bg n (nI ((hN fa k))) x6 f8 k = g_bg 8 (-1) (nI 0) T k := by
            rw [← hE]
            show _ = g_bg n (if g_bo bb bm fa k then nI (hN fa k) else bb) (if g_bo bb bm fa k then g_ov fa k else bm) (g_hand fa k 1) k
            rw [hbo, hf8, e6, sp_ov]
            rfl
          exact ih (i + 1) f8 (nI ((hN fa k))) x6 _ _ _ (by omega) hI4 hE4 hP hD hS (lv_sub hl [0, 1, 2, 4, 5] rfl)
        ·
          refine lv_iload hx hb dX2_bestGuest_55 (lv_at hl 0 rfl) ?_
          refine lv_iload_n hx hb dX2_bestGuest_57 rfl (lv_at hl 2 rfl) ?_
          refine lv_icmp_ge (tgt := 77) hx hb dX2_bestGuest_58 (by decide) (fun c9 => ?_) (fun c9 => ?_)
          ·
            have hbo : g_bo bb bm fa k = false := by
              unfold g_bo
              rw [decide_eq_true (show g_wy fa k = 0 by rw [← e3, c4]), Bool.true_and]
              rw [decide_eq_false c7, Bool.false_or]
              exact decide_eq_false (fun z => by rw [e6, ← q_nlt, sp_ov] at c9; exact c9 z)
            refine lv_aload_n hx hb dX2_bestGuest_77 rfl (lv_at hl 4 rfl) ?_
            refine va_get (D := D) (ci := 2) (v := .ref (z.ad 2)) (C := RX2) (T := TX2) (N := 8) hx hb hts hi2 hown hK hP 0 rfl rfl 2 (by decide) hfl19 (fun _ h9 => h9) rfl dX2_bestGuest_78 ?_
            refine lv_iload_n hx hb dX2_bestGuest_81 rfl (lv_at hl 5 rfl) ?_
            refine lv_iconst (v := nI 1) hx hb dX2_bestGuest_82 (by decide) ?_
            refine q_ci1 (i := 12) (ws' := wX z ol sn hs T S (g_hand fa k 1) G len P ch) (va_runV (rm := { frames := 2, cells := 0, slots := 0, locals := 44 }) (As := [.int (nI k), .int (nI 1)]) (rest := []) ⟨hx, hb, hml, hown, hts⟩ (m1_handOn l D z.cI (z.ad 2) (z.rd 2) k 1 fa hk (hI2.ok1 hk) (hI2.ok2 hk) (by decide) (wX_ne2 hD)) (cwV 2 hts gX2_bestGuest_X1_handOn rfl rfl rfl (by decide +kernel) ⟨Nat.le_of_ble_eq_true rfl, Nat.le_of_ble_eq_true rfl⟩) (q_pV (ci := 1) (q0 := 0) (hP.sub (ws' := wT (z.ad 2) (z.rd 2) z.cI fa) [3, 12] rfl) (hK.sub [0] rfl) rfl rfl) rfl rfl hl.1 rfl (lv_room (Nat.le_of_ble_eq_true rfl)) dX2_bestGuest_83 ⟨Nat.le_of_ble_eq_true rfl, Nat.le_of_ble_eq_true rfl⟩) hP hD hS rfl (AX_i 12 rfl) rfl (fun x10 H locs e10 hP hD hS => ?_)
            obtain ⟨f10, hf10⟩ : ∃ z, z = g_hand fa k 1 := ⟨_, rfl⟩
            rw [← hf10] at hP hD
            have e10 : x10 = nI ((hN fa k + 1) % 8) := e10
            refine lv_pop hx hb dX2_bestGuest_86 rfl ?_
            refine lv_iinc (v := (nI (i + 1))) (lv' := [(4, .int (nI (i + 1))), (5, .int x6), (3, .int bm), (2, .int bb), (0, .ref (z.o)), (1, .int (nI k))]) hx hb dX2_bestGuest_87 hl (k := 1) rfl (q_inc i 1 (i + 1) (by omega)) (by decide) rfl (fun ls hl => ?_)
            refine lv_goto (tgt := 22) hx hb dX2_bestGuest_90 (by decide) ?_
            have hI4 : Inv B f10 := by rw [hf10]; exact hand_inv hI2 hk
            have hE4 : g_bg n bb bm f10 k = g_bg 8 (-1) (nI 0) T k := by
              rw [← hE]
              show _ = g_bg n (if g_bo bb bm fa k then nI (hN fa k) else bb) (if g_bo bb bm fa k then g_ov fa k else bm) (g_hand fa k 1) k
              rw [hbo, hf10]
              rfl
            exact ih (i + 1) f10 bb bm _ _ _ (by omega) hI4 hE4 hP hD hS (lv_sub hl [0, 2, 3, 4, 5] rfl)
          ·
            refine lv_aload_n hx hb dX2_bestGuest_61 rfl (lv_at hl 4 rfl) ?_
            refine va_get (D := D) (ci := 2) (v := .ref (z.ad 2)) (C := RX2) (T := TX2) (N := 8) hx hb hts hi2 hown hK hP 0 rfl rfl 2 (by decide) hfl19 (fun _ h9 => h9) rfl dX2_bestGuest_62 ?_
            refine va_get (D := D) (ci := 1) (v := .ref (z.rd 2)) (C := RX1) (T := TX1) (N := 1) hx hb hts hi1 hown hK hP 3 rfl rfl 0 (by decide) hfl55 (fun _ h9 => h9) rfl dX2_bestGuest_65 ?_
            refine lv_bipush (v := nI 72) hx hb dX2_bestGuest_68 (by decide) ?_
            refine lv_iload_n hx hb dX2_bestGuest_70 rfl (lv_at hl 5 rfl) ?_
            refine q_addN hx hb (72 + k) (by omega) dX2_bestGuest_71 ?_
            refine q_ld hx hb hK hP 12 0 rfl rfl (j := (72 + k)) (v := (nI ((hN fa k)))) (by omega) (by omega) (hI2.ok1 hk).1 dX2_bestGuest_72 ?_
            refine lv_istore_n (lv' := [(2, .int (nI ((hN fa k)))), (5, .int x6), (4, .int (nI i)), (3, .int bm), (0, .ref (z.o)), (1, .int (nI k))]) hx hb dX2_bestGuest_73 rfl hl (by decide) rfl (fun ls hl => ?_)
            refine lv_iload hx hb dX2_bestGuest_74 (lv_at hl 1 rfl) ?_
            refine lv_istore_n (lv' := [(3, .int x6), (2, .int (nI ((hN fa k)))), (5, .int x6), (4, .int (nI i)), (0, .ref (z.o)), (1, .int (nI k))]) hx hb dX2_bestGuest_76 rfl hl (by decide) rfl (fun ls hl => ?_)
            have hbo : g_bo bb bm fa k = true := by
              unfold g_bo
              rw [decide_eq_true (show g_wy fa k = 0 by rw [← e3, c4]), Bool.true_and]
              rw [decide_eq_false c7, Bool.false_or]
              exact decide_eq_true (by rw [e6, ← q_nlt, Classical.not_not, sp_ov] at c9; exact c9)
            refine lv_aload_n hx hb dX2_bestGuest_77 rfl (lv_at hl 4 rfl) ?_
            refine va_get (D := D) (ci := 2) (v := .ref (z.ad 2)) (C := RX2) (T := TX2) (N := 8) hx hb hts hi2 hown hK hP 0 rfl rfl 2 (by decide) hfl19 (fun _ h9 => h9) rfl dX2_bestGuest_78 ?_
            refine lv_iload_n hx hb dX2_bestGuest_81 rfl (lv_at hl 5 rfl) ?_
            refine lv_iconst (v := nI 1) hx hb dX2_bestGuest_82 (by decide) ?_
            refine q_ci1 (i := 12) (ws' := wX z ol sn hs T S (g_hand fa k 1) G len P ch) (va_runV (rm := { frames := 2, cells := 0, slots := 0, locals := 44 }) (As := [.int (nI k), .int (nI 1)]) (rest := []) ⟨hx, hb, hml, hown, hts⟩ (m1_handOn l D z.cI (z.ad 2) (z.rd 2) k 1 fa hk (hI2.ok1 hk) (hI2.ok2 hk) (by decide) (wX_ne2 hD)) (cwV 2 hts gX2_bestGuest_X1_handOn rfl rfl rfl (by decide +kernel) ⟨Nat.le_of_ble_eq_true rfl, Nat.le_of_ble_eq_true rfl⟩) (q_pV (ci := 1) (q0 := 0) (hP.sub (ws' := wT (z.ad 2) (z.rd 2) z.cI fa) [3, 12] rfl) (hK.sub [0] rfl) rfl rfl) rfl rfl hl.1 rfl (lv_room (Nat.le_of_ble_eq_true rfl)) dX2_bestGuest_83 ⟨Nat.le_of_ble_eq_true rfl, Nat.le_of_ble_eq_true rfl⟩) hP hD hS rfl (AX_i 12 rfl) rfl (fun x11 H locs e11 hP hD hS => ?_)
            obtain ⟨f11, hf11⟩ : ∃ z, z = g_hand fa k 1 := ⟨_, rfl⟩
            rw [← hf11] at hP hD
            have e11 : x11 = nI ((hN fa k + 1) % 8) := e11
            refine lv_pop hx hb dX2_bestGuest_86 rfl ?_
            refine lv_iinc (v := (nI (i + 1))) (lv' := [(4, .int (nI (i + 1))), (3, .int x6), (2, .int (nI ((hN fa k)))), (5, .int x6), (0, .ref (z.o)), (1, .int (nI k))]) hx hb dX2_bestGuest_87 hl (k := 3) rfl (q_inc i 1 (i + 1) (by omega)) (by decide) rfl (fun ls hl => ?_)
            refine lv_goto (tgt := 22) hx hb dX2_bestGuest_90 (by decide) ?_
            have hI4 : Inv B f11 := by rw [hf11]; exact hand_inv hI2 hk
            have hE4 : g_bg n (nI ((hN fa k))) x6 f11 k = g_bg 8 (-1) (nI 0) T k := by
              rw [← hE]
              show _ = g_bg n (if g_bo bb bm fa k then nI (hN fa k) else bb) (if g_bo bb bm fa k then g_ov fa k else bm) (g_hand fa k 1) k
              rw [hbo, hf11, e6, sp_ov]
              rfl
            exact ih (i + 1) f11 (nI ((hN fa k))) x6 _ _ _ (by omega) hI4 hE4 hP hD hS (lv_sub hl [0, 1, 2, 4, 5] rfl)
  exact LP 8 0 T (-1) (nI 0) _ _ _ (by omega) hI rfl hP hD hS (lv_sub hl [0, 1, 2, 3, 4] rfl)
set_option maxHeartbeats 4000000 in
set_option maxRecDepth 100000 in
theorem m2_spiltShare (l : Launch) (D : va_G) (z : Ad) (ol sn hs : Nat) (T S Y : Nat → Int32) (G : Nat → Nat → Int32) (len : Nat) (P : PS) (ch : Nat → Nat) (B : Nat) (hI : Inv B T) (hB : 8 * B < 2147483648) : q_Db l yX2_spiltShare wsX2_spiltShare { frames := 2, cells := 0, slots := 0, locals := 45 } [.ref (z.o)] (q_bp D (wX z ol sn hs T S Y G len P ch) (tyX z)) (fun v => v = g_share T) (fun H => True) (fun _ => False) 0 0 := by
  refine q_goD (cc := cX2_spiltShare) (maxL := 2) (lv0 := [(0, .ref (z.o))]) (by decide) rfl (Nat.le_of_ble_eq_true rfl) rfl ?_
  intro p e s m args below meth c Q ls hx hb hml hts hown hP hK hl hret
  have hi2 : ∀ w ∈ wsX20, w ∈ wsX2_spiltShare := by decide +kernel
  have hfl12 := hts (.fieldLink RX2 12 "WhisperedPots" "table" "LWhisperedPots$Table;") (by decide +kernel)
  have hS : va_S (fun _ => False) s.heap s.heap [] := va_S.rf
  refine lv_aload_n hx hb dX2_spiltShare_0 rfl (lv_at hl 0 rfl) ?_
  refine va_get (D := D) (ci := 2) (v := .ref (z.ad 0)) (C := RX2) (T := TX2) (N := 8) hx hb hts hi2 hown hK hP 0 rfl rfl 0 (by decide) hfl12 (fun _ h9 => h9) rfl dX2_spiltShare_1 ?_
  refine lv_bipush (v := nI 64) hx hb dX2_spiltShare_4 (by decide) ?_
  refine q_ciR (va_runV (rm := { frames := 1, cells := 0, slots := 0, locals := 24 }) (As := [.int (nI 64)]) (rest := []) ⟨hx, hb, hml, hown, hts⟩ (m1_sumOverGuests l D z.cI (z.ad 0) (z.rd 0) 64 T (by decide)) (cwV 1 hts gX2_spiltShare_X1_sumOverGuests rfl rfl rfl (by decide +kernel) ⟨Nat.le_of_ble_eq_true rfl, Nat.le_of_ble_eq_true rfl⟩) (q_pV (ci := 1) (q0 := 0) (hP.sub (ws' := wT (z.ad 0) (z.rd 0) z.cI T) [1, 10] rfl) (hK.sub [0] rfl) rfl rfl) rfl rfl hl.1 rfl (lv_room (Nat.le_of_ble_eq_true rfl)) dX2_spiltShare_6 ⟨Nat.le_of_ble_eq_true rfl, Nat.le_of_ble_eq_true rfl⟩) hP hS (fun x1 H locs e1 hP hS => ?_)
  have e1 : x1 = g_sm T 64 8 := e1
  subst e1
  refine lv_topi (fun x2 e2 => ?_)
  refine lv_istore_n (lv' := [(1, .int x2), (0, .ref (z.o))]) hx hb dX2_spiltShare_9 rfl hl (by decide) rfl (fun ls hl => ?_)
  subst e2
  refine lv_iload_n hx hb dX2_spiltShare_10 rfl (lv_at hl 0 rfl) ?_
  refine lv_if_gt (tgt := 16) hx hb dX2_spiltShare_11 (by decide) (fun c3 => ?_) (fun c3 => ?_)
  ·
    refine lv_aload_n hx hb dX2_spiltShare_16 rfl (lv_at hl 1 rfl) ?_
    refine va_get (D := D) (ci := 2) (v := .ref (z.ad 0)) (C := RX2) (T := TX2) (N := 8) hx hb hts hi2 hown hK hP 0 rfl rfl 0 (by decide) hfl12 (fun _ h9 => h9) rfl dX2_spiltShare_17 ?_
    refine lv_bipush (v := nI 56) hx hb dX2_spiltShare_20 (by decide) ?_
    refine q_ciR (va_runV (rm := { frames := 1, cells := 0, slots := 0, locals := 24 }) (As := [.int (nI 56)]) (rest := []) ⟨hx, hb, hml, hown, hts⟩ (m1_sumOverGuests l D z.cI (z.ad 0) (z.rd 0) 56 T (by decide)) (cwV 1 hts gX2_spiltShare_X1_sumOverGuests rfl rfl rfl (by decide +kernel) ⟨Nat.le_of_ble_eq_true rfl, Nat.le_of_ble_eq_true rfl⟩) (q_pV (ci := 1) (q0 := 0) (hP.sub (ws' := wT (z.ad 0) (z.rd 0) z.cI T) [1, 10] rfl) (hK.sub [0] rfl) rfl rfl) rfl rfl hl.1 rfl (lv_room (Nat.le_of_ble_eq_true rfl)) dX2_spiltShare_22 ⟨Nat.le_of_ble_eq_true rfl, Nat.le_of_ble_eq_true rfl⟩) hP hS (fun x4 H locs e4 hP hS => ?_)
    have e4 : x4 = g_sm T 56 8 := e4
    subst e4
    refine lv_i2d  hx hb dX2_spiltShare_25 ?_
    refine lv_iload_n hx hb dX2_spiltShare_26 rfl (lv_at hl 0 rfl) ?_
    refine lv_i2d  hx hb dX2_spiltShare_27 ?_
    refine lv_ddiv hx hb dX2_spiltShare_28 (hI.share_n hB (sh_ne hI hB c3)) ?_
    refine hret _ _ _ _ _ ?_ trivial hS dX2_spiltShare_29
    unfold g_share
    rw [if_neg (sh_ne hI hB c3)]
  ·
    refine lv_dconst0 hx hb dX2_spiltShare_14 ?_
    refine hret _ _ _ _ _ ?_ trivial hS dX2_spiltShare_15
    unfold g_share
    rw [if_pos (sh_eq hI hB c3)]
set_option maxHeartbeats 4000000 in
set_option maxRecDepth 100000 in
theorem m2_meanTrust (l : Launch) (D : va_G) (z : Ad) (ol sn hs : Nat) (T S Y : Nat → Int32) (G : Nat → Nat → Int32) (len : Nat) (P : PS) (ch : Nat → Nat) (B : Nat) (hI : Inv B T) : q_Fl l yX2_meanTrust wsX2_meanTrust { frames := 2, cells := 0, slots := 0, locals := 45 } [.ref (z.o)] (q_bp D (wX z ol sn hs T S Y G len P ch) (tyX z)) (fun v => v = g_trust T) (fun H => True) (fun _ => False) 0 0 := by
  refine q_goF (cc := cX2_meanTrust) (maxL := 1) (lv0 := [(0, .ref (z.o))]) (by decide) rfl (Nat.le_of_ble_eq_true rfl) rfl ?_
  intro p e s m args below meth c Q ls hx hb hml hts hown hP hK hl hret
  have hi2 : ∀ w ∈ wsX20, w ∈ wsX2_meanTrust := by decide +kernel
  have hfl12 := hts (.fieldLink RX2 12 "WhisperedPots" "table" "LWhisperedPots$Table;") (by decide +kernel)
  have hS : va_S (fun _ => False) s.heap s.heap [] := va_S.rf
  refine lv_aload_n hx hb dX2_meanTrust_0 rfl (lv_at hl 0 rfl) ?_
  refine va_get (D := D) (ci := 2) (v := .ref (z.ad 0)) (C := RX2) (T := TX2) (N := 8) hx hb hts hi2 hown hK hP 0 rfl rfl 0 (by decide) hfl12 (fun _ h9 => h9) rfl dX2_meanTrust_1 ?_
  refine lv_bipush (v := nI 24) hx hb dX2_meanTrust_4 (by decide) ?_
  refine q_ciR (va_runV (rm := { frames := 1, cells := 0, slots := 0, locals := 24 }) (As := [.int (nI 24)]) (rest := []) ⟨hx, hb, hml, hown, hts⟩ (m1_sumOverGuests l D z.cI (z.ad 0) (z.rd 0) 24 T (by decide)) (cwV 1 hts gX2_meanTrust_X1_sumOverGuests rfl rfl rfl (by decide +kernel) ⟨Nat.le_of_ble_eq_true rfl, Nat.le_of_ble_eq_true rfl⟩) (q_pV (ci := 1) (q0 := 0) (hP.sub (ws' := wT (z.ad 0) (z.rd 0) z.cI T) [1, 10] rfl) (hK.sub [0] rfl) rfl rfl) rfl rfl hl.1 rfl (lv_room (Nat.le_of_ble_eq_true rfl)) dX2_meanTrust_6 ⟨Nat.le_of_ble_eq_true rfl, Nat.le_of_ble_eq_true rfl⟩) hP hS (fun x1 H locs e1 hP hS => ?_)
  have e1 : x1 = g_sm T 24 8 := e1
  subst e1
  refine lv_i2f  hx hb dX2_meanTrust_9 ?_
  refine lv_ldcf hx hb hown (hts (.constantFloat RX2 193 (1090519040)) (by decide +kernel)) dX2_meanTrust_10 ?_
  refine lv_fdiv hx hb dX2_meanTrust_12 hI.trust_ok.1 ?_
  refine hret _ _ _ _ _ ?_ trivial hS dX2_meanTrust_13
  rfl

