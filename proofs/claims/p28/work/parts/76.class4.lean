theorem hr_1 {f : Nat → Int32} {k : Nat} {t : Int32} (h : f (75 + k) + t ≤ nI 200) : g_hr f k t ≠ 0 := by
  unfold g_hr
  rw [if_neg (Int32.not_lt.mpr h)]
  decide
theorem hr_0 {f : Nat → Int32} {k : Nat} {t : Int32} (h : ¬ f (75 + k) + t ≤ nI 200) : ¬ g_hr f k t ≠ 0 := by
  unfold g_hr
  rw [if_pos (Int32.not_le.mp h)]
  decide
set_option maxHeartbeats 4000000 in
set_option maxRecDepth 100000 in
theorem m2_like_ok (l : Launch) (D : va_G) (z : Ad) (ol sn hs : Nat) (hol : ol < 6) (hsn : sn ≤ 6) (T S Y : Nat → Int32) (G : Nat → Nat → Int32) (len : Nat) (P : PS) (ch : Nat → Nat) (B : Nat) (hI : Inv B T) (g : Nat) (hg : g < 8) (xt xr xl : Int32) (h1q : q_in (nI 1) (nI 20) xt = true) (h2q : q_in (nI 0) (nI 10) xr = true) (h3q : q_in (-20) (nI 20) xl = true) (hD : va_D (fun _ => True) (wX z ol sn hs T S Y G len P ch)) : q_I l yX2_like wsX2_like { frames := 3, cells := 0, slots := 0, locals := 101 } [.ref (z.o), .int (nI g), .int xt, .int xr, .int xl] (q_bp D (wX z ol sn hs T S Y G len P ch) (tyX z)) (fun v => v = T (16 + g)) (fun H => va_P D vwCl (wX z ((so ol sn)) ((svn sn)) hs (g_like T g xt xr xl) S Y (updG G (sr ol sn) T) len P ch) H) (AX z) 0 0 := by
  refine q_goI (cc := cX2_like) (maxL := 6) (ty := .int) (lv0 := [(0, .ref (z.o)), (1, .int (nI g)), (2, .int xt), (3, .int xr), (4, .int xl)]) (by decide) rfl (Nat.le_of_ble_eq_true rfl) rfl ?_
  intro p e s m args below meth c Q ls hx hb hml hts hown hP hK hl hret
  have hi1 : ∀ w ∈ wsX10, w ∈ wsX2_like := by decide +kernel
  have hi2 : ∀ w ∈ wsX20, w ∈ wsX2_like := by decide +kernel
  have hfl12 := hts (.fieldLink RX2 12 "WhisperedPots" "table" "LWhisperedPots$Table;") (by decide +kernel)
  have hfl55 := hts (.fieldLink RX2 55 "WhisperedPots$Table" "row" "[I") (by decide +kernel)
  have hS : va_S (AX z) s.heap s.heap [] := va_S.rf
  refine lv_iload_n hx hb dX2_like_0 rfl (lv_at hl 1 rfl) ?_
  refine q_cvR (va_runS (rm := { frames := 0, cells := 0, slots := 0, locals := 0 }) (As := [.int (nI g)]) (rest := []) ⟨hx, hb, hml, hown, hts⟩ (m2_requireGuest_ok l D g hg) (va_cwS 1 hts gX2_like_X2_requireGuest rfl rfl rfl (by decide +kernel) ⟨Nat.le_of_ble_eq_true rfl, Nat.le_of_ble_eq_true rfl⟩) (q_pS (hP.sub (ws' := []) [] rfl) (hK.sub [] rfl)) rfl rfl hl.1 rfl (lv_room (Nat.le_of_ble_eq_true rfl)) dX2_like_1 ⟨Nat.le_of_ble_eq_true rfl, Nat.le_of_ble_eq_true rfl⟩) hP hS (fun H locs hP hS => ?_)
  refine lv_iload_n hx hb dX2_like_4 rfl (lv_at hl 2 rfl) ?_
  refine lv_iconst (v := nI 1) hx hb dX2_like_5 (by decide) ?_
  refine lv_bipush (v := nI 20) hx hb dX2_like_6 (by decide) ?_
  refine q_cvR (va_runS (rm := { frames := 0, cells := 0, slots := 0, locals := 0 }) (As := [.int xt, .int (nI 1), .int (nI 20)]) (rest := []) ⟨hx, hb, hml, hown, hts⟩ (m2_requireWithin_ok l D xt (nI 1) (nI 20) h1q) (va_cwS 3 hts gX2_like_X2_requireWithin rfl rfl rfl (by decide +kernel) ⟨Nat.le_of_ble_eq_true rfl, Nat.le_of_ble_eq_true rfl⟩) (q_pS (hP.sub (ws' := []) [] rfl) (hK.sub [] rfl)) rfl rfl hl.1 rfl (lv_room (Nat.le_of_ble_eq_true rfl)) dX2_like_8 ⟨Nat.le_of_ble_eq_true rfl, Nat.le_of_ble_eq_true rfl⟩) hP hS (fun H locs hP hS => ?_)
  refine lv_iload_n hx hb dX2_like_11 rfl (lv_at hl 3 rfl) ?_
  refine lv_iconst (v := nI 0) hx hb dX2_like_12 (by decide) ?_
  refine lv_bipush (v := nI 10) hx hb dX2_like_13 (by decide) ?_
  refine q_cvR (va_runS (rm := { frames := 0, cells := 0, slots := 0, locals := 0 }) (As := [.int xr, .int (nI 0), .int (nI 10)]) (rest := []) ⟨hx, hb, hml, hown, hts⟩ (m2_requireWithin_ok l D xr (nI 0) (nI 10) h2q) (va_cwS 3 hts gX2_like_X2_requireWithin rfl rfl rfl (by decide +kernel) ⟨Nat.le_of_ble_eq_true rfl, Nat.le_of_ble_eq_true rfl⟩) (q_pS (hP.sub (ws' := []) [] rfl) (hK.sub [] rfl)) rfl rfl hl.1 rfl (lv_room (Nat.le_of_ble_eq_true rfl)) dX2_like_15 ⟨Nat.le_of_ble_eq_true rfl, Nat.le_of_ble_eq_true rfl⟩) hP hS (fun H locs hP hS => ?_)
  refine lv_iload hx hb dX2_like_18 (lv_at hl 4 rfl) ?_
  refine lv_bipush (v := (-20)) hx hb dX2_like_20 (by decide) ?_
  refine lv_bipush (v := nI 20) hx hb dX2_like_22 (by decide) ?_
  refine q_cvR (va_runS (rm := { frames := 0, cells := 0, slots := 0, locals := 0 }) (As := [.int xl, .int (-20), .int (nI 20)]) (rest := []) ⟨hx, hb, hml, hown, hts⟩ (m2_requireWithin_ok l D xl (-20) (nI 20) h3q) (va_cwS 3 hts gX2_like_X2_requireWithin rfl rfl rfl (by decide +kernel) ⟨Nat.le_of_ble_eq_true rfl, Nat.le_of_ble_eq_true rfl⟩) (q_pS (hP.sub (ws' := []) [] rfl) (hK.sub [] rfl)) rfl rfl hl.1 rfl (lv_room (Nat.le_of_ble_eq_true rfl)) dX2_like_24 ⟨Nat.le_of_ble_eq_true rfl, Nat.le_of_ble_eq_true rfl⟩) hP hS (fun H locs hP hS => ?_)
  refine lv_aload_n hx hb dX2_like_27 rfl (lv_at hl 0 rfl) ?_
  refine q_cvF (BH := fun H => va_P D vwCl (wX z ((so ol sn)) ((svn sn)) hs T S Y (updG G (sr ol sn) T) len P ch) H) (va_runV (rm := { frames := 2, cells := 0, slots := 0, locals := 81 }) (As := []) (rest := []) ⟨hx, hb, hml, hown, hts⟩ (m2_save l D z ol sn hs hol hsn T S Y G len P ch hD) (cwV 0 hts gX2_like_X2_saveState rfl rfl rfl (by decide +kernel) ⟨Nat.le_of_ble_eq_true rfl, Nat.le_of_ble_eq_true rfl⟩) (q_pV (ci := 2) (q0 := 0) hP hK rfl rfl) rfl rfl hl.1 rfl (lv_room (Nat.le_of_ble_eq_true rfl)) dX2_like_28 ⟨Nat.le_of_ble_eq_true rfl, Nat.le_of_ble_eq_true rfl⟩) (fun _ h => h) hS (fun _ h => h) (fun H locs hP hS => ?_)
  have hD := q_D2 (ws' := wX z ((so ol sn)) ((svn sn)) hs T S Y (updG G (sr ol sn) T) len P ch) hD rfl
  refine lv_aload_n hx hb dX2_like_31 rfl (lv_at hl 0 rfl) ?_
  refine va_get (D := D) (ci := 2) (v := .ref (z.ad 0)) (C := RX2) (T := TX2) (N := 8) hx hb hts hi2 hown hK hP 0 rfl rfl 0 (by decide) hfl12 (fun _ h9 => h9) rfl dX2_like_32 ?_
  refine va_get (D := D) (ci := 1) (v := .ref (z.rd 0)) (C := RX1) (T := TX1) (N := 1) hx hb hts hi1 hown hK hP 1 rfl rfl 0 (by decide) hfl55 (fun _ h9 => h9) rfl dX2_like_35 ?_
  refine lv_bipush (v := nI 16) hx hb dX2_like_38 (by decide) ?_
  refine lv_iload_n hx hb dX2_like_40 rfl (lv_at hl 1 rfl) ?_
  refine q_addN hx hb (16 + g) (by omega) dX2_like_41 ?_
  refine q_ld hx hb hK hP 10 0 rfl rfl (j := (16 + g)) (by omega) (by omega) rfl dX2_like_42 ?_
  refine lv_topi (fun x1 e1 => ?_)
  refine lv_istore (lv' := [(5, .int x1), (0, .ref (z.o)), (1, .int (nI g)), (2, .int xt), (3, .int xr), (4, .int xl)]) hx hb dX2_like_43 hl (by decide) rfl (fun ls hl => ?_)
  refine lv_aload_n hx hb dX2_like_45 rfl (lv_at hl 1 rfl) ?_
  refine va_get (D := D) (ci := 2) (v := .ref (z.ad 0)) (C := RX2) (T := TX2) (N := 8) hx hb hts hi2 hown hK hP 0 rfl rfl 0 (by decide) hfl12 (fun _ h9 => h9) rfl dX2_like_46 ?_
  refine va_get (D := D) (ci := 1) (v := .ref (z.rd 0)) (C := RX1) (T := TX1) (N := 1) hx hb hts hi1 hown hK hP 1 rfl rfl 0 (by decide) hfl55 (fun _ h9 => h9) rfl dX2_like_49 ?_
  refine lv_bipush (v := nI 16) hx hb dX2_like_52 (by decide) ?_
  refine lv_iload_n hx hb dX2_like_54 rfl (lv_at hl 2 rfl) ?_
  refine q_addN hx hb (16 + g) (by omega) dX2_like_55 ?_
  refine lv_iload_n hx hb dX2_like_56 rfl (lv_at hl 3 rfl) ?_
  refine q_st hx hb hK hP hD hS 10 0 rfl rfl (AX_i 10 rfl) (j := (16 + g)) (by omega) (by omega) (fun g => wX z ((so ol sn)) ((svn sn)) hs g S Y (updG G (sr ol sn) T) len P ch) (fun _ => rfl) dX2_like_57 (fun H locs f2 hf2 hP hD hS => ?_)
  refine lv_aload_n hx hb dX2_like_58 rfl (lv_at hl 1 rfl) ?_
  refine va_get (D := D) (ci := 2) (v := .ref (z.ad 0)) (C := RX2) (T := TX2) (N := 8) hx hb hts hi2 hown hK hP 0 rfl rfl 0 (by decide) hfl12 (fun _ h9 => h9) rfl dX2_like_59 ?_
  refine va_get (D := D) (ci := 1) (v := .ref (z.rd 0)) (C := RX1) (T := TX1) (N := 1) hx hb hts hi1 hown hK hP 1 rfl rfl 0 (by decide) hfl55 (fun _ h9 => h9) rfl dX2_like_62 ?_
  refine lv_bipush (v := nI 24) hx hb dX2_like_65 (by decide) ?_
  refine lv_iload_n hx hb dX2_like_67 rfl (lv_at hl 2 rfl) ?_
  refine q_addN hx hb (24 + g) (by omega) dX2_like_68 ?_
  refine lv_iload_n hx hb dX2_like_69 rfl (lv_at hl 4 rfl) ?_
  refine q_st hx hb hK hP hD hS 10 0 rfl rfl (AX_i 10 rfl) (j := (24 + g)) (by omega) (by omega) (fun g => wX z ((so ol sn)) ((svn sn)) hs g S Y (updG G (sr ol sn) T) len P ch) (fun _ => rfl) dX2_like_70 (fun H locs f3 hf3 hP hD hS => ?_)
  refine lv_aload_n hx hb dX2_like_71 rfl (lv_at hl 1 rfl) ?_
  refine va_get (D := D) (ci := 2) (v := .ref (z.ad 0)) (C := RX2) (T := TX2) (N := 8) hx hb hts hi2 hown hK hP 0 rfl rfl 0 (by decide) hfl12 (fun _ h9 => h9) rfl dX2_like_72 ?_
  refine va_get (D := D) (ci := 1) (v := .ref (z.rd 0)) (C := RX1) (T := TX1) (N := 1) hx hb hts hi1 hown hK hP 1 rfl rfl 0 (by decide) hfl55 (fun _ h9 => h9) rfl dX2_like_75 ?_
  refine lv_bipush (v := nI 32) hx hb dX2_like_78 (by decide) ?_
  refine lv_iload_n hx hb dX2_like_80 rfl (lv_at hl 2 rfl) ?_
  refine q_addN hx hb (32 + g) (by omega) dX2_like_81 ?_
  refine lv_iload hx hb dX2_like_82 (lv_at hl 5 rfl) ?_
  refine q_st hx hb hK hP hD hS 10 0 rfl rfl (AX_i 10 rfl) (j := (32 + g)) (by omega) (by omega) (fun g => wX z ((so ol sn)) ((svn sn)) hs g S Y (updG G (sr ol sn) T) len P ch) (fun _ => rfl) dX2_like_84 (fun H locs f4 hf4 hP hD hS => ?_)
  refine lv_iload hx hb dX2_like_85 (lv_at hl 0 rfl) ?_
  subst hf4 hf3 hf2 e1
  refine hret _ _ _ _ _ rfl ?_ hP hS dX2_like_87
  rfl
set_option maxHeartbeats 4000000 in
set_option maxRecDepth 100000 in
theorem m2_like_1 (l : Launch) (hl9 : l.stackTraces = false) (D : va_G) (st : Nat → Nat) (z : Ad) (ol sn hs : Nat) (T S Y : Nat → Int32) (G : Nat → Nat → Int32) (len : Nat) (P : PS) (ch : Nat → Nat) (B : Nat) (hI : Inv B T) (x0 xt xr xl : Int32) (h0q : q_in (nI 0) (nI 7) x0 = false) : q_Xi l yX2_like wsX2_like { frames := 7, cells := 1, slots := 6, locals := 102 } [.ref (z.o), .int x0, .int xt, .int xr, .int xl] st D (wX z ol sn hs T S Y G len P ch) (tyX z) (AX z) xI.cls (wX z ol sn hs T S Y G len P ch) (fun _ => False) := by
  refine q_goX (cc := cX2_like) (maxL := 6) (lv0 := [(0, .ref (z.o)), (1, .int x0), (2, .int xt), (3, .int xr), (4, .int xl)]) (by decide) rfl (Nat.le_of_ble_eq_true rfl) rfl ?_
  intro p e s m args below meth c ls hx hb hml hts hown hP hK hl hT hnt hlk
  have hi1 : ∀ w ∈ wsX10, w ∈ wsX2_like := by decide +kernel
  have hi2 : ∀ w ∈ wsX20, w ∈ wsX2_like := by decide +kernel
  have hfl12 := hts (.fieldLink RX2 12 "WhisperedPots" "table" "LWhisperedPots$Table;") (by decide +kernel)
  have hfl55 := hts (.fieldLink RX2 55 "WhisperedPots$Table" "row" "[I") (by decide +kernel)
  have hS : va_S (fun _ => False) s.heap s.heap [] := va_S.rf
  have hT := hT.narrow (B := fun _ => False) (fun _ h => h.elim)
  refine lv_iload_n hx hb dX2_like_0 rfl (lv_at hl 1 rfl) ?_
  exact q_outv (vx_runS (rm := { frames := 6, cells := 1, slots := 6, locals := 82 }) (As := [.int x0]) (rest := []) ⟨hx, hb, hml, hown, hts⟩ (m2_requireGuest_x l hl9 D (fun _ => False) st x0 h0q) (va_cwS 1 hts gX2_like_X2_requireGuest rfl rfl rfl (by decide +kernel) ⟨Nat.le_of_ble_eq_true rfl, Nat.le_of_ble_eq_true rfl⟩) (q_pSX (hP.sub (ws' := []) [] rfl) (hK.sub [] rfl) hT hS (fun _ h => h.elim)) rfl rfl hl.1 rfl (lv_room (Nat.le_of_ble_eq_true rfl)) dX2_like_1 ⟨Nat.le_of_ble_eq_true rfl, Nat.le_of_ble_eq_true rfl⟩) hS hP hnt hlk (Nat.le_of_ble_eq_true rfl) (Nat.le_of_ble_eq_true rfl)
set_option maxHeartbeats 4000000 in
set_option maxRecDepth 100000 in
theorem m2_like_2a (l : Launch) (hl9 : l.stackTraces = false) (D : va_G) (st : Nat → Nat) (z : Ad) (ol sn hs : Nat) (T S Y : Nat → Int32) (G : Nat → Nat → Int32) (len : Nat) (P : PS) (ch : Nat → Nat) (B : Nat) (hI : Inv B T) (g : Nat) (hg : g < 8) (xt xr xl : Int32) (h1q : q_in (nI 1) (nI 20) xt = false) : q_Xi l yX2_like wsX2_like { frames := 7, cells := 1, slots := 6, locals := 104 } [.ref (z.o), .int (nI g), .int xt, .int xr, .int xl] st D (wX z ol sn hs T S Y G len P ch) (tyX z) (AX z) xA.cls (wX z ol sn hs T S Y G len P ch) (fun _ => False) := by
  refine q_goX (cc := cX2_like) (maxL := 6) (lv0 := [(0, .ref (z.o)), (1, .int (nI g)), (2, .int xt), (3, .int xr), (4, .int xl)]) (by decide) rfl (Nat.le_of_ble_eq_true rfl) rfl ?_
  intro p e s m args below meth c ls hx hb hml hts hown hP hK hl hT hnt hlk
  have hi1 : ∀ w ∈ wsX10, w ∈ wsX2_like := by decide +kernel
  have hi2 : ∀ w ∈ wsX20, w ∈ wsX2_like := by decide +kernel
  have hfl12 := hts (.fieldLink RX2 12 "WhisperedPots" "table" "LWhisperedPots$Table;") (by decide +kernel)
  have hfl55 := hts (.fieldLink RX2 55 "WhisperedPots$Table" "row" "[I") (by decide +kernel)
  have hS : va_S (fun _ => False) s.heap s.heap [] := va_S.rf
  have hT := hT.narrow (B := fun _ => False) (fun _ h => h.elim)
  refine lv_iload_n hx hb dX2_like_0 rfl (lv_at hl 1 rfl) ?_
  refine q_cvR (va_runS (rm := { frames := 0, cells := 0, slots := 0, locals := 0 }) (As := [.int (nI g)]) (rest := []) ⟨hx, hb, hml, hown, hts⟩ (m2_requireGuest_ok l D g hg) (va_cwS 1 hts gX2_like_X2_requireGuest rfl rfl rfl (by decide +kernel) ⟨Nat.le_of_ble_eq_true rfl, Nat.le_of_ble_eq_true rfl⟩) (q_pS (hP.sub (ws' := []) [] rfl) (hK.sub [] rfl)) rfl rfl hl.1 rfl (lv_room (Nat.le_of_ble_eq_true rfl)) dX2_like_1 ⟨Nat.le_of_ble_eq_true rfl, Nat.le_of_ble_eq_true rfl⟩) hP hS (fun H locs hP hS => ?_)
  refine lv_iload_n hx hb dX2_like_4 rfl (lv_at hl 2 rfl) ?_
  refine lv_iconst (v := nI 1) hx hb dX2_like_5 (by decide) ?_
  refine lv_bipush (v := nI 20) hx hb dX2_like_6 (by decide) ?_
  exact q_outv (vx_runS (rm := { frames := 6, cells := 1, slots := 6, locals := 82 }) (As := [.int xt, .int (nI 1), .int (nI 20)]) (rest := []) ⟨hx, hb, hml, hown, hts⟩ (m2_requireWithin_x l hl9 D (fun _ => False) st xt (nI 1) (nI 20) h1q) (va_cwS 3 hts gX2_like_X2_requireWithin rfl rfl rfl (by decide +kernel) ⟨Nat.le_of_ble_eq_true rfl, Nat.le_of_ble_eq_true rfl⟩) (q_pSX (hP.sub (ws' := []) [] rfl) (hK.sub [] rfl) hT hS (fun _ h => h.elim)) rfl rfl hl.1 rfl (lv_room (Nat.le_of_ble_eq_true rfl)) dX2_like_8 ⟨Nat.le_of_ble_eq_true rfl, Nat.le_of_ble_eq_true rfl⟩) hS hP hnt hlk (Nat.le_of_ble_eq_true rfl) (Nat.le_of_ble_eq_true rfl)
set_option maxHeartbeats 4000000 in
set_option maxRecDepth 100000 in
theorem m2_like_2b (l : Launch) (hl9 : l.stackTraces = false) (D : va_G) (st : Nat → Nat) (z : Ad) (ol sn hs : Nat) (T S Y : Nat → Int32) (G : Nat → Nat → Int32) (len : Nat) (P : PS) (ch : Nat → Nat) (B : Nat) (hI : Inv B T) (g : Nat) (hg : g < 8) (xt xr xl : Int32) (h1q : q_in (nI 1) (nI 20) xt = true) (h2q : q_in (nI 0) (nI 10) xr = false) : q_Xi l yX2_like wsX2_like { frames := 7, cells := 1, slots := 6, locals := 104 } [.ref (z.o), .int (nI g), .int xt, .int xr, .int xl] st D (wX z ol sn hs T S Y G len P ch) (tyX z) (AX z) xA.cls (wX z ol sn hs T S Y G len P ch) (fun _ => False) := by
  refine q_goX (cc := cX2_like) (maxL := 6) (lv0 := [(0, .ref (z.o)), (1, .int (nI g)), (2, .int xt), (3, .int xr), (4, .int xl)]) (by decide) rfl (Nat.le_of_ble_eq_true rfl) rfl ?_
  intro p e s m args below meth c ls hx hb hml hts hown hP hK hl hT hnt hlk
  have hi1 : ∀ w ∈ wsX10, w ∈ wsX2_like := by decide +kernel
  have hi2 : ∀ w ∈ wsX20, w ∈ wsX2_like := by decide +kernel
  have hfl12 := hts (.fieldLink RX2 12 "WhisperedPots" "table" "LWhisperedPots$Table;") (by decide +kernel)
  have hfl55 := hts (.fieldLink RX2 55 "WhisperedPots$Table" "row" "[I") (by decide +kernel)
  have hS : va_S (fun _ => False) s.heap s.heap [] := va_S.rf
  have hT := hT.narrow (B := fun _ => False) (fun _ h => h.elim)
  refine lv_iload_n hx hb dX2_like_0 rfl (lv_at hl 1 rfl) ?_
  refine q_cvR (va_runS (rm := { frames := 0, cells := 0, slots := 0, locals := 0 }) (As := [.int (nI g)]) (rest := []) ⟨hx, hb, hml, hown, hts⟩ (m2_requireGuest_ok l D g hg) (va_cwS 1 hts gX2_like_X2_requireGuest rfl rfl rfl (by decide +kernel) ⟨Nat.le_of_ble_eq_true rfl, Nat.le_of_ble_eq_true rfl⟩) (q_pS (hP.sub (ws' := []) [] rfl) (hK.sub [] rfl)) rfl rfl hl.1 rfl (lv_room (Nat.le_of_ble_eq_true rfl)) dX2_like_1 ⟨Nat.le_of_ble_eq_true rfl, Nat.le_of_ble_eq_true rfl⟩) hP hS (fun H locs hP hS => ?_)
  refine lv_iload_n hx hb dX2_like_4 rfl (lv_at hl 2 rfl) ?_
  refine lv_iconst (v := nI 1) hx hb dX2_like_5 (by decide) ?_
  refine lv_bipush (v := nI 20) hx hb dX2_like_6 (by decide) ?_
  refine q_cvR (va_runS (rm := { frames := 0, cells := 0, slots := 0, locals := 0 }) (As := [.int xt, .int (nI 1), .int (nI 20)]) (rest := []) ⟨hx, hb, hml, hown, hts⟩ (m2_requireWithin_ok l D xt (nI 1) (nI 20) h1q) (va_cwS 3 hts gX2_like_X2_requireWithin rfl rfl rfl (by decide +kernel) ⟨Nat.le_of_ble_eq_true rfl, Nat.le_of_ble_eq_true rfl⟩) (q_pS (hP.sub (ws' := []) [] rfl) (hK.sub [] rfl)) rfl rfl hl.1 rfl (lv_room (Nat.le_of_ble_eq_true rfl)) dX2_like_8 ⟨Nat.le_of_ble_eq_true rfl, Nat.le_of_ble_eq_true rfl⟩) hP hS (fun H locs hP hS => ?_)
  refine lv_iload_n hx hb dX2_like_11 rfl (lv_at hl 3 rfl) ?_
  refine lv_iconst (v := nI 0) hx hb dX2_like_12 (by decide) ?_
  refine lv_bipush (v := nI 10) hx hb dX2_like_13 (by decide) ?_
  exact q_outv (vx_runS (rm := { frames := 6, cells := 1, slots := 6, locals := 82 }) (As := [.int xr, .int (nI 0), .int (nI 10)]) (rest := []) ⟨hx, hb, hml, hown, hts⟩ (m2_requireWithin_x l hl9 D (fun _ => False) st xr (nI 0) (nI 10) h2q) (va_cwS 3 hts gX2_like_X2_requireWithin rfl rfl rfl (by decide +kernel) ⟨Nat.le_of_ble_eq_true rfl, Nat.le_of_ble_eq_true rfl⟩) (q_pSX (hP.sub (ws' := []) [] rfl) (hK.sub [] rfl) hT hS (fun _ h => h.elim)) rfl rfl hl.1 rfl (lv_room (Nat.le_of_ble_eq_true rfl)) dX2_like_15 ⟨Nat.le_of_ble_eq_true rfl, Nat.le_of_ble_eq_true rfl⟩) hS hP hnt hlk (Nat.le_of_ble_eq_true rfl) (Nat.le_of_ble_eq_true rfl)
set_option maxHeartbeats 4000000 in
set_option maxRecDepth 100000 in
theorem m2_like_2c (l : Launch) (hl9 : l.stackTraces = false) (D : va_G) (st : Nat → Nat) (z : Ad) (ol sn hs : Nat) (T S Y : Nat → Int32) (G : Nat → Nat → Int32) (len : Nat) (P : PS) (ch : Nat → Nat) (B : Nat) (hI : Inv B T) (g : Nat) (hg : g < 8) (xt xr xl : Int32) (h1q : q_in (nI 1) (nI 20) xt = true) (h2q : q_in (nI 0) (nI 10) xr = true) (h3q : q_in (-20) (nI 20) xl = false) : q_Xi l yX2_like wsX2_like { frames := 7, cells := 1, slots := 6, locals := 104 } [.ref (z.o), .int (nI g), .int xt, .int xr, .int xl] st D (wX z ol sn hs T S Y G len P ch) (tyX z) (AX z) xA.cls (wX z ol sn hs T S Y G len P ch) (fun _ => False) := by
  refine q_goX (cc := cX2_like) (maxL := 6) (lv0 := [(0, .ref (z.o)), (1, .int (nI g)), (2, .int xt), (3, .int xr), (4, .int xl)]) (by decide) rfl (Nat.le_of_ble_eq_true rfl) rfl ?_
  intro p e s m args below meth c ls hx hb hml hts hown hP hK hl hT hnt hlk
  have hi1 : ∀ w ∈ wsX10, w ∈ wsX2_like := by decide +kernel
  have hi2 : ∀ w ∈ wsX20, w ∈ wsX2_like := by decide +kernel
  have hfl12 := hts (.fieldLink RX2 12 "WhisperedPots" "table" "LWhisperedPots$Table;") (by decide +kernel)
  have hfl55 := hts (.fieldLink RX2 55 "WhisperedPots$Table" "row" "[I") (by decide +kernel)
  have hS : va_S (fun _ => False) s.heap s.heap [] := va_S.rf
  have hT := hT.narrow (B := fun _ => False) (fun _ h => h.elim)
  refine lv_iload_n hx hb dX2_like_0 rfl (lv_at hl 1 rfl) ?_
  refine q_cvR (va_runS (rm := { frames := 0, cells := 0, slots := 0, locals := 0 }) (As := [.int (nI g)]) (rest := []) ⟨hx, hb, hml, hown, hts⟩ (m2_requireGuest_ok l D g hg) (va_cwS 1 hts gX2_like_X2_requireGuest rfl rfl rfl (by decide +kernel) ⟨Nat.le_of_ble_eq_true rfl, Nat.le_of_ble_eq_true rfl⟩) (q_pS (hP.sub (ws' := []) [] rfl) (hK.sub [] rfl)) rfl rfl hl.1 rfl (lv_room (Nat.le_of_ble_eq_true rfl)) dX2_like_1 ⟨Nat.le_of_ble_eq_true rfl, Nat.le_of_ble_eq_true rfl⟩) hP hS (fun H locs hP hS => ?_)
  refine lv_iload_n hx hb dX2_like_4 rfl (lv_at hl 2 rfl) ?_
  refine lv_iconst (v := nI 1) hx hb dX2_like_5 (by decide) ?_
  refine lv_bipush (v := nI 20) hx hb dX2_like_6 (by decide) ?_
  refine q_cvR (va_runS (rm := { frames := 0, cells := 0, slots := 0, locals := 0 }) (As := [.int xt, .int (nI 1), .int (nI 20)]) (rest := []) ⟨hx, hb, hml, hown, hts⟩ (m2_requireWithin_ok l D xt (nI 1) (nI 20) h1q) (va_cwS 3 hts gX2_like_X2_requireWithin rfl rfl rfl (by decide +kernel) ⟨Nat.le_of_ble_eq_true rfl, Nat.le_of_ble_eq_true rfl⟩) (q_pS (hP.sub (ws' := []) [] rfl) (hK.sub [] rfl)) rfl rfl hl.1 rfl (lv_room (Nat.le_of_ble_eq_true rfl)) dX2_like_8 ⟨Nat.le_of_ble_eq_true rfl, Nat.le_of_ble_eq_true rfl⟩) hP hS (fun H locs hP hS => ?_)
  refine lv_iload_n hx hb dX2_like_11 rfl (lv_at hl 3 rfl) ?_
  refine lv_iconst (v := nI 0) hx hb dX2_like_12 (by decide) ?_
  refine lv_bipush (v := nI 10) hx hb dX2_like_13 (by decide) ?_
  refine q_cvR (va_runS (rm := { frames := 0, cells := 0, slots := 0, locals := 0 }) (As := [.int xr, .int (nI 0), .int (nI 10)]) (rest := []) ⟨hx, hb, hml, hown, hts⟩ (m2_requireWithin_ok l D xr (nI 0) (nI 10) h2q) (va_cwS 3 hts gX2_like_X2_requireWithin rfl rfl rfl (by decide +kernel) ⟨Nat.le_of_ble_eq_true rfl, Nat.le_of_ble_eq_true rfl⟩) (q_pS (hP.sub (ws' := []) [] rfl) (hK.sub [] rfl)) rfl rfl hl.1 rfl (lv_room (Nat.le_of_ble_eq_true rfl)) dX2_like_15 ⟨Nat.le_of_ble_eq_true rfl, Nat.le_of_ble_eq_true rfl⟩) hP hS (fun H locs hP hS => ?_)
  refine lv_iload hx hb dX2_like_18 (lv_at hl 4 rfl) ?_
  refine lv_bipush (v := (-20)) hx hb dX2_like_20 (by decide) ?_
  refine lv_bipush (v := nI 20) hx hb dX2_like_22 (by decide) ?_
  exact q_outv (vx_runS (rm := { frames := 6, cells := 1, slots := 6, locals := 82 }) (As := [.int xl, .int (-20), .int (nI 20)]) (rest := []) ⟨hx, hb, hml, hown, hts⟩ (m2_requireWithin_x l hl9 D (fun _ => False) st xl (-20) (nI 20) h3q) (va_cwS 3 hts gX2_like_X2_requireWithin rfl rfl rfl (by decide +kernel) ⟨Nat.le_of_ble_eq_true rfl, Nat.le_of_ble_eq_true rfl⟩) (q_pSX (hP.sub (ws' := []) [] rfl) (hK.sub [] rfl) hT hS (fun _ h => h.elim)) rfl rfl hl.1 rfl (lv_room (Nat.le_of_ble_eq_true rfl)) dX2_like_24 ⟨Nat.le_of_ble_eq_true rfl, Nat.le_of_ble_eq_true rfl⟩) hS hP hnt hlk (Nat.le_of_ble_eq_true rfl) (Nat.le_of_ble_eq_true rfl)
set_option maxHeartbeats 4000000 in
set_option maxRecDepth 100000 in
theorem m2_cup_ok (l : Launch) (D : va_G) (z : Ad) (ol sn hs : Nat) (hol : ol < 6) (hsn : sn ≤ 6) (T S Y : Nat → Int32) (G : Nat → Nat → Int32) (len : Nat) (P : PS) (ch : Nat → Nat) (B : Nat) (hI : Inv B T) (g : Nat) (hg : g < 8) (xc : Int32) (h1q : q_in (nI 10) (nI 40) xc = true) (ht : T (8 + g) ≤ xc) (hD : va_D (fun _ => True) (wX z ol sn hs T S Y G len P ch)) : q_I l yX2_cup wsX2_cup { frames := 3, cells := 0, slots := 0, locals := 101 } [.ref (z.o), .int (nI g), .int xc] (q_bp D (wX z ol sn hs T S Y G len P ch) (tyX z)) (fun v => v = T g) (fun H => va_P D vwCl (wX z ((so ol sn)) ((svn sn)) hs (upd T g xc) S Y (updG G (sr ol sn) T) len P ch) H) (AX z) 0 0 := by
  refine q_goI (cc := cX2_cup) (maxL := 4) (ty := .int) (lv0 := [(0, .ref (z.o)), (1, .int (nI g)), (2, .int xc)]) (by decide) rfl (Nat.le_of_ble_eq_true rfl) rfl ?_
  intro p e s m args below meth c Q ls hx hb hml hts hown hP hK hl hret
  have hi1 : ∀ w ∈ wsX10, w ∈ wsX2_cup := by decide +kernel
  have hi2 : ∀ w ∈ wsX20, w ∈ wsX2_cup := by decide +kernel
  have hfl12 := hts (.fieldLink RX2 12 "WhisperedPots" "table" "LWhisperedPots$Table;") (by decide +kernel)
  have hfl55 := hts (.fieldLink RX2 55 "WhisperedPots$Table" "row" "[I") (by decide +kernel)
  have hS : va_S (AX z) s.heap s.heap [] := va_S.rf
  refine lv_iload_n hx hb dX2_cup_0 rfl (lv_at hl 1 rfl) ?_
  refine q_cvR (va_runS (rm := { frames := 0, cells := 0, slots := 0, locals := 0 }) (As := [.int (nI g)]) (rest := []) ⟨hx, hb, hml, hown, hts⟩ (m2_requireGuest_ok l D g hg) (va_cwS 1 hts gX2_cup_X2_requireGuest rfl rfl rfl (by decide +kernel) ⟨Nat.le_of_ble_eq_true rfl, Nat.le_of_ble_eq_true rfl⟩) (q_pS (hP.sub (ws' := []) [] rfl) (hK.sub [] rfl)) rfl rfl hl.1 rfl (lv_room (Nat.le_of_ble_eq_true rfl)) dX2_cup_1 ⟨Nat.le_of_ble_eq_true rfl, Nat.le_of_ble_eq_true rfl⟩) hP hS (fun H locs hP hS => ?_)
  refine lv_iload_n hx hb dX2_cup_4 rfl (lv_at hl 2 rfl) ?_
  refine lv_bipush (v := nI 10) hx hb dX2_cup_5 (by decide) ?_
  refine lv_bipush (v := nI 40) hx hb dX2_cup_7 (by decide) ?_
  refine q_cvR (va_runS (rm := { frames := 0, cells := 0, slots := 0, locals := 0 }) (As := [.int xc, .int (nI 10), .int (nI 40)]) (rest := []) ⟨hx, hb, hml, hown, hts⟩ (m2_requireWithin_ok l D xc (nI 10) (nI 40) h1q) (va_cwS 3 hts gX2_cup_X2_requireWithin rfl rfl rfl (by decide +kernel) ⟨Nat.le_of_ble_eq_true rfl, Nat.le_of_ble_eq_true rfl⟩) (q_pS (hP.sub (ws' := []) [] rfl) (hK.sub [] rfl)) rfl rfl hl.1 rfl (lv_room (Nat.le_of_ble_eq_true rfl)) dX2_cup_9 ⟨Nat.le_of_ble_eq_true rfl, Nat.le_of_ble_eq_true rfl⟩) hP hS (fun H locs hP hS => ?_)
  refine lv_aload_n hx hb dX2_cup_12 rfl (lv_at hl 0 rfl) ?_
  refine va_get (D := D) (ci := 2) (v := .ref (z.ad 0)) (C := RX2) (T := TX2) (N := 8) hx hb hts hi2 hown hK hP 0 rfl rfl 0 (by decide) hfl12 (fun _ h9 => h9) rfl dX2_cup_13 ?_
  refine va_get (D := D) (ci := 1) (v := .ref (z.rd 0)) (C := RX1) (T := TX1) (N := 1) hx hb hts hi1 hown hK hP 1 rfl rfl 0 (by decide) hfl55 (fun _ h9 => h9) rfl dX2_cup_16 ?_
  refine lv_bipush (v := nI 8) hx hb dX2_cup_19 (by decide) ?_
  refine lv_iload_n hx hb dX2_cup_21 rfl (lv_at hl 1 rfl) ?_
  refine q_addN hx hb (8 + g) (by omega) dX2_cup_22 ?_
  refine q_ld hx hb hK hP 10 0 rfl rfl (j := (8 + g)) (by omega) (by omega) rfl dX2_cup_23 ?_
  refine lv_iload_n hx hb dX2_cup_24 rfl (lv_at hl 2 rfl) ?_
  refine lv_icmp_le (tgt := 38) hx hb dX2_cup_25 (by decide) (fun c1 => ?_) (fun c1 => absurd c1 (fun z => z ht))
  refine lv_aload_n hx hb dX2_cup_38 rfl (lv_at hl 0 rfl) ?_
  refine q_cvF (BH := fun H => va_P D vwCl (wX z ((so ol sn)) ((svn sn)) hs T S Y (updG G (sr ol sn) T) len P ch) H) (va_runV (rm := { frames := 2, cells := 0, slots := 0, locals := 81 }) (As := []) (rest := []) ⟨hx, hb, hml, hown, hts⟩ (m2_save l D z ol sn hs hol hsn T S Y G len P ch hD) (cwV 0 hts gX2_cup_X2_saveState rfl rfl rfl (by decide +kernel) ⟨Nat.le_of_ble_eq_true rfl, Nat.le_of_ble_eq_true rfl⟩) (q_pV (ci := 2) (q0 := 0) hP hK rfl rfl) rfl rfl hl.1 rfl (lv_room (Nat.le_of_ble_eq_true rfl)) dX2_cup_39 ⟨Nat.le_of_ble_eq_true rfl, Nat.le_of_ble_eq_true rfl⟩) (fun _ h => h) hS (fun _ h => h) (fun H locs hP hS => ?_)
  have hD := q_D2 (ws' := wX z ((so ol sn)) ((svn sn)) hs T S Y (updG G (sr ol sn) T) len P ch) hD rfl
  refine lv_aload_n hx hb dX2_cup_42 rfl (lv_at hl 0 rfl) ?_
  refine va_get (D := D) (ci := 2) (v := .ref (z.ad 0)) (C := RX2) (T := TX2) (N := 8) hx hb hts hi2 hown hK hP 0 rfl rfl 0 (by decide) hfl12 (fun _ h9 => h9) rfl dX2_cup_43 ?_
  refine va_get (D := D) (ci := 1) (v := .ref (z.rd 0)) (C := RX1) (T := TX1) (N := 1) hx hb hts hi1 hown hK hP 1 rfl rfl 0 (by decide) hfl55 (fun _ h9 => h9) rfl dX2_cup_46 ?_
  refine lv_iconst (v := nI 0) hx hb dX2_cup_49 (by decide) ?_
  refine lv_iload_n hx hb dX2_cup_50 rfl (lv_at hl 1 rfl) ?_
  refine q_addN hx hb g (by omega) dX2_cup_51 ?_
  refine q_ld hx hb hK hP 10 0 rfl rfl (j := g) (by omega) (by omega) rfl dX2_cup_52 ?_
  refine lv_topi (fun x2 e2 => ?_)
  refine lv_istore_n (lv' := [(3, .int x2), (0, .ref (z.o)), (1, .int (nI g)), (2, .int xc)]) hx hb dX2_cup_53 rfl hl (by decide) rfl (fun ls hl => ?_)
  refine lv_aload_n hx hb dX2_cup_54 rfl (lv_at hl 1 rfl) ?_
  refine va_get (D := D) (ci := 2) (v := .ref (z.ad 0)) (C := RX2) (T := TX2) (N := 8) hx hb hts hi2 hown hK hP 0 rfl rfl 0 (by decide) hfl12 (fun _ h9 => h9) rfl dX2_cup_55 ?_
  refine va_get (D := D) (ci := 1) (v := .ref (z.rd 0)) (C := RX1) (T := TX1) (N := 1) hx hb hts hi1 hown hK hP 1 rfl rfl 0 (by decide) hfl55 (fun _ h9 => h9) rfl dX2_cup_58 ?_
  refine lv_iconst (v := nI 0) hx hb dX2_cup_61 (by decide) ?_
  refine lv_iload_n hx hb dX2_cup_62 rfl (lv_at hl 2 rfl) ?_
  refine q_addN hx hb g (by omega) dX2_cup_63 ?_
  refine lv_iload_n hx hb dX2_cup_64 rfl (lv_at hl 3 rfl) ?_
  refine q_st hx hb hK hP hD hS 10 0 rfl rfl (AX_i 10 rfl) (j := g) (by omega) (by omega) (fun g => wX z ((so ol sn)) ((svn sn)) hs g S Y (updG G (sr ol sn) T) len P ch) (fun _ => rfl) dX2_cup_65 (fun H locs f3 hf3 hP hD hS => ?_)
  refine lv_iload_n hx hb dX2_cup_66 rfl (lv_at hl 0 rfl) ?_
  subst hf3 e2
  refine hret _ _ _ _ _ rfl ?_ hP hS dX2_cup_67
  rfl
set_option maxHeartbeats 4000000 in
set_option maxRecDepth 100000 in
theorem m2_cup_1 (l : Launch) (hl9 : l.stackTraces = false) (D : va_G) (st : Nat → Nat) (z : Ad) (ol sn hs : Nat) (T S Y : Nat → Int32) (G : Nat → Nat → Int32) (len : Nat) (P : PS) (ch : Nat → Nat) (B : Nat) (hI : Inv B T) (x0 xc : Int32) (h0q : q_in (nI 0) (nI 7) x0 = false) : q_Xi l yX2_cup wsX2_cup { frames := 7, cells := 1, slots := 6, locals := 102 } [.ref (z.o), .int x0, .int xc] st D (wX z ol sn hs T S Y G len P ch) (tyX z) (AX z) xI.cls (wX z ol sn hs T S Y G len P ch) (fun _ => False) := by
  refine q_goX (cc := cX2_cup) (maxL := 4) (lv0 := [(0, .ref (z.o)), (1, .int x0), (2, .int xc)]) (by decide) rfl (Nat.le_of_ble_eq_true rfl) rfl ?_
  intro p e s m args below meth c ls hx hb hml hts hown hP hK hl hT hnt hlk
  have hi1 : ∀ w ∈ wsX10, w ∈ wsX2_cup := by decide +kernel
  have hi2 : ∀ w ∈ wsX20, w ∈ wsX2_cup := by decide +kernel
  have hfl12 := hts (.fieldLink RX2 12 "WhisperedPots" "table" "LWhisperedPots$Table;") (by decide +kernel)
  have hfl55 := hts (.fieldLink RX2 55 "WhisperedPots$Table" "row" "[I") (by decide +kernel)
  have hS : va_S (fun _ => False) s.heap s.heap [] := va_S.rf
  have hT := hT.narrow (B := fun _ => False) (fun _ h => h.elim)
  refine lv_iload_n hx hb dX2_cup_0 rfl (lv_at hl 1 rfl) ?_
  exact q_outv (vx_runS (rm := { frames := 6, cells := 1, slots := 6, locals := 82 }) (As := [.int x0]) (rest := []) ⟨hx, hb, hml, hown, hts⟩ (m2_requireGuest_x l hl9 D (fun _ => False) st x0 h0q) (va_cwS 1 hts gX2_cup_X2_requireGuest rfl rfl rfl (by decide +kernel) ⟨Nat.le_of_ble_eq_true rfl, Nat.le_of_ble_eq_true rfl⟩) (q_pSX (hP.sub (ws' := []) [] rfl) (hK.sub [] rfl) hT hS (fun _ h => h.elim)) rfl rfl hl.1 rfl (lv_room (Nat.le_of_ble_eq_true rfl)) dX2_cup_1 ⟨Nat.le_of_ble_eq_true rfl, Nat.le_of_ble_eq_true rfl⟩) hS hP hnt hlk (Nat.le_of_ble_eq_true rfl) (Nat.le_of_ble_eq_true rfl)
set_option maxHeartbeats 4000000 in
set_option maxRecDepth 100000 in
theorem m2_cup_2 (l : Launch) (hl9 : l.stackTraces = false) (D : va_G) (st : Nat → Nat) (z : Ad) (ol sn hs : Nat) (T S Y : Nat → Int32) (G : Nat → Nat → Int32) (len : Nat) (P : PS) (ch : Nat → Nat) (B : Nat) (hI : Inv B T) (g : Nat) (hg : g < 8) (xc : Int32) (h1q : q_in (nI 10) (nI 40) xc = false) : q_Xi l yX2_cup wsX2_cup { frames := 7, cells := 1, slots := 6, locals := 104 } [.ref (z.o), .int (nI g), .int xc] st D (wX z ol sn hs T S Y G len P ch) (tyX z) (AX z) xA.cls (wX z ol sn hs T S Y G len P ch) (fun _ => False) := by
  refine q_goX (cc := cX2_cup) (maxL := 4) (lv0 := [(0, .ref (z.o)), (1, .int (nI g)), (2, .int xc)]) (by decide) rfl (Nat.le_of_ble_eq_true rfl) rfl ?_
  intro p e s m args below meth c ls hx hb hml hts hown hP hK hl hT hnt hlk
  have hi1 : ∀ w ∈ wsX10, w ∈ wsX2_cup := by decide +kernel
  have hi2 : ∀ w ∈ wsX20, w ∈ wsX2_cup := by decide +kernel
  have hfl12 := hts (.fieldLink RX2 12 "WhisperedPots" "table" "LWhisperedPots$Table;") (by decide +kernel)
  have hfl55 := hts (.fieldLink RX2 55 "WhisperedPots$Table" "row" "[I") (by decide +kernel)
  have hS : va_S (fun _ => False) s.heap s.heap [] := va_S.rf
  have hT := hT.narrow (B := fun _ => False) (fun _ h => h.elim)
  refine lv_iload_n hx hb dX2_cup_0 rfl (lv_at hl 1 rfl) ?_
  refine q_cvR (va_runS (rm := { frames := 0, cells := 0, slots := 0, locals := 0 }) (As := [.int (nI g)]) (rest := []) ⟨hx, hb, hml, hown, hts⟩ (m2_requireGuest_ok l D g hg) (va_cwS 1 hts gX2_cup_X2_requireGuest rfl rfl rfl (by decide +kernel) ⟨Nat.le_of_ble_eq_true rfl, Nat.le_of_ble_eq_true rfl⟩) (q_pS (hP.sub (ws' := []) [] rfl) (hK.sub [] rfl)) rfl rfl hl.1 rfl (lv_room (Nat.le_of_ble_eq_true rfl)) dX2_cup_1 ⟨Nat.le_of_ble_eq_true rfl, Nat.le_of_ble_eq_true rfl⟩) hP hS (fun H locs hP hS => ?_)
  refine lv_iload_n hx hb dX2_cup_4 rfl (lv_at hl 2 rfl) ?_
  refine lv_bipush (v := nI 10) hx hb dX2_cup_5 (by decide) ?_
  refine lv_bipush (v := nI 40) hx hb dX2_cup_7 (by decide) ?_
  exact q_outv (vx_runS (rm := { frames := 6, cells := 1, slots := 6, locals := 82 }) (As := [.int xc, .int (nI 10), .int (nI 40)]) (rest := []) ⟨hx, hb, hml, hown, hts⟩ (m2_requireWithin_x l hl9 D (fun _ => False) st xc (nI 10) (nI 40) h1q) (va_cwS 3 hts gX2_cup_X2_requireWithin rfl rfl rfl (by decide +kernel) ⟨Nat.le_of_ble_eq_true rfl, Nat.le_of_ble_eq_true rfl⟩) (q_pSX (hP.sub (ws' := []) [] rfl) (hK.sub [] rfl) hT hS (fun _ h => h.elim)) rfl rfl hl.1 rfl (lv_room (Nat.le_of_ble_eq_true rfl)) dX2_cup_9 ⟨Nat.le_of_ble_eq_true rfl, Nat.le_of_ble_eq_true rfl⟩) hS hP hnt hlk (Nat.le_of_ble_eq_true rfl) (Nat.le_of_ble_eq_true rfl)
set_option maxHeartbeats 4000000 in
set_option maxRecDepth 100000 in
theorem m2_cup_3 (l : Launch) (hl9 : l.stackTraces = false) (D : va_G) (st : Nat → Nat) (z : Ad) (ol sn hs : Nat) (T S Y : Nat → Int32) (G : Nat → Nat → Int32) (len : Nat) (P : PS) (ch : Nat → Nat) (B : Nat) (hI : Inv B T) (g : Nat) (hg : g < 8) (xc : Int32) (h1q : q_in (nI 10) (nI 40) xc = true) (ht : ¬ T (8 + g) ≤ xc) : q_Xi l yX2_cup wsX2_cup { frames := 6, cells := 1, slots := 6, locals := 82 } [.ref (z.o), .int (nI g), .int xc] st D (wX z ol sn hs T S Y G len P ch) (tyX z) (AX z) xS.cls (wX z ol sn hs T S Y G len P ch) (fun _ => False) := by
  refine q_goX (cc := cX2_cup) (maxL := 4) (lv0 := [(0, .ref (z.o)), (1, .int (nI g)), (2, .int xc)]) (by decide) rfl (Nat.le_of_ble_eq_true rfl) rfl ?_
  intro p e s m args below meth c ls hx hb hml hts hown hP hK hl hT hnt hlk
  have hi1 : ∀ w ∈ wsX10, w ∈ wsX2_cup := by decide +kernel
  have hi2 : ∀ w ∈ wsX20, w ∈ wsX2_cup := by decide +kernel
  have hfl12 := hts (.fieldLink RX2 12 "WhisperedPots" "table" "LWhisperedPots$Table;") (by decide +kernel)
  have hfl55 := hts (.fieldLink RX2 55 "WhisperedPots$Table" "row" "[I") (by decide +kernel)
  have hS : va_S (fun _ => False) s.heap s.heap [] := va_S.rf
  have hT := hT.narrow (B := fun _ => False) (fun _ h => h.elim)
  refine lv_iload_n hx hb dX2_cup_0 rfl (lv_at hl 1 rfl) ?_
  refine q_cvR (va_runS (rm := { frames := 0, cells := 0, slots := 0, locals := 0 }) (As := [.int (nI g)]) (rest := []) ⟨hx, hb, hml, hown, hts⟩ (m2_requireGuest_ok l D g hg) (va_cwS 1 hts gX2_cup_X2_requireGuest rfl rfl rfl (by decide +kernel) ⟨Nat.le_of_ble_eq_true rfl, Nat.le_of_ble_eq_true rfl⟩) (q_pS (hP.sub (ws' := []) [] rfl) (hK.sub [] rfl)) rfl rfl hl.1 rfl (lv_room (Nat.le_of_ble_eq_true rfl)) dX2_cup_1 ⟨Nat.le_of_ble_eq_true rfl, Nat.le_of_ble_eq_true rfl⟩) hP hS (fun H locs hP hS => ?_)
  refine lv_iload_n hx hb dX2_cup_4 rfl (lv_at hl 2 rfl) ?_
  refine lv_bipush (v := nI 10) hx hb dX2_cup_5 (by decide) ?_
  refine lv_bipush (v := nI 40) hx hb dX2_cup_7 (by decide) ?_
  refine q_cvR (va_runS (rm := { frames := 0, cells := 0, slots := 0, locals := 0 }) (As := [.int xc, .int (nI 10), .int (nI 40)]) (rest := []) ⟨hx, hb, hml, hown, hts⟩ (m2_requireWithin_ok l D xc (nI 10) (nI 40) h1q) (va_cwS 3 hts gX2_cup_X2_requireWithin rfl rfl rfl (by decide +kernel) ⟨Nat.le_of_ble_eq_true rfl, Nat.le_of_ble_eq_true rfl⟩) (q_pS (hP.sub (ws' := []) [] rfl) (hK.sub [] rfl)) rfl rfl hl.1 rfl (lv_room (Nat.le_of_ble_eq_true rfl)) dX2_cup_9 ⟨Nat.le_of_ble_eq_true rfl, Nat.le_of_ble_eq_true rfl⟩) hP hS (fun H locs hP hS => ?_)
  refine lv_aload_n hx hb dX2_cup_12 rfl (lv_at hl 0 rfl) ?_
  refine va_get (D := D) (ci := 2) (v := .ref (z.ad 0)) (C := RX2) (T := TX2) (N := 8) hx hb hts hi2 hown hK hP 0 rfl rfl 0 (by decide) hfl12 (fun _ h9 => h9) rfl dX2_cup_13 ?_
  refine va_get (D := D) (ci := 1) (v := .ref (z.rd 0)) (C := RX1) (T := TX1) (N := 1) hx hb hts hi1 hown hK hP 1 rfl rfl 0 (by decide) hfl55 (fun _ h9 => h9) rfl dX2_cup_16 ?_
  refine lv_bipush (v := nI 8) hx hb dX2_cup_19 (by decide) ?_
  refine lv_iload_n hx hb dX2_cup_21 rfl (lv_at hl 1 rfl) ?_
  refine q_addN hx hb (8 + g) (by omega) dX2_cup_22 ?_
  refine q_ld hx hb hK hP 10 0 rfl rfl (j := (8 + g)) (by omega) (by omega) rfl dX2_cup_23 ?_
  refine lv_iload_n hx hb dX2_cup_24 rfl (lv_at hl 2 rfl) ?_
  refine lv_icmp_le (tgt := 38) hx hb dX2_cup_25 (by decide) (fun c1 => absurd c1 ht) (fun c1 => ?_)
  exact q_thr hx hb hl9 hml hl hts hown xS xS_ok (by decide +kernel) (by decide +kernel) hT hT.c3 (fun _ h => h) (is := 61) (tx := "more tea in the old cup than the new one takes") (by decide) hS hP hnt hlk dX2_cup_28 dX2_cup_31 dX2_cup_32 dX2_cup_34 dX2_cup_37 (Nat.le_of_ble_eq_true rfl) (Nat.le_of_ble_eq_true rfl) (Nat.le_of_ble_eq_true rfl) (Nat.le_of_ble_eq_true rfl) (Nat.le_of_ble_eq_true rfl) (Nat.le_of_ble_eq_true rfl)
set_option maxHeartbeats 4000000 in
set_option maxRecDepth 100000 in
theorem m2_sip_ok (l : Launch) (D : va_G) (z : Ad) (ol sn hs : Nat) (hol : ol < 6) (hsn : sn ≤ 6) (T S Y : Nat → Int32) (G : Nat → Nat → Int32) (len : Nat) (P : PS) (ch : Nat → Nat) (B : Nat) (hI : Inv B T) (g : Nat) (hg : g < 8) (hD : va_D (fun _ => True) (wX z ol sn hs T S Y G len P ch)) : q_I l yX2_sip wsX2_sip { frames := 3, cells := 0, slots := 0, locals := 101 } [.ref (z.o), .int (nI g)] (q_bp D (wX z ol sn hs T S Y G len P ch) (tyX z)) (fun v => v = g_dr T g) (fun H => va_P D vwCl (wX z ((so ol sn)) ((svn sn)) hs (g_drink T g) S Y (updG G (sr ol sn) T) len P ch) H) (AX z) 0 0 := by
  refine q_goI (cc := cX2_sip) (maxL := 2) (ty := .int) (lv0 := [(0, .ref (z.o)), (1, .int (nI g))]) (by decide) rfl (Nat.le_of_ble_eq_true rfl) rfl ?_
  intro p e s m args below meth c Q ls hx hb hml hts hown hP hK hl hret
  have hi2 : ∀ w ∈ wsX20, w ∈ wsX2_sip := by decide +kernel
  have hfl12 := hts (.fieldLink RX2 12 "WhisperedPots" "table" "LWhisperedPots$Table;") (by decide +kernel)
  have hS : va_S (AX z) s.heap s.heap [] := va_S.rf
  refine lv_iload_n hx hb dX2_sip_0 rfl (lv_at hl 1 rfl) ?_
  refine q_cvR (va_runS (rm := { frames := 0, cells := 0, slots := 0, locals := 0 }) (As := [.int (nI g)]) (rest := []) ⟨hx, hb, hml, hown, hts⟩ (m2_requireGuest_ok l D g hg) (va_cwS 1 hts gX2_sip_X2_requireGuest rfl rfl rfl (by decide +kernel) ⟨Nat.le_of_ble_eq_true rfl, Nat.le_of_ble_eq_true rfl⟩) (q_pS (hP.sub (ws' := []) [] rfl) (hK.sub [] rfl)) rfl rfl hl.1 rfl (lv_room (Nat.le_of_ble_eq_true rfl)) dX2_sip_1 ⟨Nat.le_of_ble_eq_true rfl, Nat.le_of_ble_eq_true rfl⟩) hP hS (fun H locs hP hS => ?_)
  refine lv_aload_n hx hb dX2_sip_4 rfl (lv_at hl 0 rfl) ?_
  refine q_cvF (BH := fun H => va_P D vwCl (wX z ((so ol sn)) ((svn sn)) hs T S Y (updG G (sr ol sn) T) len P ch) H) (va_runV (rm := { frames := 2, cells := 0, slots := 0, locals := 81 }) (As := []) (rest := []) ⟨hx, hb, hml, hown, hts⟩ (m2_save l D z ol sn hs hol hsn T S Y G len P ch hD) (cwV 0 hts gX2_sip_X2_saveState rfl rfl rfl (by decide +kernel) ⟨Nat.le_of_ble_eq_true rfl, Nat.le_of_ble_eq_true rfl⟩) (q_pV (ci := 2) (q0 := 0) hP hK rfl rfl) rfl rfl hl.1 rfl (lv_room (Nat.le_of_ble_eq_true rfl)) dX2_sip_5 ⟨Nat.le_of_ble_eq_true rfl, Nat.le_of_ble_eq_true rfl⟩) (fun _ h => h) hS (fun _ h => h) (fun H locs hP hS => ?_)
  have hD := q_D2 (ws' := wX z ((so ol sn)) ((svn sn)) hs T S Y (updG G (sr ol sn) T) len P ch) hD rfl
  refine lv_aload_n hx hb dX2_sip_8 rfl (lv_at hl 0 rfl) ?_
  refine va_get (D := D) (ci := 2) (v := .ref (z.ad 0)) (C := RX2) (T := TX2) (N := 8) hx hb hts hi2 hown hK hP 0 rfl rfl 0 (by decide) hfl12 (fun _ h9 => h9) rfl dX2_sip_9 ?_
  refine lv_iload_n hx hb dX2_sip_12 rfl (lv_at hl 1 rfl) ?_
  refine q_ci1 (i := 10) (ws' := wX z ((so ol sn)) ((svn sn)) hs (g_drink T g) S Y (updG G (sr ol sn) T) len P ch) (va_runV (rm := { frames := 1, cells := 0, slots := 0, locals := 34 }) (As := [.int (nI g)]) (rest := []) ⟨hx, hb, hml, hown, hts⟩ (m1_drinkFrom l D z.cI (z.ad 0) (z.rd 0) g T hg (wX_ne hD)) (cwV 1 hts gX2_sip_X1_drinkFrom rfl rfl rfl (by decide +kernel) ⟨Nat.le_of_ble_eq_true rfl, Nat.le_of_ble_eq_true rfl⟩) (q_pV (ci := 1) (q0 := 0) (hP.sub (ws' := wT (z.ad 0) (z.rd 0) z.cI T) [1, 10] rfl) (hK.sub [0] rfl) rfl rfl) rfl rfl hl.1 rfl (lv_room (Nat.le_of_ble_eq_true rfl)) dX2_sip_13 ⟨Nat.le_of_ble_eq_true rfl, Nat.le_of_ble_eq_true rfl⟩) hP hD hS rfl (AX_i 10 rfl) rfl (fun x1 H locs e1 hP hD hS => ?_)
  obtain ⟨f1, hf1⟩ : ∃ z, z = g_drink T g := ⟨_, rfl⟩
  rw [← hf1] at hP hD
  have e1 : x1 = g_dr T g := e1
  subst e1 hf1
  refine hret _ _ _ _ _ rfl ?_ hP hS dX2_sip_16
  rfl
set_option maxHeartbeats 4000000 in
set_option maxRecDepth 100000 in
theorem m2_sip_1 (l : Launch) (hl9 : l.stackTraces = false) (D : va_G) (st : Nat → Nat) (z : Ad) (ol sn hs : Nat) (T S Y : Nat → Int32) (G : Nat → Nat → Int32) (len : Nat) (P : PS) (ch : Nat → Nat) (B : Nat) (hI : Inv B T) (x0 : Int32) (h0q : q_in (nI 0) (nI 7) x0 = false) : q_Xi l yX2_sip wsX2_sip { frames := 7, cells := 1, slots := 6, locals := 102 } [.ref (z.o), .int x0] st D (wX z ol sn hs T S Y G len P ch) (tyX z) (AX z) xI.cls (wX z ol sn hs T S Y G len P ch) (fun _ => False) := by
  refine q_goX (cc := cX2_sip) (maxL := 2) (lv0 := [(0, .ref (z.o)), (1, .int x0)]) (by decide) rfl (Nat.le_of_ble_eq_true rfl) rfl ?_
  intro p e s m args below meth c ls hx hb hml hts hown hP hK hl hT hnt hlk
  have hi2 : ∀ w ∈ wsX20, w ∈ wsX2_sip := by decide +kernel
  have hfl12 := hts (.fieldLink RX2 12 "WhisperedPots" "table" "LWhisperedPots$Table;") (by decide +kernel)
  have hS : va_S (fun _ => False) s.heap s.heap [] := va_S.rf
  have hT := hT.narrow (B := fun _ => False) (fun _ h => h.elim)
  refine lv_iload_n hx hb dX2_sip_0 rfl (lv_at hl 1 rfl) ?_
  exact q_outv (vx_runS (rm := { frames := 6, cells := 1, slots := 6, locals := 82 }) (As := [.int x0]) (rest := []) ⟨hx, hb, hml, hown, hts⟩ (m2_requireGuest_x l hl9 D (fun _ => False) st x0 h0q) (va_cwS 1 hts gX2_sip_X2_requireGuest rfl rfl rfl (by decide +kernel) ⟨Nat.le_of_ble_eq_true rfl, Nat.le_of_ble_eq_true rfl⟩) (q_pSX (hP.sub (ws' := []) [] rfl) (hK.sub [] rfl) hT hS (fun _ h => h.elim)) rfl rfl hl.1 rfl (lv_room (Nat.le_of_ble_eq_true rfl)) dX2_sip_1 ⟨Nat.le_of_ble_eq_true rfl, Nat.le_of_ble_eq_true rfl⟩) hS hP hnt hlk (Nat.le_of_ble_eq_true rfl) (Nat.le_of_ble_eq_true rfl)
set_option maxHeartbeats 4000000 in
set_option maxRecDepth 100000 in
theorem m2_brew_ok (l : Launch) (D : va_G) (z : Ad) (ol sn hs : Nat) (hol : ol < 6) (hsn : sn ≤ 6) (T S Y : Nat → Int32) (G : Nat → Nat → Int32) (len : Nat) (P : PS) (ch : Nat → Nat) (B : Nat) (hI : Inv B T) (k : Nat) (hk : k < 3) (xt : Int32) (h1q : q_in (nI 1) (nI 200) xt = true) (ht : T (75 + k) + xt ≤ nI 200) (hD : va_D (fun _ => True) (wX z ol sn hs T S Y G len P ch)) : q_I l yX2_brew wsX2_brew { frames := 3, cells := 0, slots := 0, locals := 101 } [.ref (z.o), .int (nI k), .int xt] (q_bp D (wX z ol sn hs T S Y G len P ch) (tyX z)) (fun v => v = g_brew T k xt (75 + k)) (fun H => va_P D vwCl (wX z ((so ol sn)) ((svn sn)) hs (g_brew T k xt) S Y (updG G (sr ol sn) T) len P ch) H) (AX z) 0 0 := by
  refine q_goI (cc := cX2_brew) (maxL := 3) (ty := .int) (lv0 := [(0, .ref (z.o)), (1, .int (nI k)), (2, .int xt)]) (by decide) rfl (Nat.le_of_ble_eq_true rfl) rfl ?_
  intro p e s m args below meth c Q ls hx hb hml hts hown hP hK hl hret
  have hi2 : ∀ w ∈ wsX20, w ∈ wsX2_brew := by decide +kernel
  have hfl12 := hts (.fieldLink RX2 12 "WhisperedPots" "table" "LWhisperedPots$Table;") (by decide +kernel)
  have hS : va_S (AX z) s.heap s.heap [] := va_S.rf
  refine lv_iload_n hx hb dX2_brew_0 rfl (lv_at hl 1 rfl) ?_
  refine q_cvR (va_runS (rm := { frames := 0, cells := 0, slots := 0, locals := 0 }) (As := [.int (nI k)]) (rest := []) ⟨hx, hb, hml, hown, hts⟩ (m2_requirePot_ok l D k hk) (va_cwS 1 hts gX2_brew_X2_requirePot rfl rfl rfl (by decide +kernel) ⟨Nat.le_of_ble_eq_true rfl, Nat.le_of_ble_eq_true rfl⟩) (q_pS (hP.sub (ws' := []) [] rfl) (hK.sub [] rfl)) rfl rfl hl.1 rfl (lv_room (Nat.le_of_ble_eq_true rfl)) dX2_brew_1 ⟨Nat.le_of_ble_eq_true rfl, Nat.le_of_ble_eq_true rfl⟩) hP hS (fun H locs hP hS => ?_)
  refine lv_iload_n hx hb dX2_brew_4 rfl (lv_at hl 2 rfl) ?_
  refine lv_iconst (v := nI 1) hx hb dX2_brew_5 (by decide) ?_
  refine lv_sipush (v := nI 200) hx hb dX2_brew_6 (by decide) ?_
  refine q_cvR (va_runS (rm := { frames := 0, cells := 0, slots := 0, locals := 0 }) (As := [.int xt, .int (nI 1), .int (nI 200)]) (rest := []) ⟨hx, hb, hml, hown, hts⟩ (m2_requireWithin_ok l D xt (nI 1) (nI 200) h1q) (va_cwS 3 hts gX2_brew_X2_requireWithin rfl rfl rfl (by decide +kernel) ⟨Nat.le_of_ble_eq_true rfl, Nat.le_of_ble_eq_true rfl⟩) (q_pS (hP.sub (ws' := []) [] rfl) (hK.sub [] rfl)) rfl rfl hl.1 rfl (lv_room (Nat.le_of_ble_eq_true rfl)) dX2_brew_9 ⟨Nat.le_of_ble_eq_true rfl, Nat.le_of_ble_eq_true rfl⟩) hP hS (fun H locs hP hS => ?_)
  refine lv_aload_n hx hb dX2_brew_12 rfl (lv_at hl 0 rfl) ?_
  refine va_get (D := D) (ci := 2) (v := .ref (z.ad 0)) (C := RX2) (T := TX2) (N := 8) hx hb hts hi2 hown hK hP 0 rfl rfl 0 (by decide) hfl12 (fun _ h9 => h9) rfl dX2_brew_13 ?_
  refine lv_iload_n hx hb dX2_brew_16 rfl (lv_at hl 1 rfl) ?_
  refine lv_iload_n hx hb dX2_brew_17 rfl (lv_at hl 2 rfl) ?_
  refine q_ciR (va_runV (rm := { frames := 0, cells := 0, slots := 0, locals := 0 }) (As := [.int (nI k), .int xt]) (rest := []) ⟨hx, hb, hml, hown, hts⟩ (m1_hasRoomFor l D z.cI (z.ad 0) (z.rd 0) k T xt hk) (cwV 2 hts gX2_brew_X1_hasRoomFor rfl rfl rfl (by decide +kernel) ⟨Nat.le_of_ble_eq_true rfl, Nat.le_of_ble_eq_true rfl⟩) (q_pV (ci := 1) (q0 := 0) (hP.sub (ws' := wT (z.ad 0) (z.rd 0) z.cI T) [1, 10] rfl) (hK.sub [0] rfl) rfl rfl) rfl rfl hl.1 rfl (lv_room (Nat.le_of_ble_eq_true rfl)) dX2_brew_18 ⟨Nat.le_of_ble_eq_true rfl, Nat.le_of_ble_eq_true rfl⟩) hP hS (fun x1 H locs e1 hP hS => ?_)
  have e1 : x1 = g_hr T k xt := e1
  refine lv_if_ne (tgt := 34) hx hb dX2_brew_21 (by decide) (fun c2 => ?_) (fun c2 => absurd c2 (by rw [e1]; exact hr_1 ht))
  refine lv_aload_n hx hb dX2_brew_34 rfl (lv_at hl 0 rfl) ?_
  refine q_cvF (BH := fun H => va_P D vwCl (wX z ((so ol sn)) ((svn sn)) hs T S Y (updG G (sr ol sn) T) len P ch) H) (va_runV (rm := { frames := 2, cells := 0, slots := 0, locals := 81 }) (As := []) (rest := []) ⟨hx, hb, hml, hown, hts⟩ (m2_save l D z ol sn hs hol hsn T S Y G len P ch hD) (cwV 0 hts gX2_brew_X2_saveState rfl rfl rfl (by decide +kernel) ⟨Nat.le_of_ble_eq_true rfl, Nat.le_of_ble_eq_true rfl⟩) (q_pV (ci := 2) (q0 := 0) hP hK rfl rfl) rfl rfl hl.1 rfl (lv_room (Nat.le_of_ble_eq_true rfl)) dX2_brew_35 ⟨Nat.le_of_ble_eq_true rfl, Nat.le_of_ble_eq_true rfl⟩) (fun _ h => h) hS (fun _ h => h) (fun H locs hP hS => ?_)
  have hD := q_D2 (ws' := wX z ((so ol sn)) ((svn sn)) hs T S Y (updG G (sr ol sn) T) len P ch) hD rfl
  refine lv_aload_n hx hb dX2_brew_38 rfl (lv_at hl 0 rfl) ?_
  refine va_get (D := D) (ci := 2) (v := .ref (z.ad 0)) (C := RX2) (T := TX2) (N := 8) hx hb hts hi2 hown hK hP 0 rfl rfl 0 (by decide) hfl12 (fun _ h9 => h9) rfl dX2_brew_39 ?_
  refine lv_iload_n hx hb dX2_brew_42 rfl (lv_at hl 1 rfl) ?_
  refine lv_iload_n hx hb dX2_brew_43 rfl (lv_at hl 2 rfl) ?_
  refine q_ci1 (i := 10) (ws' := wX z ((so ol sn)) ((svn sn)) hs (g_brew T k xt) S Y (updG G (sr ol sn) T) len P ch) (va_runV (rm := { frames := 0, cells := 0, slots := 0, locals := 0 }) (As := [.int (nI k), .int xt]) (rest := []) ⟨hx, hb, hml, hown, hts⟩ (m1_brewInto l D z.cI (z.ad 0) (z.rd 0) k T xt hk (wX_ne hD)) (cwV 2 hts gX2_brew_X1_brewInto rfl rfl rfl (by decide +kernel) ⟨Nat.le_of_ble_eq_true rfl, Nat.le_of_ble_eq_true rfl⟩) (q_pV (ci := 1) (q0 := 0) (hP.sub (ws' := wT (z.ad 0) (z.rd 0) z.cI T) [1, 10] rfl) (hK.sub [0] rfl) rfl rfl) rfl rfl hl.1 rfl (lv_room (Nat.le_of_ble_eq_true rfl)) dX2_brew_44 ⟨Nat.le_of_ble_eq_true rfl, Nat.le_of_ble_eq_true rfl⟩) hP hD hS rfl (AX_i 10 rfl) rfl (fun x3 H locs e3 hP hD hS => ?_)
  obtain ⟨f3, hf3⟩ : ∃ z, z = g_brew T k xt := ⟨_, rfl⟩
  rw [← hf3] at hP hD
  have e3 : x3 = g_brew T k xt (75 + k) := e3
  subst e3 hf3 e1
  refine hret _ _ _ _ _ rfl ?_ hP hS dX2_brew_47
  rfl
set_option maxHeartbeats 4000000 in
set_option maxRecDepth 100000 in
theorem m2_brew_1 (l : Launch) (hl9 : l.stackTraces = false) (D : va_G) (st : Nat → Nat) (z : Ad) (ol sn hs : Nat) (T S Y : Nat → Int32) (G : Nat → Nat → Int32) (len : Nat) (P : PS) (ch : Nat → Nat) (B : Nat) (hI : Inv B T) (x0 xt : Int32) (h0q : q_in (nI 0) (nI 2) x0 = false) : q_Xi l yX2_brew wsX2_brew { frames := 7, cells := 1, slots := 6, locals := 102 } [.ref (z.o), .int x0, .int xt] st D (wX z ol sn hs T S Y G len P ch) (tyX z) (AX z) xI.cls (wX z ol sn hs T S Y G len P ch) (fun _ => False) := by
  refine q_goX (cc := cX2_brew) (maxL := 3) (lv0 := [(0, .ref (z.o)), (1, .int x0), (2, .int xt)]) (by decide) rfl (Nat.le_of_ble_eq_true rfl) rfl ?_
  intro p e s m args below meth c ls hx hb hml hts hown hP hK hl hT hnt hlk
  have hi2 : ∀ w ∈ wsX20, w ∈ wsX2_brew := by decide +kernel
  have hfl12 := hts (.fieldLink RX2 12 "WhisperedPots" "table" "LWhisperedPots$Table;") (by decide +kernel)
  have hS : va_S (fun _ => False) s.heap s.heap [] := va_S.rf
  have hT := hT.narrow (B := fun _ => False) (fun _ h => h.elim)
  refine lv_iload_n hx hb dX2_brew_0 rfl (lv_at hl 1 rfl) ?_
  exact q_outv (vx_runS (rm := { frames := 6, cells := 1, slots := 6, locals := 82 }) (As := [.int x0]) (rest := []) ⟨hx, hb, hml, hown, hts⟩ (m2_requirePot_x l hl9 D (fun _ => False) st x0 h0q) (va_cwS 1 hts gX2_brew_X2_requirePot rfl rfl rfl (by decide +kernel) ⟨Nat.le_of_ble_eq_true rfl, Nat.le_of_ble_eq_true rfl⟩) (q_pSX (hP.sub (ws' := []) [] rfl) (hK.sub [] rfl) hT hS (fun _ h => h.elim)) rfl rfl hl.1 rfl (lv_room (Nat.le_of_ble_eq_true rfl)) dX2_brew_1 ⟨Nat.le_of_ble_eq_true rfl, Nat.le_of_ble_eq_true rfl⟩) hS hP hnt hlk (Nat.le_of_ble_eq_true rfl) (Nat.le_of_ble_eq_true rfl)
set_option maxHeartbeats 4000000 in
set_option maxRecDepth 100000 in
theorem m2_brew_2 (l : Launch) (hl9 : l.stackTraces = false) (D : va_G) (st : Nat → Nat) (z : Ad) (ol sn hs : Nat) (T S Y : Nat → Int32) (G : Nat → Nat → Int32) (len : Nat) (P : PS) (ch : Nat → Nat) (B : Nat) (hI : Inv B T) (k : Nat) (hk : k < 3) (xt : Int32) (h1q : q_in (nI 1) (nI 200) xt = false) : q_Xi l yX2_brew wsX2_brew { frames := 7, cells := 1, slots := 6, locals := 104 } [.ref (z.o), .int (nI k), .int xt] st D (wX z ol sn hs T S Y G len P ch) (tyX z) (AX z) xA.cls (wX z ol sn hs T S Y G len P ch) (fun _ => False) := by
  refine q_goX (cc := cX2_brew) (maxL := 3) (lv0 := [(0, .ref (z.o)), (1, .int (nI k)), (2, .int xt)]) (by decide) rfl (Nat.le_of_ble_eq_true rfl) rfl ?_
  intro p e s m args below meth c ls hx hb hml hts hown hP hK hl hT hnt hlk
  have hi2 : ∀ w ∈ wsX20, w ∈ wsX2_brew := by decide +kernel
  have hfl12 := hts (.fieldLink RX2 12 "WhisperedPots" "table" "LWhisperedPots$Table;") (by decide +kernel)
  have hS : va_S (fun _ => False) s.heap s.heap [] := va_S.rf
  have hT := hT.narrow (B := fun _ => False) (fun _ h => h.elim)
  refine lv_iload_n hx hb dX2_brew_0 rfl (lv_at hl 1 rfl) ?_
  refine q_cvR (va_runS (rm := { frames := 0, cells := 0, slots := 0, locals := 0 }) (As := [.int (nI k)]) (rest := []) ⟨hx, hb, hml, hown, hts⟩ (m2_requirePot_ok l D k hk) (va_cwS 1 hts gX2_brew_X2_requirePot rfl rfl rfl (by decide +kernel) ⟨Nat.le_of_ble_eq_true rfl, Nat.le_of_ble_eq_true rfl⟩) (q_pS (hP.sub (ws' := []) [] rfl) (hK.sub [] rfl)) rfl rfl hl.1 rfl (lv_room (Nat.le_of_ble_eq_true rfl)) dX2_brew_1 ⟨Nat.le_of_ble_eq_true rfl, Nat.le_of_ble_eq_true rfl⟩) hP hS (fun H locs hP hS => ?_)
  refine lv_iload_n hx hb dX2_brew_4 rfl (lv_at hl 2 rfl) ?_
  refine lv_iconst (v := nI 1) hx hb dX2_brew_5 (by decide) ?_
  refine lv_sipush (v := nI 200) hx hb dX2_brew_6 (by decide) ?_
  exact q_outv (vx_runS (rm := { frames := 6, cells := 1, slots := 6, locals := 82 }) (As := [.int xt, .int (nI 1), .int (nI 200)]) (rest := []) ⟨hx, hb, hml, hown, hts⟩ (m2_requireWithin_x l hl9 D (fun _ => False) st xt (nI 1) (nI 200) h1q) (va_cwS 3 hts gX2_brew_X2_requireWithin rfl rfl rfl (by decide +kernel) ⟨Nat.le_of_ble_eq_true rfl, Nat.le_of_ble_eq_true rfl⟩) (q_pSX (hP.sub (ws' := []) [] rfl) (hK.sub [] rfl) hT hS (fun _ h => h.elim)) rfl rfl hl.1 rfl (lv_room (Nat.le_of_ble_eq_true rfl)) dX2_brew_9 ⟨Nat.le_of_ble_eq_true rfl, Nat.le_of_ble_eq_true rfl⟩) hS hP hnt hlk (Nat.le_of_ble_eq_true rfl) (Nat.le_of_ble_eq_true rfl)
set_option maxHeartbeats 4000000 in
set_option maxRecDepth 100000 in
theorem m2_brew_3 (l : Launch) (hl9 : l.stackTraces = false) (D : va_G) (st : Nat → Nat) (z : Ad) (ol sn hs : Nat) (T S Y : Nat → Int32) (G : Nat → Nat → Int32) (len : Nat) (P : PS) (ch : Nat → Nat) (B : Nat) (hI : Inv B T) (k : Nat) (hk : k < 3) (xt : Int32) (h1q : q_in (nI 1) (nI 200) xt = true) (ht : ¬ T (75 + k) + xt ≤ nI 200) : q_Xi l yX2_brew wsX2_brew { frames := 6, cells := 1, slots := 6, locals := 82 } [.ref (z.o), .int (nI k), .int xt] st D (wX z ol sn hs T S Y G len P ch) (tyX z) (AX z) xS.cls (wX z ol sn hs T S Y G len P ch) (fun _ => False) := by
  refine q_goX (cc := cX2_brew) (maxL := 3) (lv0 := [(0, .ref (z.o)), (1, .int (nI k)), (2, .int xt)]) (by decide) rfl (Nat.le_of_ble_eq_true rfl) rfl ?_
  intro p e s m args below meth c ls hx hb hml hts hown hP hK hl hT hnt hlk
  have hi2 : ∀ w ∈ wsX20, w ∈ wsX2_brew := by decide +kernel
  have hfl12 := hts (.fieldLink RX2 12 "WhisperedPots" "table" "LWhisperedPots$Table;") (by decide +kernel)
  have hS : va_S (fun _ => False) s.heap s.heap [] := va_S.rf
  have hT := hT.narrow (B := fun _ => False) (fun _ h => h.elim)
  refine lv_iload_n hx hb dX2_brew_0 rfl (lv_at hl 1 rfl) ?_
  refine q_cvR (va_runS (rm := { frames := 0, cells := 0, slots := 0, locals := 0 }) (As := [.int (nI k)]) (rest := []) ⟨hx, hb, hml, hown, hts⟩ (m2_requirePot_ok l D k hk) (va_cwS 1 hts gX2_brew_X2_requirePot rfl rfl rfl (by decide +kernel) ⟨Nat.le_of_ble_eq_true rfl, Nat.le_of_ble_eq_true rfl⟩) (q_pS (hP.sub (ws' := []) [] rfl) (hK.sub [] rfl)) rfl rfl hl.1 rfl (lv_room (Nat.le_of_ble_eq_true rfl)) dX2_brew_1 ⟨Nat.le_of_ble_eq_true rfl, Nat.le_of_ble_eq_true rfl⟩) hP hS (fun H locs hP hS => ?_)
  refine lv_iload_n hx hb dX2_brew_4 rfl (lv_at hl 2 rfl) ?_
  refine lv_iconst (v := nI 1) hx hb dX2_brew_5 (by decide) ?_
  refine lv_sipush (v := nI 200) hx hb dX2_brew_6 (by decide) ?_
  refine q_cvR (va_runS (rm := { frames := 0, cells := 0, slots := 0, locals := 0 }) (As := [.int xt, .int (nI 1), .int (nI 200)]) (rest := []) ⟨hx, hb, hml, hown, hts⟩ (m2_requireWithin_ok l D xt (nI 1) (nI 200) h1q) (va_cwS 3 hts gX2_brew_X2_requireWithin rfl rfl rfl (by decide +kernel) ⟨Nat.le_of_ble_eq_true rfl, Nat.le_of_ble_eq_true rfl⟩) (q_pS (hP.sub (ws' := []) [] rfl) (hK.sub [] rfl)) rfl rfl hl.1 rfl (lv_room (Nat.le_of_ble_eq_true rfl)) dX2_brew_9 ⟨Nat.le_of_ble_eq_true rfl, Nat.le_of_ble_eq_true rfl⟩) hP hS (fun H locs hP hS => ?_)
  refine lv_aload_n hx hb dX2_brew_12 rfl (lv_at hl 0 rfl) ?_
  refine va_get (D := D) (ci := 2) (v := .ref (z.ad 0)) (C := RX2) (T := TX2) (N := 8) hx hb hts hi2 hown hK hP 0 rfl rfl 0 (by decide) hfl12 (fun _ h9 => h9) rfl dX2_brew_13 ?_
  refine lv_iload_n hx hb dX2_brew_16 rfl (lv_at hl 1 rfl) ?_
  refine lv_iload_n hx hb dX2_brew_17 rfl (lv_at hl 2 rfl) ?_
  refine q_ciR (va_runV (rm := { frames := 0, cells := 0, slots := 0, locals := 0 }) (As := [.int (nI k), .int xt]) (rest := []) ⟨hx, hb, hml, hown, hts⟩ (m1_hasRoomFor l D z.cI (z.ad 0) (z.rd 0) k T xt hk) (cwV 2 hts gX2_brew_X1_hasRoomFor rfl rfl rfl (by decide +kernel) ⟨Nat.le_of_ble_eq_true rfl, Nat.le_of_ble_eq_true rfl⟩) (q_pV (ci := 1) (q0 := 0) (hP.sub (ws' := wT (z.ad 0) (z.rd 0) z.cI T) [1, 10] rfl) (hK.sub [0] rfl) rfl rfl) rfl rfl hl.1 rfl (lv_room (Nat.le_of_ble_eq_true rfl)) dX2_brew_18 ⟨Nat.le_of_ble_eq_true rfl, Nat.le_of_ble_eq_true rfl⟩) hP hS (fun x1 H locs e1 hP hS => ?_)
  have e1 : x1 = g_hr T k xt := e1
  refine lv_if_ne (tgt := 34) hx hb dX2_brew_21 (by decide) (fun c2 => absurd c2 (by rw [e1]; exact hr_0 ht)) (fun c2 => ?_)
  exact q_thr hx hb hl9 hml hl hts hown xS xS_ok (by decide +kernel) (by decide +kernel) hT hT.c3 (fun _ h => h) (is := 77) (tx := "the pot does not hold so much") (by decide) hS hP hnt hlk dX2_brew_24 dX2_brew_27 dX2_brew_28 dX2_brew_30 dX2_brew_33 (Nat.le_of_ble_eq_true rfl) (Nat.le_of_ble_eq_true rfl) (Nat.le_of_ble_eq_true rfl) (Nat.le_of_ble_eq_true rfl) (Nat.le_of_ble_eq_true rfl) (Nat.le_of_ble_eq_true rfl)
set_option maxHeartbeats 4000000 in
set_option maxRecDepth 100000 in
theorem m2_pour_ok (l : Launch) (D : va_G) (z : Ad) (ol sn hs : Nat) (hol : ol < 6) (hsn : sn ≤ 6) (T S Y : Nat → Int32) (G : Nat → Nat → Int32) (len : Nat) (P : PS) (ch : Nat → Nat) (B : Nat) (hI : Inv B T) (k : Nat) (hk : k < 3) (hw : g_wy T k = 0) (hD : va_D (fun _ => True) (wX z ol sn hs T S Y G len P ch)) : q_I l yX2_pour wsX2_pour { frames := 4, cells := 0, slots := 0, locals := 101 } [.ref (z.o), .int (nI k)] (q_bp D (wX z ol sn hs T S Y G len P ch) (tyX z)) (fun v => v = g_ov T k) (fun H => va_P D vwCl (wX z ((so ol sn)) ((svn sn)) hs (g_pour T k) S Y (updG G (sr ol sn) T) len P ch) H) (AX z) 0 0 := by
  refine q_goI (cc := cX2_pour) (maxL := 2) (ty := .int) (lv0 := [(0, .ref (z.o)), (1, .int (nI k))]) (by decide) rfl (Nat.le_of_ble_eq_true rfl) rfl ?_
  intro p e s m args below meth c Q ls hx hb hml hts hown hP hK hl hret
  have hi2 : ∀ w ∈ wsX20, w ∈ wsX2_pour := by decide +kernel
  have hfl12 := hts (.fieldLink RX2 12 "WhisperedPots" "table" "LWhisperedPots$Table;") (by decide +kernel)
  have hS : va_S (AX z) s.heap s.heap [] := va_S.rf
  refine lv_iload_n hx hb dX2_pour_0 rfl (lv_at hl 1 rfl) ?_
  refine q_cvR (va_runS (rm := { frames := 0, cells := 0, slots := 0, locals := 0 }) (As := [.int (nI k)]) (rest := []) ⟨hx, hb, hml, hown, hts⟩ (m2_requirePot_ok l D k hk) (va_cwS 1 hts gX2_pour_X2_requirePot rfl rfl rfl (by decide +kernel) ⟨Nat.le_of_ble_eq_true rfl, Nat.le_of_ble_eq_true rfl⟩) (q_pS (hP.sub (ws' := []) [] rfl) (hK.sub [] rfl)) rfl rfl hl.1 rfl (lv_room (Nat.le_of_ble_eq_true rfl)) dX2_pour_1 ⟨Nat.le_of_ble_eq_true rfl, Nat.le_of_ble_eq_true rfl⟩) hP hS (fun H locs hP hS => ?_)
  refine lv_aload_n hx hb dX2_pour_4 rfl (lv_at hl 0 rfl) ?_
  refine va_get (D := D) (ci := 2) (v := .ref (z.ad 0)) (C := RX2) (T := TX2) (N := 8) hx hb hts hi2 hown hK hP 0 rfl rfl 0 (by decide) hfl12 (fun _ h9 => h9) rfl dX2_pour_5 ?_
  refine lv_iload_n hx hb dX2_pour_8 rfl (lv_at hl 1 rfl) ?_
  refine q_ciR (va_runV (rm := { frames := 1, cells := 0, slots := 0, locals := 21 }) (As := [.int (nI k)]) (rest := []) ⟨hx, hb, hml, hown, hts⟩ (m1_whyNotPour l D z.cI (z.ad 0) (z.rd 0) k T hk (hI.ok1 hk)) (cwV 1 hts gX2_pour_X1_whyNotPour rfl rfl rfl (by decide +kernel) ⟨Nat.le_of_ble_eq_true rfl, Nat.le_of_ble_eq_true rfl⟩) (q_pV (ci := 1) (q0 := 0) (hP.sub (ws' := wT (z.ad 0) (z.rd 0) z.cI T) [1, 10] rfl) (hK.sub [0] rfl) rfl rfl) rfl rfl hl.1 rfl (lv_room (Nat.le_of_ble_eq_true rfl)) dX2_pour_9 ⟨Nat.le_of_ble_eq_true rfl, Nat.le_of_ble_eq_true rfl⟩) hP hS (fun x1 H locs e1 hP hS => ?_)
  have e1 : x1 = g_wy T k := e1
  refine lv_if_eq (tgt := 25) hx hb dX2_pour_12 (by decide) (fun c2 => ?_) (fun c2 => absurd c2 (by rw [e1]; exact fun z => z hw))
  refine lv_aload_n hx hb dX2_pour_25 rfl (lv_at hl 0 rfl) ?_
  refine q_cvF (BH := fun H => va_P D vwCl (wX z ((so ol sn)) ((svn sn)) hs T S Y (updG G (sr ol sn) T) len P ch) H) (va_runV (rm := { frames := 2, cells := 0, slots := 0, locals := 81 }) (As := []) (rest := []) ⟨hx, hb, hml, hown, hts⟩ (m2_save l D z ol sn hs hol hsn T S Y G len P ch hD) (cwV 0 hts gX2_pour_X2_saveState rfl rfl rfl (by decide +kernel) ⟨Nat.le_of_ble_eq_true rfl, Nat.le_of_ble_eq_true rfl⟩) (q_pV (ci := 2) (q0 := 0) hP hK rfl rfl) rfl rfl hl.1 rfl (lv_room (Nat.le_of_ble_eq_true rfl)) dX2_pour_26 ⟨Nat.le_of_ble_eq_true rfl, Nat.le_of_ble_eq_true rfl⟩) (fun _ h => h) hS (fun _ h => h) (fun H locs hP hS => ?_)
  have hD := q_D2 (ws' := wX z ((so ol sn)) ((svn sn)) hs T S Y (updG G (sr ol sn) T) len P ch) hD rfl
  refine lv_aload_n hx hb dX2_pour_29 rfl (lv_at hl 0 rfl) ?_
  refine va_get (D := D) (ci := 2) (v := .ref (z.ad 0)) (C := RX2) (T := TX2) (N := 8) hx hb hts hi2 hown hK hP 0 rfl rfl 0 (by decide) hfl12 (fun _ h9 => h9) rfl dX2_pour_30 ?_
  refine lv_iload_n hx hb dX2_pour_33 rfl (lv_at hl 1 rfl) ?_
  refine q_ci1 (i := 10) (ws' := wX z ((so ol sn)) ((svn sn)) hs (g_pour T k) S Y (updG G (sr ol sn) T) len P ch) (va_runV (rm := { frames := 3, cells := 0, slots := 0, locals := 69 }) (As := [.int (nI k)]) (rest := []) ⟨hx, hb, hml, hown, hts⟩ (m1_pourFrom l D z.cI (z.ad 0) (z.rd 0) k T hk (hI.ok1 hk) (wX_ne hD)) (cwV 1 hts gX2_pour_X1_pourFrom rfl rfl rfl (by decide +kernel) ⟨Nat.le_of_ble_eq_true rfl, Nat.le_of_ble_eq_true rfl⟩) (q_pV (ci := 1) (q0 := 0) (hP.sub (ws' := wT (z.ad 0) (z.rd 0) z.cI T) [1, 10] rfl) (hK.sub [0] rfl) rfl rfl) rfl rfl hl.1 rfl (lv_room (Nat.le_of_ble_eq_true rfl)) dX2_pour_34 ⟨Nat.le_of_ble_eq_true rfl, Nat.le_of_ble_eq_true rfl⟩) hP hD hS rfl (AX_i 10 rfl) rfl (fun x3 H locs e3 hP hD hS => ?_)
  obtain ⟨f3, hf3⟩ : ∃ z, z = g_pour T k := ⟨_, rfl⟩
  rw [← hf3] at hP hD
  have e3 : x3 = g_ov T k := e3
  subst e3 hf3 e1
  refine hret _ _ _ _ _ rfl ?_ hP hS dX2_pour_37
  rfl
set_option maxHeartbeats 4000000 in
set_option maxRecDepth 100000 in
theorem m2_pour_1 (l : Launch) (hl9 : l.stackTraces = false) (D : va_G) (st : Nat → Nat) (z : Ad) (ol sn hs : Nat) (T S Y : Nat → Int32) (G : Nat → Nat → Int32) (len : Nat) (P : PS) (ch : Nat → Nat) (B : Nat) (hI : Inv B T) (x0 : Int32) (h0q : q_in (nI 0) (nI 2) x0 = false) : q_Xi l yX2_pour wsX2_pour { frames := 7, cells := 1, slots := 6, locals := 102 } [.ref (z.o), .int x0] st D (wX z ol sn hs T S Y G len P ch) (tyX z) (AX z) xI.cls (wX z ol sn hs T S Y G len P ch) (fun _ => False) := by
  refine q_goX (cc := cX2_pour) (maxL := 2) (lv0 := [(0, .ref (z.o)), (1, .int x0)]) (by decide) rfl (Nat.le_of_ble_eq_true rfl) rfl ?_
  intro p e s m args below meth c ls hx hb hml hts hown hP hK hl hT hnt hlk
  have hi2 : ∀ w ∈ wsX20, w ∈ wsX2_pour := by decide +kernel
  have hfl12 := hts (.fieldLink RX2 12 "WhisperedPots" "table" "LWhisperedPots$Table;") (by decide +kernel)
  have hS : va_S (fun _ => False) s.heap s.heap [] := va_S.rf
  have hT := hT.narrow (B := fun _ => False) (fun _ h => h.elim)
  refine lv_iload_n hx hb dX2_pour_0 rfl (lv_at hl 1 rfl) ?_
  exact q_outv (vx_runS (rm := { frames := 6, cells := 1, slots := 6, locals := 82 }) (As := [.int x0]) (rest := []) ⟨hx, hb, hml, hown, hts⟩ (m2_requirePot_x l hl9 D (fun _ => False) st x0 h0q) (va_cwS 1 hts gX2_pour_X2_requirePot rfl rfl rfl (by decide +kernel) ⟨Nat.le_of_ble_eq_true rfl, Nat.le_of_ble_eq_true rfl⟩) (q_pSX (hP.sub (ws' := []) [] rfl) (hK.sub [] rfl) hT hS (fun _ h => h.elim)) rfl rfl hl.1 rfl (lv_room (Nat.le_of_ble_eq_true rfl)) dX2_pour_1 ⟨Nat.le_of_ble_eq_true rfl, Nat.le_of_ble_eq_true rfl⟩) hS hP hnt hlk (Nat.le_of_ble_eq_true rfl) (Nat.le_of_ble_eq_true rfl)
set_option maxHeartbeats 4000000 in
set_option maxRecDepth 100000 in
theorem m2_pour_2 (l : Launch) (hl9 : l.stackTraces = false) (D : va_G) (st : Nat → Nat) (z : Ad) (ol sn hs : Nat) (T S Y : Nat → Int32) (G : Nat → Nat → Int32) (len : Nat) (P : PS) (ch : Nat → Nat) (B : Nat) (hI : Inv B T) (k : Nat) (hk : k < 3) (hw : ¬ g_wy T k = 0) : q_Xi l yX2_pour wsX2_pour { frames := 6, cells := 1, slots := 6, locals := 82 } [.ref (z.o), .int (nI k)] st D (wX z ol sn hs T S Y G len P ch) (tyX z) (AX z) xS.cls (wX z ol sn hs T S Y G len P ch) (fun _ => False) := by
  refine q_goX (cc := cX2_pour) (maxL := 2) (lv0 := [(0, .ref (z.o)), (1, .int (nI k))]) (by decide) rfl (Nat.le_of_ble_eq_true rfl) rfl ?_
  intro p e s m args below meth c ls hx hb hml hts hown hP hK hl hT hnt hlk
  have hi2 : ∀ w ∈ wsX20, w ∈ wsX2_pour := by decide +kernel
  have hfl12 := hts (.fieldLink RX2 12 "WhisperedPots" "table" "LWhisperedPots$Table;") (by decide +kernel)
  have hS : va_S (fun _ => False) s.heap s.heap [] := va_S.rf
  have hT := hT.narrow (B := fun _ => False) (fun _ h => h.elim)
  refine lv_iload_n hx hb dX2_pour_0 rfl (lv_at hl 1 rfl) ?_
  refine q_cvR (va_runS (rm := { frames := 0, cells := 0, slots := 0, locals := 0 }) (As := [.int (nI k)]) (rest := []) ⟨hx, hb, hml, hown, hts⟩ (m2_requirePot_ok l D k hk) (va_cwS 1 hts gX2_pour_X2_requirePot rfl rfl rfl (by decide +kernel) ⟨Nat.le_of_ble_eq_true rfl, Nat.le_of_ble_eq_true rfl⟩) (q_pS (hP.sub (ws' := []) [] rfl) (hK.sub [] rfl)) rfl rfl hl.1 rfl (lv_room (Nat.le_of_ble_eq_true rfl)) dX2_pour_1 ⟨Nat.le_of_ble_eq_true rfl, Nat.le_of_ble_eq_true rfl⟩) hP hS (fun H locs hP hS => ?_)
  refine lv_aload_n hx hb dX2_pour_4 rfl (lv_at hl 0 rfl) ?_
  refine va_get (D := D) (ci := 2) (v := .ref (z.ad 0)) (C := RX2) (T := TX2) (N := 8) hx hb hts hi2 hown hK hP 0 rfl rfl 0 (by decide) hfl12 (fun _ h9 => h9) rfl dX2_pour_5 ?_
  refine lv_iload_n hx hb dX2_pour_8 rfl (lv_at hl 1 rfl) ?_
  refine q_ciR (va_runV (rm := { frames := 1, cells := 0, slots := 0, locals := 21 }) (As := [.int (nI k)]) (rest := []) ⟨hx, hb, hml, hown, hts⟩ (m1_whyNotPour l D z.cI (z.ad 0) (z.rd 0) k T hk (hI.ok1 hk)) (cwV 1 hts gX2_pour_X1_whyNotPour rfl rfl rfl (by decide +kernel) ⟨Nat.le_of_ble_eq_true rfl, Nat.le_of_ble_eq_true rfl⟩) (q_pV (ci := 1) (q0 := 0) (hP.sub (ws' := wT (z.ad 0) (z.rd 0) z.cI T) [1, 10] rfl) (hK.sub [0] rfl) rfl rfl) rfl rfl hl.1 rfl (lv_room (Nat.le_of_ble_eq_true rfl)) dX2_pour_9 ⟨Nat.le_of_ble_eq_true rfl, Nat.le_of_ble_eq_true rfl⟩) hP hS (fun x1 H locs e1 hP hS => ?_)
  have e1 : x1 = g_wy T k := e1
  refine lv_if_eq (tgt := 25) hx hb dX2_pour_12 (by decide) (fun c2 => absurd c2 (by rw [e1]; exact hw)) (fun c2 => ?_)
  exact q_thr hx hb hl9 hml hl hts hown xS xS_ok (by decide +kernel) (by decide +kernel) hT hT.c3 (fun _ h => h) (is := 86) (tx := "the guest with the pot can not pour") (by decide) hS hP hnt hlk dX2_pour_15 dX2_pour_18 dX2_pour_19 dX2_pour_21 dX2_pour_24 (Nat.le_of_ble_eq_true rfl) (Nat.le_of_ble_eq_true rfl) (Nat.le_of_ble_eq_true rfl) (Nat.le_of_ble_eq_true rfl) (Nat.le_of_ble_eq_true rfl) (Nat.le_of_ble_eq_true rfl)
set_option maxHeartbeats 4000000 in
set_option maxRecDepth 100000 in
theorem m2_hand_ok1 (l : Launch) (D : va_G) (z : Ad) (ol sn hs : Nat) (hol : ol < 6) (hsn : sn ≤ 6) (T S Y : Nat → Int32) (G : Nat → Nat → Int32) (len : Nat) (P : PS) (ch : Nat → Nat) (B : Nat) (hI : Inv B T) (k : Nat) (hk : k < 3) (hD : va_D (fun _ => True) (wX z ol sn hs T S Y G len P ch)) : q_I l yX2_hand wsX2_hand { frames := 3, cells := 0, slots := 0, locals := 101 } [.ref (z.o), .int (nI k), .int (nI 1)] (q_bp D (wX z ol sn hs T S Y G len P ch) (tyX z)) (fun v => v = nI ((hN T k + 1) % 8)) (fun H => va_P D vwCl (wX z ((so ol sn)) ((svn sn)) hs (g_hand T k 1) S Y (updG G (sr ol sn) T) len P ch) H) (AX z) 0 0 := by
  refine q_goI (cc := cX2_hand) (maxL := 3) (ty := .int) (lv0 := [(0, .ref (z.o)), (1, .int (nI k)), (2, .int (nI 1))]) (by decide) rfl (Nat.le_of_ble_eq_true rfl) rfl ?_
  intro p e s m args below meth c Q ls hx hb hml hts hown hP hK hl hret
  have hi2 : ∀ w ∈ wsX20, w ∈ wsX2_hand := by decide +kernel
  have hfl12 := hts (.fieldLink RX2 12 "WhisperedPots" "table" "LWhisperedPots$Table;") (by decide +kernel)
  have hS : va_S (AX z) s.heap s.heap [] := va_S.rf
  refine lv_iload_n hx hb dX2_hand_0 rfl (lv_at hl 1 rfl) ?_
  refine q_cvR (va_runS (rm := { frames := 0, cells := 0, slots := 0, locals := 0 }) (As := [.int (nI k)]) (rest := []) ⟨hx, hb, hml, hown, hts⟩ (m2_requirePot_ok l D k hk) (va_cwS 1 hts gX2_hand_X2_requirePot rfl rfl rfl (by decide +kernel) ⟨Nat.le_of_ble_eq_true rfl, Nat.le_of_ble_eq_true rfl⟩) (q_pS (hP.sub (ws' := []) [] rfl) (hK.sub [] rfl)) rfl rfl hl.1 rfl (lv_room (Nat.le_of_ble_eq_true rfl)) dX2_hand_1 ⟨Nat.le_of_ble_eq_true rfl, Nat.le_of_ble_eq_true rfl⟩) hP hS (fun H locs hP hS => ?_)
  refine lv_iload_n hx hb dX2_hand_4 rfl (lv_at hl 2 rfl) ?_
  refine lv_iconst (v := nI 0) hx hb dX2_hand_5 (by decide) ?_
  refine lv_iconst (v := nI 1) hx hb dX2_hand_6 (by decide) ?_
  refine q_cvR (va_runS (rm := { frames := 0, cells := 0, slots := 0, locals := 0 }) (As := [.int (nI 1), .int (nI 0), .int (nI 1)]) (rest := []) ⟨hx, hb, hml, hown, hts⟩ (m2_requireWithin_ok l D (nI 1) (nI 0) (nI 1) (by decide)) (va_cwS 3 hts gX2_hand_X2_requireWithin rfl rfl rfl (by decide +kernel) ⟨Nat.le_of_ble_eq_true rfl, Nat.le_of_ble_eq_true rfl⟩) (q_pS (hP.sub (ws' := []) [] rfl) (hK.sub [] rfl)) rfl rfl hl.1 rfl (lv_room (Nat.le_of_ble_eq_true rfl)) dX2_hand_7 ⟨Nat.le_of_ble_eq_true rfl, Nat.le_of_ble_eq_true rfl⟩) hP hS (fun H locs hP hS => ?_)
  refine lv_aload_n hx hb dX2_hand_10 rfl (lv_at hl 0 rfl) ?_
  refine q_cvF (BH := fun H => va_P D vwCl (wX z ((so ol sn)) ((svn sn)) hs T S Y (updG G (sr ol sn) T) len P ch) H) (va_runV (rm := { frames := 2, cells := 0, slots := 0, locals := 81 }) (As := []) (rest := []) ⟨hx, hb, hml, hown, hts⟩ (m2_save l D z ol sn hs hol hsn T S Y G len P ch hD) (cwV 0 hts gX2_hand_X2_saveState rfl rfl rfl (by decide +kernel) ⟨Nat.le_of_ble_eq_true rfl, Nat.le_of_ble_eq_true rfl⟩) (q_pV (ci := 2) (q0 := 0) hP hK rfl rfl) rfl rfl hl.1 rfl (lv_room (Nat.le_of_ble_eq_true rfl)) dX2_hand_11 ⟨Nat.le_of_ble_eq_true rfl, Nat.le_of_ble_eq_true rfl⟩) (fun _ h => h) hS (fun _ h => h) (fun H locs hP hS => ?_)
  have hD := q_D2 (ws' := wX z ((so ol sn)) ((svn sn)) hs T S Y (updG G (sr ol sn) T) len P ch) hD rfl
  refine lv_aload_n hx hb dX2_hand_14 rfl (lv_at hl 0 rfl) ?_
  refine va_get (D := D) (ci := 2) (v := .ref (z.ad 0)) (C := RX2) (T := TX2) (N := 8) hx hb hts hi2 hown hK hP 0 rfl rfl 0 (by decide) hfl12 (fun _ h9 => h9) rfl dX2_hand_15 ?_
  refine lv_iload_n hx hb dX2_hand_18 rfl (lv_at hl 1 rfl) ?_
  refine lv_iload_n hx hb dX2_hand_19 rfl (lv_at hl 2 rfl) ?_
  refine lv_iconst (v := nI 1) hx hb dX2_hand_20 (by decide) ?_
  refine q_neN (tgt := 28) hx hb (by omega) (by omega) dX2_hand_21 (by decide) (fun c1 => absurd c1 (by decide)) (fun c1 => ?_)
  refine lv_iconst (v := nI 1) hx hb dX2_hand_24 (by decide) ?_
  refine lv_goto (tgt := 30) hx hb dX2_hand_25 (by decide) ?_
  refine q_ci1 (i := 10) (ws' := wX z ((so ol sn)) ((svn sn)) hs (g_hand T k 1) S Y (updG G (sr ol sn) T) len P ch) (va_runV (rm := { frames := 2, cells := 0, slots := 0, locals := 44 }) (As := [.int (nI k), .int (nI 1)]) (rest := []) ⟨hx, hb, hml, hown, hts⟩ (m1_handOn l D z.cI (z.ad 0) (z.rd 0) k 1 T hk (hI.ok1 hk) (hI.ok2 hk) (by decide) (wX_ne hD)) (cwV 2 hts gX2_hand_X1_handOn rfl rfl rfl (by decide +kernel) ⟨Nat.le_of_ble_eq_true rfl, Nat.le_of_ble_eq_true rfl⟩) (q_pV (ci := 1) (q0 := 0) (hP.sub (ws' := wT (z.ad 0) (z.rd 0) z.cI T) [1, 10] rfl) (hK.sub [0] rfl) rfl rfl) rfl rfl hl.1 rfl (lv_room (Nat.le_of_ble_eq_true rfl)) dX2_hand_30 ⟨Nat.le_of_ble_eq_true rfl, Nat.le_of_ble_eq_true rfl⟩) hP hD hS rfl (AX_i 10 rfl) rfl (fun x2 H locs e2 hP hD hS => ?_)
  obtain ⟨f2, hf2⟩ : ∃ z, z = g_hand T k 1 := ⟨_, rfl⟩
  rw [← hf2] at hP hD
  have e2 : x2 = nI ((hN T k + 1) % 8) := e2
  subst e2 hf2
  refine hret _ _ _ _ _ rfl ?_ hP hS dX2_hand_33
  rfl
set_option maxHeartbeats 4000000 in
set_option maxRecDepth 100000 in
theorem m2_hand_ok0 (l : Launch) (D : va_G) (z : Ad) (ol sn hs : Nat) (hol : ol < 6) (hsn : sn ≤ 6) (T S Y : Nat → Int32) (G : Nat → Nat → Int32) (len : Nat) (P : PS) (ch : Nat → Nat) (B : Nat) (hI : Inv B T) (k : Nat) (hk : k < 3) (hD : va_D (fun _ => True) (wX z ol sn hs T S Y G len P ch)) : q_I l yX2_hand wsX2_hand { frames := 3, cells := 0, slots := 0, locals := 101 } [.ref (z.o), .int (nI k), .int (nI 0)] (q_bp D (wX z ol sn hs T S Y G len P ch) (tyX z)) (fun v => v = nI ((hN T k + 7) % 8)) (fun H => va_P D vwCl (wX z ((so ol sn)) ((svn sn)) hs (g_hand T k 7) S Y (updG G (sr ol sn) T) len P ch) H) (AX z) 0 0 := by
  refine q_goI (cc := cX2_hand) (maxL := 3) (ty := .int) (lv0 := [(0, .ref (z.o)), (1, .int (nI k)), (2, .int (nI 0))]) (by decide) rfl (Nat.le_of_ble_eq_true rfl) rfl ?_
  intro p e s m args below meth c Q ls hx hb hml hts hown hP hK hl hret
  have hi2 : ∀ w ∈ wsX20, w ∈ wsX2_hand := by decide +kernel
  have hfl12 := hts (.fieldLink RX2 12 "WhisperedPots" "table" "LWhisperedPots$Table;") (by decide +kernel)
  have hS : va_S (AX z) s.heap s.heap [] := va_S.rf
  refine lv_iload_n hx hb dX2_hand_0 rfl (lv_at hl 1 rfl) ?_
  refine q_cvR (va_runS (rm := { frames := 0, cells := 0, slots := 0, locals := 0 }) (As := [.int (nI k)]) (rest := []) ⟨hx, hb, hml, hown, hts⟩ (m2_requirePot_ok l D k hk) (va_cwS 1 hts gX2_hand_X2_requirePot rfl rfl rfl (by decide +kernel) ⟨Nat.le_of_ble_eq_true rfl, Nat.le_of_ble_eq_true rfl⟩) (q_pS (hP.sub (ws' := []) [] rfl) (hK.sub [] rfl)) rfl rfl hl.1 rfl (lv_room (Nat.le_of_ble_eq_true rfl)) dX2_hand_1 ⟨Nat.le_of_ble_eq_true rfl, Nat.le_of_ble_eq_true rfl⟩) hP hS (fun H locs hP hS => ?_)
  refine lv_iload_n hx hb dX2_hand_4 rfl (lv_at hl 2 rfl) ?_
  refine lv_iconst (v := nI 0) hx hb dX2_hand_5 (by decide) ?_
  refine lv_iconst (v := nI 1) hx hb dX2_hand_6 (by decide) ?_
  refine q_cvR (va_runS (rm := { frames := 0, cells := 0, slots := 0, locals := 0 }) (As := [.int (nI 0), .int (nI 0), .int (nI 1)]) (rest := []) ⟨hx, hb, hml, hown, hts⟩ (m2_requireWithin_ok l D (nI 0) (nI 0) (nI 1) (by decide)) (va_cwS 3 hts gX2_hand_X2_requireWithin rfl rfl rfl (by decide +kernel) ⟨Nat.le_of_ble_eq_true rfl, Nat.le_of_ble_eq_true rfl⟩) (q_pS (hP.sub (ws' := []) [] rfl) (hK.sub [] rfl)) rfl rfl hl.1 rfl (lv_room (Nat.le_of_ble_eq_true rfl)) dX2_hand_7 ⟨Nat.le_of_ble_eq_true rfl, Nat.le_of_ble_eq_true rfl⟩) hP hS (fun H locs hP hS => ?_)
  refine lv_aload_n hx hb dX2_hand_10 rfl (lv_at hl 0 rfl) ?_
  refine q_cvF (BH := fun H => va_P D vwCl (wX z ((so ol sn)) ((svn sn)) hs T S Y (updG G (sr ol sn) T) len P ch) H) (va_runV (rm := { frames := 2, cells := 0, slots := 0, locals := 81 }) (As := []) (rest := []) ⟨hx, hb, hml, hown, hts⟩ (m2_save l D z ol sn hs hol hsn T S Y G len P ch hD) (cwV 0 hts gX2_hand_X2_saveState rfl rfl rfl (by decide +kernel) ⟨Nat.le_of_ble_eq_true rfl, Nat.le_of_ble_eq_true rfl⟩) (q_pV (ci := 2) (q0 := 0) hP hK rfl rfl) rfl rfl hl.1 rfl (lv_room (Nat.le_of_ble_eq_true rfl)) dX2_hand_11 ⟨Nat.le_of_ble_eq_true rfl, Nat.le_of_ble_eq_true rfl⟩) (fun _ h => h) hS (fun _ h => h) (fun H locs hP hS => ?_)
  have hD := q_D2 (ws' := wX z ((so ol sn)) ((svn sn)) hs T S Y (updG G (sr ol sn) T) len P ch) hD rfl
  refine lv_aload_n hx hb dX2_hand_14 rfl (lv_at hl 0 rfl) ?_
  refine va_get (D := D) (ci := 2) (v := .ref (z.ad 0)) (C := RX2) (T := TX2) (N := 8) hx hb hts hi2 hown hK hP 0 rfl rfl 0 (by decide) hfl12 (fun _ h9 => h9) rfl dX2_hand_15 ?_
  refine lv_iload_n hx hb dX2_hand_18 rfl (lv_at hl 1 rfl) ?_
  refine lv_iload_n hx hb dX2_hand_19 rfl (lv_at hl 2 rfl) ?_
  refine lv_iconst (v := nI 1) hx hb dX2_hand_20 (by decide) ?_
  refine q_neN (tgt := 28) hx hb (by omega) (by omega) dX2_hand_21 (by decide) (fun c1 => ?_) (fun c1 => absurd c1 (by decide))
  refine lv_bipush (v := nI 7) hx hb dX2_hand_28 (by decide) ?_
  refine q_ci1 (i := 10) (ws' := wX z ((so ol sn)) ((svn sn)) hs (g_hand T k 7) S Y (updG G (sr ol sn) T) len P ch) (va_runV (rm := { frames := 2, cells := 0, slots := 0, locals := 44 }) (As := [.int (nI k), .int (nI 7)]) (rest := []) ⟨hx, hb, hml, hown, hts⟩ (m1_handOn l D z.cI (z.ad 0) (z.rd 0) k 7 T hk (hI.ok1 hk) (hI.ok2 hk) (by decide) (wX_ne hD)) (cwV 2 hts gX2_hand_X1_handOn rfl rfl rfl (by decide +kernel) ⟨Nat.le_of_ble_eq_true rfl, Nat.le_of_ble_eq_true rfl⟩) (q_pV (ci := 1) (q0 := 0) (hP.sub (ws' := wT (z.ad 0) (z.rd 0) z.cI T) [1, 10] rfl) (hK.sub [0] rfl) rfl rfl) rfl rfl hl.1 rfl (lv_room (Nat.le_of_ble_eq_true rfl)) dX2_hand_30 ⟨Nat.le_of_ble_eq_true rfl, Nat.le_of_ble_eq_true rfl⟩) hP hD hS rfl (AX_i 10 rfl) rfl (fun x2 H locs e2 hP hD hS => ?_)
  obtain ⟨f2, hf2⟩ : ∃ z, z = g_hand T k 7 := ⟨_, rfl⟩
  rw [← hf2] at hP hD
  have e2 : x2 = nI ((hN T k + 7) % 8) := e2
  subst e2 hf2
  refine hret _ _ _ _ _ rfl ?_ hP hS dX2_hand_33
  rfl
set_option maxHeartbeats 4000000 in
set_option maxRecDepth 100000 in
theorem m2_hand_1 (l : Launch) (hl9 : l.stackTraces = false) (D : va_G) (st : Nat → Nat) (z : Ad) (ol sn hs : Nat) (T S Y : Nat → Int32) (G : Nat → Nat → Int32) (len : Nat) (P : PS) (ch : Nat → Nat) (B : Nat) (hI : Inv B T) (x0 xn : Int32) (h0q : q_in (nI 0) (nI 2) x0 = false) : q_Xi l yX2_hand wsX2_hand { frames := 7, cells := 1, slots := 6, locals := 102 } [.ref (z.o), .int x0, .int xn] st D (wX z ol sn hs T S Y G len P ch) (tyX z) (AX z) xI.cls (wX z ol sn hs T S Y G len P ch) (fun _ => False) := by
  refine q_goX (cc := cX2_hand) (maxL := 3) (lv0 := [(0, .ref (z.o)), (1, .int x0), (2, .int xn)]) (by decide) rfl (Nat.le_of_ble_eq_true rfl) rfl ?_
  intro p e s m args below meth c ls hx hb hml hts hown hP hK hl hT hnt hlk
  have hi2 : ∀ w ∈ wsX20, w ∈ wsX2_hand := by decide +kernel
  have hfl12 := hts (.fieldLink RX2 12 "WhisperedPots" "table" "LWhisperedPots$Table;") (by decide +kernel)
  have hS : va_S (fun _ => False) s.heap s.heap [] := va_S.rf
  have hT := hT.narrow (B := fun _ => False) (fun _ h => h.elim)
  refine lv_iload_n hx hb dX2_hand_0 rfl (lv_at hl 1 rfl) ?_
  exact q_outv (vx_runS (rm := { frames := 6, cells := 1, slots := 6, locals := 82 }) (As := [.int x0]) (rest := []) ⟨hx, hb, hml, hown, hts⟩ (m2_requirePot_x l hl9 D (fun _ => False) st x0 h0q) (va_cwS 1 hts gX2_hand_X2_requirePot rfl rfl rfl (by decide +kernel) ⟨Nat.le_of_ble_eq_true rfl, Nat.le_of_ble_eq_true rfl⟩) (q_pSX (hP.sub (ws' := []) [] rfl) (hK.sub [] rfl) hT hS (fun _ h => h.elim)) rfl rfl hl.1 rfl (lv_room (Nat.le_of_ble_eq_true rfl)) dX2_hand_1 ⟨Nat.le_of_ble_eq_true rfl, Nat.le_of_ble_eq_true rfl⟩) hS hP hnt hlk (Nat.le_of_ble_eq_true rfl) (Nat.le_of_ble_eq_true rfl)
set_option maxHeartbeats 4000000 in
set_option maxRecDepth 100000 in
theorem m2_hand_2 (l : Launch) (hl9 : l.stackTraces = false) (D : va_G) (st : Nat → Nat) (z : Ad) (ol sn hs : Nat) (T S Y : Nat → Int32) (G : Nat → Nat → Int32) (len : Nat) (P : PS) (ch : Nat → Nat) (B : Nat) (hI : Inv B T) (k : Nat) (hk : k < 3) (xn : Int32) (h1q : q_in (nI 0) (nI 1) xn = false) : q_Xi l yX2_hand wsX2_hand { frames := 7, cells := 1, slots := 6, locals := 104 } [.ref (z.o), .int (nI k), .int xn] st D (wX z ol sn hs T S Y G len P ch) (tyX z) (AX z) xA.cls (wX z ol sn hs T S Y G len P ch) (fun _ => False) := by
  refine q_goX (cc := cX2_hand) (maxL := 3) (lv0 := [(0, .ref (z.o)), (1, .int (nI k)), (2, .int xn)]) (by decide) rfl (Nat.le_of_ble_eq_true rfl) rfl ?_
  intro p e s m args below meth c ls hx hb hml hts hown hP hK hl hT hnt hlk
  have hi2 : ∀ w ∈ wsX20, w ∈ wsX2_hand := by decide +kernel
  have hfl12 := hts (.fieldLink RX2 12 "WhisperedPots" "table" "LWhisperedPots$Table;") (by decide +kernel)
  have hS : va_S (fun _ => False) s.heap s.heap [] := va_S.rf
  have hT := hT.narrow (B := fun _ => False) (fun _ h => h.elim)
  refine lv_iload_n hx hb dX2_hand_0 rfl (lv_at hl 1 rfl) ?_
  refine q_cvR (va_runS (rm := { frames := 0, cells := 0, slots := 0, locals := 0 }) (As := [.int (nI k)]) (rest := []) ⟨hx, hb, hml, hown, hts⟩ (m2_requirePot_ok l D k hk) (va_cwS 1 hts gX2_hand_X2_requirePot rfl rfl rfl (by decide +kernel) ⟨Nat.le_of_ble_eq_true rfl, Nat.le_of_ble_eq_true rfl⟩) (q_pS (hP.sub (ws' := []) [] rfl) (hK.sub [] rfl)) rfl rfl hl.1 rfl (lv_room (Nat.le_of_ble_eq_true rfl)) dX2_hand_1 ⟨Nat.le_of_ble_eq_true rfl, Nat.le_of_ble_eq_true rfl⟩) hP hS (fun H locs hP hS => ?_)
  refine lv_iload_n hx hb dX2_hand_4 rfl (lv_at hl 2 rfl) ?_
  refine lv_iconst (v := nI 0) hx hb dX2_hand_5 (by decide) ?_
  refine lv_iconst (v := nI 1) hx hb dX2_hand_6 (by decide) ?_
  exact q_outv (vx_runS (rm := { frames := 6, cells := 1, slots := 6, locals := 82 }) (As := [.int xn, .int (nI 0), .int (nI 1)]) (rest := []) ⟨hx, hb, hml, hown, hts⟩ (m2_requireWithin_x l hl9 D (fun _ => False) st xn (nI 0) (nI 1) h1q) (va_cwS 3 hts gX2_hand_X2_requireWithin rfl rfl rfl (by decide +kernel) ⟨Nat.le_of_ble_eq_true rfl, Nat.le_of_ble_eq_true rfl⟩) (q_pSX (hP.sub (ws' := []) [] rfl) (hK.sub [] rfl) hT hS (fun _ h => h.elim)) rfl rfl hl.1 rfl (lv_room (Nat.le_of_ble_eq_true rfl)) dX2_hand_7 ⟨Nat.le_of_ble_eq_true rfl, Nat.le_of_ble_eq_true rfl⟩) hS hP hnt hlk (Nat.le_of_ble_eq_true rfl) (Nat.le_of_ble_eq_true rfl)
set_option maxHeartbeats 4000000 in
set_option maxRecDepth 100000 in
theorem m2_round_ok (l : Launch) (D : va_G) (z : Ad) (ol sn hs : Nat) (hol : ol < 6) (hsn : sn ≤ 6) (T S Y : Nat → Int32) (G : Nat → Nat → Int32) (len : Nat) (P : PS) (ch : Nat → Nat) (B : Nat) (hI : Inv B T) (k : Nat) (hk : k < 3) (hB : B + 1600 < 2000000000) (hD : va_D (fun _ => True) (wX z ol sn hs T S Y G len P ch)) : q_I l yX2_round wsX2_round { frames := 5, cells := 0, slots := 0, locals := 118 } [.ref (z.o), .int (nI k)] (q_bp D (wX z ol sn hs T S Y G len P ch) (tyX z)) (fun v => v = nI (g_rc 8 T k)) (fun H => va_P D vwCl (wX z ((so ol sn)) ((svn sn)) hs (g_rn 8 T k) S Y (updG G (sr ol sn) T) len P ch) H) (AX z) 0 0 := by
  refine q_goI (cc := cX2_round) (maxL := 2) (ty := .int) (lv0 := [(0, .ref (z.o)), (1, .int (nI k))]) (by decide) rfl (Nat.le_of_ble_eq_true rfl) rfl ?_
  intro p e s m args below meth c Q ls hx hb hml hts hown hP hK hl hret
  have hi2 : ∀ w ∈ wsX20, w ∈ wsX2_round := by decide +kernel
  have hfl12 := hts (.fieldLink RX2 12 "WhisperedPots" "table" "LWhisperedPots$Table;") (by decide +kernel)
  have hS : va_S (AX z) s.heap s.heap [] := va_S.rf
  refine lv_iload_n hx hb dX2_round_0 rfl (lv_at hl 1 rfl) ?_
  refine q_cvR (va_runS (rm := { frames := 0, cells := 0, slots := 0, locals := 0 }) (As := [.int (nI k)]) (rest := []) ⟨hx, hb, hml, hown, hts⟩ (m2_requirePot_ok l D k hk) (va_cwS 1 hts gX2_round_X2_requirePot rfl rfl rfl (by decide +kernel) ⟨Nat.le_of_ble_eq_true rfl, Nat.le_of_ble_eq_true rfl⟩) (q_pS (hP.sub (ws' := []) [] rfl) (hK.sub [] rfl)) rfl rfl hl.1 rfl (lv_room (Nat.le_of_ble_eq_true rfl)) dX2_round_1 ⟨Nat.le_of_ble_eq_true rfl, Nat.le_of_ble_eq_true rfl⟩) hP hS (fun H locs hP hS => ?_)
  refine lv_aload_n hx hb dX2_round_4 rfl (lv_at hl 0 rfl) ?_
  refine q_cvF (BH := fun H => va_P D vwCl (wX z ((so ol sn)) ((svn sn)) hs T S Y (updG G (sr ol sn) T) len P ch) H) (va_runV (rm := { frames := 2, cells := 0, slots := 0, locals := 81 }) (As := []) (rest := []) ⟨hx, hb, hml, hown, hts⟩ (m2_save l D z ol sn hs hol hsn T S Y G len P ch hD) (cwV 0 hts gX2_round_X2_saveState rfl rfl rfl (by decide +kernel) ⟨Nat.le_of_ble_eq_true rfl, Nat.le_of_ble_eq_true rfl⟩) (q_pV (ci := 2) (q0 := 0) hP hK rfl rfl) rfl rfl hl.1 rfl (lv_room (Nat.le_of_ble_eq_true rfl)) dX2_round_5 ⟨Nat.le_of_ble_eq_true rfl, Nat.le_of_ble_eq_true rfl⟩) (fun _ h => h) hS (fun _ h => h) (fun H locs hP hS => ?_)
  have hD := q_D2 (ws' := wX z ((so ol sn)) ((svn sn)) hs T S Y (updG G (sr ol sn) T) len P ch) hD rfl
  refine lv_aload_n hx hb dX2_round_8 rfl (lv_at hl 0 rfl) ?_
  refine va_get (D := D) (ci := 2) (v := .ref (z.ad 0)) (C := RX2) (T := TX2) (N := 8) hx hb hts hi2 hown hK hP 0 rfl rfl 0 (by decide) hfl12 (fun _ h9 => h9) rfl dX2_round_9 ?_
  refine lv_iload_n hx hb dX2_round_12 rfl (lv_at hl 1 rfl) ?_
  refine q_ci1 (i := 10) (ws' := wX z ((so ol sn)) ((svn sn)) hs (g_rn 8 T k) S Y (updG G (sr ol sn) T) len P ch) (va_runV (rm := { frames := 4, cells := 0, slots := 0, locals := 93 }) (As := [.int (nI k)]) (rest := []) ⟨hx, hb, hml, hown, hts⟩ (m1_goRound l D z.cI (z.ad 0) (z.rd 0) k T hk (rn_ok hk 8 hI (by omega)) (wX_ne hD)) (cwV 1 hts gX2_round_X1_goRound rfl rfl rfl (by decide +kernel) ⟨Nat.le_of_ble_eq_true rfl, Nat.le_of_ble_eq_true rfl⟩) (q_pV (ci := 1) (q0 := 0) (hP.sub (ws' := wT (z.ad 0) (z.rd 0) z.cI T) [1, 10] rfl) (hK.sub [0] rfl) rfl rfl) rfl rfl hl.1 rfl (lv_room (Nat.le_of_ble_eq_true rfl)) dX2_round_13 ⟨Nat.le_of_ble_eq_true rfl, Nat.le_of_ble_eq_true rfl⟩) hP hD hS rfl (AX_i 10 rfl) rfl (fun x1 H locs e1 hP hD hS => ?_)
  obtain ⟨f1, hf1⟩ : ∃ z, z = g_rn 8 T k := ⟨_, rfl⟩
  rw [← hf1] at hP hD
  have e1 : x1 = nI (g_rc 8 T k) := e1
  subst e1 hf1
  refine hret _ _ _ _ _ rfl ?_ hP hS dX2_round_16
  rfl
set_option maxHeartbeats 4000000 in
set_option maxRecDepth 100000 in
theorem m2_round_1 (l : Launch) (hl9 : l.stackTraces = false) (D : va_G) (st : Nat → Nat) (z : Ad) (ol sn hs : Nat) (T S Y : Nat → Int32) (G : Nat → Nat → Int32) (len : Nat) (P : PS) (ch : Nat → Nat) (B : Nat) (hI : Inv B T) (x0 : Int32) (h0q : q_in (nI 0) (nI 2) x0 = false) : q_Xi l yX2_round wsX2_round { frames := 7, cells := 1, slots := 6, locals := 102 } [.ref (z.o), .int x0] st D (wX z ol sn hs T S Y G len P ch) (tyX z) (AX z) xI.cls (wX z ol sn hs T S Y G len P ch) (fun _ => False) := by
  refine q_goX (cc := cX2_round) (maxL := 2) (lv0 := [(0, .ref (z.o)), (1, .int x0)]) (by decide) rfl (Nat.le_of_ble_eq_true rfl) rfl ?_
  intro p e s m args below meth c ls hx hb hml hts hown hP hK hl hT hnt hlk
  have hi2 : ∀ w ∈ wsX20, w ∈ wsX2_round := by decide +kernel
  have hfl12 := hts (.fieldLink RX2 12 "WhisperedPots" "table" "LWhisperedPots$Table;") (by decide +kernel)
  have hS : va_S (fun _ => False) s.heap s.heap [] := va_S.rf
  have hT := hT.narrow (B := fun _ => False) (fun _ h => h.elim)
  refine lv_iload_n hx hb dX2_round_0 rfl (lv_at hl 1 rfl) ?_
  exact q_outv (vx_runS (rm := { frames := 6, cells := 1, slots := 6, locals := 82 }) (As := [.int x0]) (rest := []) ⟨hx, hb, hml, hown, hts⟩ (m2_requirePot_x l hl9 D (fun _ => False) st x0 h0q) (va_cwS 1 hts gX2_round_X2_requirePot rfl rfl rfl (by decide +kernel) ⟨Nat.le_of_ble_eq_true rfl, Nat.le_of_ble_eq_true rfl⟩) (q_pSX (hP.sub (ws' := []) [] rfl) (hK.sub [] rfl) hT hS (fun _ h => h.elim)) rfl rfl hl.1 rfl (lv_room (Nat.le_of_ble_eq_true rfl)) dX2_round_1 ⟨Nat.le_of_ble_eq_true rfl, Nat.le_of_ble_eq_true rfl⟩) hS hP hnt hlk (Nat.le_of_ble_eq_true rfl) (Nat.le_of_ble_eq_true rfl)

