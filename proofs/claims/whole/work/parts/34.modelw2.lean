theorem m3_save (l : Launch) (D : va_G) (cI : ClassId) (o ps pa pv pn px : Nat) (f fa fv fn fx : Nat → Int32) (ns : Nat) (hn : ns ≤ 6) (th kp ln sp wr le wh te : Int32) (dg : Int64) (hD : va_D (fun _ => True) (wR o ps pa pv pn px cI (oM ps pa pv pn px th (nI ns) kp ln sp wr le wh te dg) (rr f) fa fv fn fx)) : q_V l yX3_save wsX3_save { frames := 0, cells := 0, slots := 0, locals := 0 } [.ref o] (q_bp D (wR o ps pa pv pn px cI (oM ps pa pv pn px th (nI ns) kp ln sp wr le wh te dg) (rr f) fa fv fn fx) [(cI, .int)]) (fun H => va_P D vwCl (wR o ps pa pv pn px cI (oM ps pa pv pn px th (nI (svn ns)) kp ln sp wr le wh te dg) (rr f) fa (svf ns fv (rr f)) fn fx) H) (AM o ps pa pv pn px) 0 0 := by
  by_cases h : ns = 6
  · subst h
    exact m3_save6 l D cI o ps pa pv pn px f fa fv fn fx th kp ln sp wr le wh te dg hD
  · have e1 : svn ns = 1 + ns := by unfold svn; rw [if_neg h, Nat.add_comm]
    have e2 : svf ns fv (rr f) = cp (138 * ns) 138 (rr f) fv := by unfold svf; rw [if_neg h]
    rw [e1, e2]
    exact m3_saven l D cI o ps pa pv pn px f fa fv fn fx ns (by omega) th kp ln sp wr le wh te dg hD
set_option maxHeartbeats 4000000 in
set_option maxRecDepth 100000 in
theorem m3_like_ok (l : Launch) (D : va_G) (cI : ClassId) (o ps pa pv pn px : Nat) (f fa fv fn fx : Nat → Int32) (B : Nat) (hI : Inv B f) (ns : Nat) (hn : ns ≤ 6) (th kp ln sp wr le wh te : Int32) (dg : Int64) (g : Nat) (hg : g < 8) (xt xr xl : Int32) (h1q : q_in (nI 1) (nI 20) xt = true) (h2q : q_in (nI 0) (nI 10) xr = true) (h3q : q_in (-20) (nI 20) xl = true) (hD : va_D (fun _ => True) (wR o ps pa pv pn px cI (oM ps pa pv pn px th (nI ns) kp ln sp wr le wh te dg) (rr f) fa fv fn fx)) : q_I l yX3_like wsX3_like { frames := 2, cells := 0, slots := 0, locals := 42 } [.ref o, .int (nI g), .int xt, .int xr, .int xl] (q_bp D (wR o ps pa pv pn px cI (oM ps pa pv pn px th (nI ns) kp ln sp wr le wh te dg) (rr f) fa fv fn fx) [(cI, .int)]) (fun v => v = f (16 + g)) (fun H => va_P D vwCl (wR o ps pa pv pn px cI (oM ps pa pv pn px (nI 0) (nI ((svn ns))) kp ln sp wr le wh te dg) (rr (g_like f g xt xr xl)) fa (svf ns fv (rr f)) fn fx) H) (AM o ps pa pv pn px) 0 0 := by
  refine q_goI (cc := cX3_like) (maxL := 7) (ty := .int) (lv0 := [(0, .ref o), (1, .int (nI g)), (2, .int xt), (3, .int xr), (4, .int xl)]) (by decide) rfl (Nat.le_of_ble_eq_true rfl) rfl ?_
  intro p e s m args below meth c Q ls hx hb hml hts hown hP hK hl hret
  have hi3 : ∀ w ∈ wsX30, w ∈ wsX3_like := by decide +kernel
  have hfl7 := hts (.fieldLink RX3 7 "WhisperedPotsModel" "s" "[I") (by decide +kernel)
  have hS : va_S (AM o ps pa pv pn px) s.heap s.heap [] := va_S.rf
  have hne : o ≠ ps := fun h => absurd (hD.1 0 1 _ _ rfl rfl h) (by decide)
  refine lv_iload_n hx hb dX3_like_0 rfl (lv_at hl 2 rfl) ?_
  refine lv_iconst (v := nI 1) hx hb dX3_like_1 (by decide) ?_
  refine lv_bipush (v := nI 20) hx hb dX3_like_2 (by decide) ?_
  refine q_ciR (va_runS (rm := { frames := 0, cells := 0, slots := 0, locals := 0 }) (As := [.int xt, .int (nI 1), .int (nI 20)]) (rest := []) ⟨hx, hb, hml, hown, hts⟩ (m3_in l D xt (nI 1) (nI 20)) (va_cwS 3 hts gX3_like_X3_in rfl rfl rfl (by decide +kernel) ⟨Nat.le_of_ble_eq_true rfl, Nat.le_of_ble_eq_true rfl⟩) (q_pS (hP.sub [] rfl) (hK.sub [] rfl)) rfl rfl hl.1 rfl (lv_room (Nat.le_of_ble_eq_true rfl)) dX3_like_4 ⟨Nat.le_of_ble_eq_true rfl, Nat.le_of_ble_eq_true rfl⟩) hP hS (fun x1 H locs e1 hP hS => ?_)
  have e1 : x1 = nI 1 := by
    have h9 : x1 = p_b (q_in (nI 1) (nI 20) xt) := e1
    rw [h9, (h1q : q_in (nI 1) (nI 20) xt = true)]
    rfl
  subst e1
  refine lv_if_eq (tgt := 36) hx hb dX3_like_7 (by decide) (fun c2 => absurd c2 (by decide)) (fun c2 => ?_)
  refine lv_iload_n hx hb dX3_like_10 rfl (lv_at hl 3 rfl) ?_
  refine lv_iconst (v := nI 0) hx hb dX3_like_11 (by decide) ?_
  refine lv_bipush (v := nI 10) hx hb dX3_like_12 (by decide) ?_
  refine q_ciR (va_runS (rm := { frames := 0, cells := 0, slots := 0, locals := 0 }) (As := [.int xr, .int (nI 0), .int (nI 10)]) (rest := []) ⟨hx, hb, hml, hown, hts⟩ (m3_in l D xr (nI 0) (nI 10)) (va_cwS 3 hts gX3_like_X3_in rfl rfl rfl (by decide +kernel) ⟨Nat.le_of_ble_eq_true rfl, Nat.le_of_ble_eq_true rfl⟩) (q_pS (hP.sub [] rfl) (hK.sub [] rfl)) rfl rfl hl.1 rfl (lv_room (Nat.le_of_ble_eq_true rfl)) dX3_like_14 ⟨Nat.le_of_ble_eq_true rfl, Nat.le_of_ble_eq_true rfl⟩) hP hS (fun x3 H locs e3 hP hS => ?_)
  have e3 : x3 = nI 1 := by
    have h9 : x3 = p_b (q_in (nI 0) (nI 10) xr) := e3
    rw [h9, (h2q : q_in (nI 0) (nI 10) xr = true)]
    rfl
  subst e3
  refine lv_if_eq (tgt := 36) hx hb dX3_like_17 (by decide) (fun c4 => absurd c4 (by decide)) (fun c4 => ?_)
  refine lv_iload hx hb dX3_like_20 (lv_at hl 4 rfl) ?_
  refine lv_bipush (v := (-20)) hx hb dX3_like_22 (by decide) ?_
  refine lv_bipush (v := nI 20) hx hb dX3_like_24 (by decide) ?_
  refine q_ciR (va_runS (rm := { frames := 0, cells := 0, slots := 0, locals := 0 }) (As := [.int xl, .int (-20), .int (nI 20)]) (rest := []) ⟨hx, hb, hml, hown, hts⟩ (m3_in l D xl (-20) (nI 20)) (va_cwS 3 hts gX3_like_X3_in rfl rfl rfl (by decide +kernel) ⟨Nat.le_of_ble_eq_true rfl, Nat.le_of_ble_eq_true rfl⟩) (q_pS (hP.sub [] rfl) (hK.sub [] rfl)) rfl rfl hl.1 rfl (lv_room (Nat.le_of_ble_eq_true rfl)) dX3_like_26 ⟨Nat.le_of_ble_eq_true rfl, Nat.le_of_ble_eq_true rfl⟩) hP hS (fun x5 H locs e5 hP hS => ?_)
  have e5 : x5 = nI 1 := by
    have h9 : x5 = p_b (q_in (-20) (nI 20) xl) := e5
    rw [h9, (h3q : q_in (-20) (nI 20) xl = true)]
    rfl
  subst e5
  refine lv_if_eq (tgt := 36) hx hb dX3_like_29 (by decide) (fun c6 => absurd c6 (by decide)) (fun c6 => ?_)
  refine lv_iconst (v := nI 1) hx hb dX3_like_32 (by decide) ?_
  refine lv_goto (tgt := 37) hx hb dX3_like_33 (by decide) ?_
  refine lv_istore (lv' := [(5, .int (nI 1)), (0, .ref o), (1, .int (nI g)), (2, .int xt), (3, .int xr), (4, .int xl)]) hx hb dX3_like_37 hl (by decide) rfl (fun ls hl => ?_)
  refine lv_aload_n hx hb dX3_like_39 rfl (lv_at hl 1 rfl) ?_
  refine lv_iload_n hx hb dX3_like_40 rfl (lv_at hl 2 rfl) ?_
  refine q_ciR (va_runS (rm := { frames := 1, cells := 0, slots := 0, locals := 22 }) (As := [.int (nI g)]) (rest := [.ref o]) ⟨hx, hb, hml, hown, hts⟩ (m3_isGuest l D (nI g)) (va_cwS 1 hts gX3_like_X3_isGuest rfl rfl rfl (by decide +kernel) ⟨Nat.le_of_ble_eq_true rfl, Nat.le_of_ble_eq_true rfl⟩) (q_pS (hP.sub [] rfl) (hK.sub [] rfl)) rfl rfl hl.1 rfl (lv_room (Nat.le_of_ble_eq_true rfl)) dX3_like_41 ⟨Nat.le_of_ble_eq_true rfl, Nat.le_of_ble_eq_true rfl⟩) hP hS (fun x7 H locs e7 hP hS => ?_)
  have e7 : x7 = nI 1 := by
    have h9 : x7 = p_b (q_in (nI 0) (nI 7) (nI g)) := e7
    rw [h9, ((q_inN (Nat.zero_le _) (by omega) (by decide)) : q_in (nI 0) (nI 7) (nI g) = true)]
    rfl
  subst e7
  refine lv_if_ne (tgt := 51) hx hb dX3_like_44 (by decide) (fun c8 => ?_) (fun c8 => absurd c8 (by decide))
  refine lv_iload hx hb dX3_like_51 (lv_at hl 0 rfl) ?_
  refine lv_if_eq (tgt := 60) hx hb dX3_like_53 (by decide) (fun c9 => absurd c9 (by decide)) (fun c9 => ?_)
  refine lv_iconst (v := nI 0) hx hb dX3_like_56 (by decide) ?_
  refine lv_goto (tgt := 61) hx hb dX3_like_57 (by decide) ?_
  refine q_ci1 (i := 0) (ws' := wR o ps pa pv pn px cI (oM ps pa pv pn px (nI 0) (nI ns) kp ln sp wr le wh te dg) (rr f) fa fv fn fx) (va_runV (rm := { frames := 0, cells := 0, slots := 0, locals := 0 }) (As := [.int (nI 0)]) (rest := []) ⟨hx, hb, hml, hown, hts⟩ (m3_holds0 l D cI o (oM ps pa pv pn px th (nI ns) kp ln sp wr le wh te dg) (Nat.le_of_ble_eq_true rfl)) (cwV 1 hts gX3_like_X3_holds rfl rfl rfl (by decide +kernel) ⟨Nat.le_of_ble_eq_true rfl, Nat.le_of_ble_eq_true rfl⟩) (q_pV (ci := 3) (q0 := 0) (hP.sub [0] rfl) (hK.sub [] rfl) rfl rfl) rfl rfl hl.1 rfl (lv_room (Nat.le_of_ble_eq_true rfl)) dX3_like_61 ⟨Nat.le_of_ble_eq_true rfl, Nat.le_of_ble_eq_true rfl⟩) hP hD hS rfl (Or.inl rfl) rfl (fun x10 H locs e10 hP hD hS => ?_)
  have e10 : x10 = nI 1 := e10
  subst e10
  refine lv_if_ne (tgt := 69) hx hb dX3_like_64 (by decide) (fun c11 => ?_) (fun c11 => absurd c11 (by decide))
  refine lv_aload_n hx hb dX3_like_69 rfl (lv_at hl 1 rfl) ?_
  refine q_cvF (BH := fun H => va_P D vwCl (wR o ps pa pv pn px cI (oM ps pa pv pn px (nI 0) (nI ((svn ns))) kp ln sp wr le wh te dg) (rr f) fa (svf ns fv (rr f)) fn fx) H) (va_runV (rm := { frames := 0, cells := 0, slots := 0, locals := 0 }) (As := []) (rest := []) ⟨hx, hb, hml, hown, hts⟩ (m3_save l D cI o ps pa pv pn px f fa fv fn fx ns hn (nI 0) kp ln sp wr le wh te dg hD) (cwV 0 hts gX3_like_X3_save rfl rfl rfl (by decide +kernel) ⟨Nat.le_of_ble_eq_true rfl, Nat.le_of_ble_eq_true rfl⟩) (q_pV (ci := 3) (q0 := 0) hP hK rfl rfl) rfl rfl hl.1 rfl (lv_room (Nat.le_of_ble_eq_true rfl)) dX3_like_70 ⟨Nat.le_of_ble_eq_true rfl, Nat.le_of_ble_eq_true rfl⟩) (fun _ h => h) hS (fun _ h => h) (fun H locs hP hS => ?_)
  have hD := q_D2 (ws' := wR o ps pa pv pn px cI (oM ps pa pv pn px (nI 0) (nI ((svn ns))) kp ln sp wr le wh te dg) (rr f) fa (svf ns fv (rr f)) fn fx) hD rfl
  refine lv_aload_n hx hb dX3_like_73 rfl (lv_at hl 1 rfl) ?_
  refine va_get (D := D) (ci := 3) (v := .ref ps) (C := RX3) (T := TX3) (N := 15) hx hb hts hi3 hown hK hP 0 rfl rfl 1 (by decide) hfl7 (fun _ h9 => h9) rfl dX3_like_74 ?_
  refine lv_iload_n hx hb dX3_like_77 rfl (lv_at hl 2 rfl) ?_
  refine lv_iconst (v := nI 2) hx hb dX3_like_78 (by decide) ?_
  refine q_ciR (va_runS (rm := { frames := 0, cells := 0, slots := 0, locals := 0 }) (As := [.int (nI g), .int (nI 2)]) (rest := [.ref ps]) ⟨hx, hb, hml, hown, hts⟩ (m3_of l D g 2 (by omega) (by omega)) (va_cwS 2 hts gX3_like_X3_of rfl rfl rfl (by decide +kernel) ⟨Nat.le_of_ble_eq_true rfl, Nat.le_of_ble_eq_true rfl⟩) (q_pS (hP.sub [] rfl) (hK.sub [] rfl)) rfl rfl hl.1 rfl (lv_room (Nat.le_of_ble_eq_true rfl)) dX3_like_79 ⟨Nat.le_of_ble_eq_true rfl, Nat.le_of_ble_eq_true rfl⟩) hP hS (fun x13 H locs e13 hP hS => ?_)
  have e13 : x13 = (nI (2 + 9 * g)) := Eq.trans e13 (congrArg nI (by omega))
  subst e13
  refine q_ld hx hb hK hP 1 0 rfl rfl (j := (2 + 9 * g)) (v := f (16 + g)) (by omega) (by omega) (rr_at (pm_g2 (by omega))) dX3_like_82 ?_
  refine lv_topi (fun x14 e14 => ?_)
  refine lv_istore (lv' := [(6, .int x14), (5, .int (nI 1)), (0, .ref o), (1, .int (nI g)), (2, .int xt), (3, .int xr), (4, .int xl)]) hx hb dX3_like_83 hl (by decide) rfl (fun ls hl => ?_)
  refine lv_aload_n hx hb dX3_like_85 rfl (lv_at hl 2 rfl) ?_
  refine va_get (D := D) (ci := 3) (v := .ref ps) (C := RX3) (T := TX3) (N := 15) hx hb hts hi3 hown hK hP 0 rfl rfl 1 (by decide) hfl7 (fun _ h9 => h9) rfl dX3_like_86 ?_
  refine lv_iload_n hx hb dX3_like_89 rfl (lv_at hl 3 rfl) ?_
  refine lv_iconst (v := nI 2) hx hb dX3_like_90 (by decide) ?_
  refine q_ciR (va_runS (rm := { frames := 0, cells := 0, slots := 0, locals := 0 }) (As := [.int (nI g), .int (nI 2)]) (rest := [.ref ps]) ⟨hx, hb, hml, hown, hts⟩ (m3_of l D g 2 (by omega) (by omega)) (va_cwS 2 hts gX3_like_X3_of rfl rfl rfl (by decide +kernel) ⟨Nat.le_of_ble_eq_true rfl, Nat.le_of_ble_eq_true rfl⟩) (q_pS (hP.sub [] rfl) (hK.sub [] rfl)) rfl rfl hl.1 rfl (lv_room (Nat.le_of_ble_eq_true rfl)) dX3_like_91 ⟨Nat.le_of_ble_eq_true rfl, Nat.le_of_ble_eq_true rfl⟩) hP hS (fun x15 H locs e15 hP hS => ?_)
  have e15 : x15 = (nI (2 + 9 * g)) := Eq.trans e15 (congrArg nI (by omega))
  subst e15
  refine lv_iload_n hx hb dX3_like_94 rfl (lv_at hl 4 rfl) ?_
  refine q_stR hx hb hK hP hD hS 1 0 rfl rfl (Or.inr (Or.inl rfl)) (j := (2 + 9 * g)) (i := (16 + g)) (by omega) (by omega) (pm_g2 (by omega)) (fun g => wR o ps pa pv pn px cI (oM ps pa pv pn px (nI 0) (nI ((svn ns))) kp ln sp wr le wh te dg) (rr g) fa (svf ns fv (rr f)) fn fx) (fun _ => rfl) dX3_like_95 (fun H locs f16 hf16 hP hD hS => ?_)
  refine lv_aload_n hx hb dX3_like_96 rfl (lv_at hl 2 rfl) ?_
  refine va_get (D := D) (ci := 3) (v := .ref ps) (C := RX3) (T := TX3) (N := 15) hx hb hts hi3 hown hK hP 0 rfl rfl 1 (by decide) hfl7 (fun _ h9 => h9) rfl dX3_like_97 ?_
  refine lv_iload_n hx hb dX3_like_100 rfl (lv_at hl 3 rfl) ?_
  refine lv_iconst (v := nI 3) hx hb dX3_like_101 (by decide) ?_
  refine q_ciR (va_runS (rm := { frames := 0, cells := 0, slots := 0, locals := 0 }) (As := [.int (nI g), .int (nI 3)]) (rest := [.ref ps]) ⟨hx, hb, hml, hown, hts⟩ (m3_of l D g 3 (by omega) (by omega)) (va_cwS 2 hts gX3_like_X3_of rfl rfl rfl (by decide +kernel) ⟨Nat.le_of_ble_eq_true rfl, Nat.le_of_ble_eq_true rfl⟩) (q_pS (hP.sub [] rfl) (hK.sub [] rfl)) rfl rfl hl.1 rfl (lv_room (Nat.le_of_ble_eq_true rfl)) dX3_like_102 ⟨Nat.le_of_ble_eq_true rfl, Nat.le_of_ble_eq_true rfl⟩) hP hS (fun x17 H locs e17 hP hS => ?_)
  have e17 : x17 = (nI (3 + 9 * g)) := Eq.trans e17 (congrArg nI (by omega))
  subst e17
  refine lv_iload_n hx hb dX3_like_105 rfl (lv_at hl 5 rfl) ?_
  refine q_stR hx hb hK hP hD hS 1 0 rfl rfl (Or.inr (Or.inl rfl)) (j := (3 + 9 * g)) (i := (24 + g)) (by omega) (by omega) (pm_g3 (by omega)) (fun g => wR o ps pa pv pn px cI (oM ps pa pv pn px (nI 0) (nI ((svn ns))) kp ln sp wr le wh te dg) (rr g) fa (svf ns fv (rr f)) fn fx) (fun _ => rfl) dX3_like_106 (fun H locs f18 hf18 hP hD hS => ?_)
  refine lv_aload_n hx hb dX3_like_107 rfl (lv_at hl 2 rfl) ?_
  refine va_get (D := D) (ci := 3) (v := .ref ps) (C := RX3) (T := TX3) (N := 15) hx hb hts hi3 hown hK hP 0 rfl rfl 1 (by decide) hfl7 (fun _ h9 => h9) rfl dX3_like_108 ?_
  refine lv_iload_n hx hb dX3_like_111 rfl (lv_at hl 3 rfl) ?_
  refine lv_iconst (v := nI 4) hx hb dX3_like_112 (by decide) ?_
  refine q_ciR (va_runS (rm := { frames := 0, cells := 0, slots := 0, locals := 0 }) (As := [.int (nI g), .int (nI 4)]) (rest := [.ref ps]) ⟨hx, hb, hml, hown, hts⟩ (m3_of l D g 4 (by omega) (by omega)) (va_cwS 2 hts gX3_like_X3_of rfl rfl rfl (by decide +kernel) ⟨Nat.le_of_ble_eq_true rfl, Nat.le_of_ble_eq_true rfl⟩) (q_pS (hP.sub [] rfl) (hK.sub [] rfl)) rfl rfl hl.1 rfl (lv_room (Nat.le_of_ble_eq_true rfl)) dX3_like_113 ⟨Nat.le_of_ble_eq_true rfl, Nat.le_of_ble_eq_true rfl⟩) hP hS (fun x19 H locs e19 hP hS => ?_)
  have e19 : x19 = (nI (4 + 9 * g)) := Eq.trans e19 (congrArg nI (by omega))
  subst e19
  refine lv_iload hx hb dX3_like_116 (lv_at hl 6 rfl) ?_
  refine q_stR hx hb hK hP hD hS 1 0 rfl rfl (Or.inr (Or.inl rfl)) (j := (4 + 9 * g)) (i := (32 + g)) (by omega) (by omega) (pm_g4 (by omega)) (fun g => wR o ps pa pv pn px cI (oM ps pa pv pn px (nI 0) (nI ((svn ns))) kp ln sp wr le wh te dg) (rr g) fa (svf ns fv (rr f)) fn fx) (fun _ => rfl) dX3_like_118 (fun H locs f20 hf20 hP hD hS => ?_)
  refine lv_iload hx hb dX3_like_119 (lv_at hl 0 rfl) ?_
  have hE : f20 = g_like f g xt xr xl := by (subst hf20 hf18 hf16 e14; rfl)
  rw [hE] at hP
  refine hret _ _ _ _ _ rfl ?_ (hP) hS dX3_like_121
  subst hf20 hf18 hf16 e14
  rfl
set_option maxHeartbeats 4000000 in
set_option maxRecDepth 100000 in
theorem m3_like_2a (l : Launch) (D : va_G) (cI : ClassId) (o ps pa pv pn px : Nat) (f fa fv fn fx : Nat → Int32) (B : Nat) (hI : Inv B f) (ns : Nat) (hn : ns ≤ 6) (th kp ln sp wr le wh te : Int32) (dg : Int64) (g : Nat) (hg : g < 8) (xt xr xl : Int32) (h1q : q_in (nI 1) (nI 20) xt = false) (hD : va_D (fun _ => True) (wR o ps pa pv pn px cI (oM ps pa pv pn px th (nI ns) kp ln sp wr le wh te dg) (rr f) fa fv fn fx)) : q_I l yX3_like wsX3_like { frames := 2, cells := 0, slots := 0, locals := 42 } [.ref o, .int (nI g), .int xt, .int xr, .int xl] (q_bp D (wR o ps pa pv pn px cI (oM ps pa pv pn px th (nI ns) kp ln sp wr le wh te dg) (rr f) fa fv fn fx) [(cI, .int)]) (fun v => True) (fun H => va_P D vwCl (wR o ps pa pv pn px cI (oM ps pa pv pn px (nI 2) (nI ns) kp ln sp wr le wh te dg) (rr f) fa fv fn fx) H) (AM o ps pa pv pn px) 0 0 := by
  refine q_goI (cc := cX3_like) (maxL := 7) (ty := .int) (lv0 := [(0, .ref o), (1, .int (nI g)), (2, .int xt), (3, .int xr), (4, .int xl)]) (by decide) rfl (Nat.le_of_ble_eq_true rfl) rfl ?_
  intro p e s m args below meth c Q ls hx hb hml hts hown hP hK hl hret
  have hi3 : ∀ w ∈ wsX30, w ∈ wsX3_like := by decide +kernel
  have hfl7 := hts (.fieldLink RX3 7 "WhisperedPotsModel" "s" "[I") (by decide +kernel)
  have hS : va_S (AM o ps pa pv pn px) s.heap s.heap [] := va_S.rf
  have hne : o ≠ ps := fun h => absurd (hD.1 0 1 _ _ rfl rfl h) (by decide)
  refine lv_iload_n hx hb dX3_like_0 rfl (lv_at hl 2 rfl) ?_
  refine lv_iconst (v := nI 1) hx hb dX3_like_1 (by decide) ?_
  refine lv_bipush (v := nI 20) hx hb dX3_like_2 (by decide) ?_
  refine q_ciR (va_runS (rm := { frames := 0, cells := 0, slots := 0, locals := 0 }) (As := [.int xt, .int (nI 1), .int (nI 20)]) (rest := []) ⟨hx, hb, hml, hown, hts⟩ (m3_in l D xt (nI 1) (nI 20)) (va_cwS 3 hts gX3_like_X3_in rfl rfl rfl (by decide +kernel) ⟨Nat.le_of_ble_eq_true rfl, Nat.le_of_ble_eq_true rfl⟩) (q_pS (hP.sub [] rfl) (hK.sub [] rfl)) rfl rfl hl.1 rfl (lv_room (Nat.le_of_ble_eq_true rfl)) dX3_like_4 ⟨Nat.le_of_ble_eq_true rfl, Nat.le_of_ble_eq_true rfl⟩) hP hS (fun x1 H locs e1 hP hS => ?_)
  have e1 : x1 = nI 0 := by
    have h9 : x1 = p_b (q_in (nI 1) (nI 20) xt) := e1
    rw [h9, (h1q : q_in (nI 1) (nI 20) xt = false)]
    rfl
  subst e1
  refine lv_if_eq (tgt := 36) hx hb dX3_like_7 (by decide) (fun c2 => ?_) (fun c2 => absurd c2 (by decide))
  refine lv_iconst (v := nI 0) hx hb dX3_like_36 (by decide) ?_
  refine lv_istore (lv' := [(5, .int (nI 0)), (0, .ref o), (1, .int (nI g)), (2, .int xt), (3, .int xr), (4, .int xl)]) hx hb dX3_like_37 hl (by decide) rfl (fun ls hl => ?_)
  refine lv_aload_n hx hb dX3_like_39 rfl (lv_at hl 1 rfl) ?_
  refine lv_iload_n hx hb dX3_like_40 rfl (lv_at hl 2 rfl) ?_
  refine q_ciR (va_runS (rm := { frames := 1, cells := 0, slots := 0, locals := 22 }) (As := [.int (nI g)]) (rest := [.ref o]) ⟨hx, hb, hml, hown, hts⟩ (m3_isGuest l D (nI g)) (va_cwS 1 hts gX3_like_X3_isGuest rfl rfl rfl (by decide +kernel) ⟨Nat.le_of_ble_eq_true rfl, Nat.le_of_ble_eq_true rfl⟩) (q_pS (hP.sub [] rfl) (hK.sub [] rfl)) rfl rfl hl.1 rfl (lv_room (Nat.le_of_ble_eq_true rfl)) dX3_like_41 ⟨Nat.le_of_ble_eq_true rfl, Nat.le_of_ble_eq_true rfl⟩) hP hS (fun x3 H locs e3 hP hS => ?_)
  have e3 : x3 = nI 1 := by
    have h9 : x3 = p_b (q_in (nI 0) (nI 7) (nI g)) := e3
    rw [h9, ((q_inN (Nat.zero_le _) (by omega) (by decide)) : q_in (nI 0) (nI 7) (nI g) = true)]
    rfl
  subst e3
  refine lv_if_ne (tgt := 51) hx hb dX3_like_44 (by decide) (fun c4 => ?_) (fun c4 => absurd c4 (by decide))
  refine lv_iload hx hb dX3_like_51 (lv_at hl 0 rfl) ?_
  refine lv_if_eq (tgt := 60) hx hb dX3_like_53 (by decide) (fun c5 => ?_) (fun c5 => absurd c5 (by decide))
  refine lv_iconst (v := nI 2) hx hb dX3_like_60 (by decide) ?_
  refine q_ci1 (i := 0) (ws' := wR o ps pa pv pn px cI (oM ps pa pv pn px (nI 2) (nI ns) kp ln sp wr le wh te dg) (rr f) fa fv fn fx) (va_runV (rm := { frames := 0, cells := 0, slots := 0, locals := 0 }) (As := [.int (nI 2)]) (rest := []) ⟨hx, hb, hml, hown, hts⟩ (m3_holds2 l D cI o (oM ps pa pv pn px th (nI ns) kp ln sp wr le wh te dg) (Nat.le_of_ble_eq_true rfl)) (cwV 1 hts gX3_like_X3_holds rfl rfl rfl (by decide +kernel) ⟨Nat.le_of_ble_eq_true rfl, Nat.le_of_ble_eq_true rfl⟩) (q_pV (ci := 3) (q0 := 0) (hP.sub [0] rfl) (hK.sub [] rfl) rfl rfl) rfl rfl hl.1 rfl (lv_room (Nat.le_of_ble_eq_true rfl)) dX3_like_61 ⟨Nat.le_of_ble_eq_true rfl, Nat.le_of_ble_eq_true rfl⟩) hP hD hS rfl (Or.inl rfl) rfl (fun x6 H locs e6 hP hD hS => ?_)
  have e6 : x6 = nI 0 := e6
  subst e6
  refine lv_if_ne (tgt := 69) hx hb dX3_like_64 (by decide) (fun c7 => absurd c7 (by decide)) (fun c7 => ?_)
  refine lv_iconst (v := nI 0) hx hb dX3_like_67 (by decide) ?_
  refine hret _ _ _ _ _ rfl ?_ (hP) hS dX3_like_68
  trivial
set_option maxHeartbeats 4000000 in
set_option maxRecDepth 100000 in
theorem m3_like_1a (l : Launch) (D : va_G) (cI : ClassId) (o ps pa pv pn px : Nat) (f fa fv fn fx : Nat → Int32) (B : Nat) (hI : Inv B f) (ns : Nat) (hn : ns ≤ 6) (th kp ln sp wr le wh te : Int32) (dg : Int64) (x0 xt xr xl : Int32) (h0q : q_in (nI 0) (nI 7) x0 = false) (h1q : q_in (nI 1) (nI 20) xt = false) (hD : va_D (fun _ => True) (wR o ps pa pv pn px cI (oM ps pa pv pn px th (nI ns) kp ln sp wr le wh te dg) (rr f) fa fv fn fx)) : q_I l yX3_like wsX3_like { frames := 2, cells := 0, slots := 0, locals := 42 } [.ref o, .int x0, .int xt, .int xr, .int xl] (q_bp D (wR o ps pa pv pn px cI (oM ps pa pv pn px th (nI ns) kp ln sp wr le wh te dg) (rr f) fa fv fn fx) [(cI, .int)]) (fun v => True) (fun H => va_P D vwCl (wR o ps pa pv pn px cI (oM ps pa pv pn px (nI 1) (nI ns) kp ln sp wr le wh te dg) (rr f) fa fv fn fx) H) (AM o ps pa pv pn px) 0 0 := by
  refine q_goI (cc := cX3_like) (maxL := 7) (ty := .int) (lv0 := [(0, .ref o), (1, .int x0), (2, .int xt), (3, .int xr), (4, .int xl)]) (by decide) rfl (Nat.le_of_ble_eq_true rfl) rfl ?_
  intro p e s m args below meth c Q ls hx hb hml hts hown hP hK hl hret
  have hi3 : ∀ w ∈ wsX30, w ∈ wsX3_like := by decide +kernel
  have hfl7 := hts (.fieldLink RX3 7 "WhisperedPotsModel" "s" "[I") (by decide +kernel)
  have hS : va_S (AM o ps pa pv pn px) s.heap s.heap [] := va_S.rf
  have hne : o ≠ ps := fun h => absurd (hD.1 0 1 _ _ rfl rfl h) (by decide)
  refine lv_iload_n hx hb dX3_like_0 rfl (lv_at hl 2 rfl) ?_
  refine lv_iconst (v := nI 1) hx hb dX3_like_1 (by decide) ?_
  refine lv_bipush (v := nI 20) hx hb dX3_like_2 (by decide) ?_
  refine q_ciR (va_runS (rm := { frames := 0, cells := 0, slots := 0, locals := 0 }) (As := [.int xt, .int (nI 1), .int (nI 20)]) (rest := []) ⟨hx, hb, hml, hown, hts⟩ (m3_in l D xt (nI 1) (nI 20)) (va_cwS 3 hts gX3_like_X3_in rfl rfl rfl (by decide +kernel) ⟨Nat.le_of_ble_eq_true rfl, Nat.le_of_ble_eq_true rfl⟩) (q_pS (hP.sub [] rfl) (hK.sub [] rfl)) rfl rfl hl.1 rfl (lv_room (Nat.le_of_ble_eq_true rfl)) dX3_like_4 ⟨Nat.le_of_ble_eq_true rfl, Nat.le_of_ble_eq_true rfl⟩) hP hS (fun x1 H locs e1 hP hS => ?_)
  have e1 : x1 = nI 0 := by
    have h9 : x1 = p_b (q_in (nI 1) (nI 20) xt) := e1
    rw [h9, (h1q : q_in (nI 1) (nI 20) xt = false)]
    rfl
  subst e1
  refine lv_if_eq (tgt := 36) hx hb dX3_like_7 (by decide) (fun c2 => ?_) (fun c2 => absurd c2 (by decide))
  refine lv_iconst (v := nI 0) hx hb dX3_like_36 (by decide) ?_
  refine lv_istore (lv' := [(5, .int (nI 0)), (0, .ref o), (1, .int x0), (2, .int xt), (3, .int xr), (4, .int xl)]) hx hb dX3_like_37 hl (by decide) rfl (fun ls hl => ?_)
  refine lv_aload_n hx hb dX3_like_39 rfl (lv_at hl 1 rfl) ?_
  refine lv_iload_n hx hb dX3_like_40 rfl (lv_at hl 2 rfl) ?_
  refine q_ciR (va_runS (rm := { frames := 1, cells := 0, slots := 0, locals := 22 }) (As := [.int x0]) (rest := [.ref o]) ⟨hx, hb, hml, hown, hts⟩ (m3_isGuest l D x0) (va_cwS 1 hts gX3_like_X3_isGuest rfl rfl rfl (by decide +kernel) ⟨Nat.le_of_ble_eq_true rfl, Nat.le_of_ble_eq_true rfl⟩) (q_pS (hP.sub [] rfl) (hK.sub [] rfl)) rfl rfl hl.1 rfl (lv_room (Nat.le_of_ble_eq_true rfl)) dX3_like_41 ⟨Nat.le_of_ble_eq_true rfl, Nat.le_of_ble_eq_true rfl⟩) hP hS (fun x3 H locs e3 hP hS => ?_)
  have e3 : x3 = nI 0 := by
    have h9 : x3 = p_b (q_in (nI 0) (nI 7) x0) := e3
    rw [h9, (h0q : q_in (nI 0) (nI 7) x0 = false)]
    rfl
  subst e3
  refine lv_if_ne (tgt := 51) hx hb dX3_like_44 (by decide) (fun c4 => absurd c4 (by decide)) (fun c4 => ?_)
  refine lv_iconst (v := nI 1) hx hb dX3_like_47 (by decide) ?_
  refine lv_goto (tgt := 61) hx hb dX3_like_48 (by decide) ?_
  refine q_ci1 (i := 0) (ws' := wR o ps pa pv pn px cI (oM ps pa pv pn px (nI 1) (nI ns) kp ln sp wr le wh te dg) (rr f) fa fv fn fx) (va_runV (rm := { frames := 0, cells := 0, slots := 0, locals := 0 }) (As := [.int (nI 1)]) (rest := []) ⟨hx, hb, hml, hown, hts⟩ (m3_holds1 l D cI o (oM ps pa pv pn px th (nI ns) kp ln sp wr le wh te dg) (Nat.le_of_ble_eq_true rfl)) (cwV 1 hts gX3_like_X3_holds rfl rfl rfl (by decide +kernel) ⟨Nat.le_of_ble_eq_true rfl, Nat.le_of_ble_eq_true rfl⟩) (q_pV (ci := 3) (q0 := 0) (hP.sub [0] rfl) (hK.sub [] rfl) rfl rfl) rfl rfl hl.1 rfl (lv_room (Nat.le_of_ble_eq_true rfl)) dX3_like_61 ⟨Nat.le_of_ble_eq_true rfl, Nat.le_of_ble_eq_true rfl⟩) hP hD hS rfl (Or.inl rfl) rfl (fun x5 H locs e5 hP hD hS => ?_)
  have e5 : x5 = nI 0 := e5
  subst e5
  refine lv_if_ne (tgt := 69) hx hb dX3_like_64 (by decide) (fun c6 => absurd c6 (by decide)) (fun c6 => ?_)
  refine lv_iconst (v := nI 0) hx hb dX3_like_67 (by decide) ?_
  refine hret _ _ _ _ _ rfl ?_ (hP) hS dX3_like_68
  trivial
set_option maxHeartbeats 4000000 in
set_option maxRecDepth 100000 in
theorem m3_like_2b (l : Launch) (D : va_G) (cI : ClassId) (o ps pa pv pn px : Nat) (f fa fv fn fx : Nat → Int32) (B : Nat) (hI : Inv B f) (ns : Nat) (hn : ns ≤ 6) (th kp ln sp wr le wh te : Int32) (dg : Int64) (g : Nat) (hg : g < 8) (xt xr xl : Int32) (h1q : q_in (nI 1) (nI 20) xt = true) (h2q : q_in (nI 0) (nI 10) xr = false) (hD : va_D (fun _ => True) (wR o ps pa pv pn px cI (oM ps pa pv pn px th (nI ns) kp ln sp wr le wh te dg) (rr f) fa fv fn fx)) : q_I l yX3_like wsX3_like { frames := 2, cells := 0, slots := 0, locals := 42 } [.ref o, .int (nI g), .int xt, .int xr, .int xl] (q_bp D (wR o ps pa pv pn px cI (oM ps pa pv pn px th (nI ns) kp ln sp wr le wh te dg) (rr f) fa fv fn fx) [(cI, .int)]) (fun v => True) (fun H => va_P D vwCl (wR o ps pa pv pn px cI (oM ps pa pv pn px (nI 2) (nI ns) kp ln sp wr le wh te dg) (rr f) fa fv fn fx) H) (AM o ps pa pv pn px) 0 0 := by
  refine q_goI (cc := cX3_like) (maxL := 7) (ty := .int) (lv0 := [(0, .ref o), (1, .int (nI g)), (2, .int xt), (3, .int xr), (4, .int xl)]) (by decide) rfl (Nat.le_of_ble_eq_true rfl) rfl ?_
  intro p e s m args below meth c Q ls hx hb hml hts hown hP hK hl hret
  have hi3 : ∀ w ∈ wsX30, w ∈ wsX3_like := by decide +kernel
  have hfl7 := hts (.fieldLink RX3 7 "WhisperedPotsModel" "s" "[I") (by decide +kernel)
  have hS : va_S (AM o ps pa pv pn px) s.heap s.heap [] := va_S.rf
  have hne : o ≠ ps := fun h => absurd (hD.1 0 1 _ _ rfl rfl h) (by decide)
  refine lv_iload_n hx hb dX3_like_0 rfl (lv_at hl 2 rfl) ?_
  refine lv_iconst (v := nI 1) hx hb dX3_like_1 (by decide) ?_
  refine lv_bipush (v := nI 20) hx hb dX3_like_2 (by decide) ?_
  refine q_ciR (va_runS (rm := { frames := 0, cells := 0, slots := 0, locals := 0 }) (As := [.int xt, .int (nI 1), .int (nI 20)]) (rest := []) ⟨hx, hb, hml, hown, hts⟩ (m3_in l D xt (nI 1) (nI 20)) (va_cwS 3 hts gX3_like_X3_in rfl rfl rfl (by decide +kernel) ⟨Nat.le_of_ble_eq_true rfl, Nat.le_of_ble_eq_true rfl⟩) (q_pS (hP.sub [] rfl) (hK.sub [] rfl)) rfl rfl hl.1 rfl (lv_room (Nat.le_of_ble_eq_true rfl)) dX3_like_4 ⟨Nat.le_of_ble_eq_true rfl, Nat.le_of_ble_eq_true rfl⟩) hP hS (fun x1 H locs e1 hP hS => ?_)
  have e1 : x1 = nI 1 := by
    have h9 : x1 = p_b (q_in (nI 1) (nI 20) xt) := e1
    rw [h9, (h1q : q_in (nI 1) (nI 20) xt = true)]
    rfl
  subst e1
  refine lv_if_eq (tgt := 36) hx hb dX3_like_7 (by decide) (fun c2 => absurd c2 (by decide)) (fun c2 => ?_)
  refine lv_iload_n hx hb dX3_like_10 rfl (lv_at hl 3 rfl) ?_
  refine lv_iconst (v := nI 0) hx hb dX3_like_11 (by decide) ?_
  refine lv_bipush (v := nI 10) hx hb dX3_like_12 (by decide) ?_
  refine q_ciR (va_runS (rm := { frames := 0, cells := 0, slots := 0, locals := 0 }) (As := [.int xr, .int (nI 0), .int (nI 10)]) (rest := []) ⟨hx, hb, hml, hown, hts⟩ (m3_in l D xr (nI 0) (nI 10)) (va_cwS 3 hts gX3_like_X3_in rfl rfl rfl (by decide +kernel) ⟨Nat.le_of_ble_eq_true rfl, Nat.le_of_ble_eq_true rfl⟩) (q_pS (hP.sub [] rfl) (hK.sub [] rfl)) rfl rfl hl.1 rfl (lv_room (Nat.le_of_ble_eq_true rfl)) dX3_like_14 ⟨Nat.le_of_ble_eq_true rfl, Nat.le_of_ble_eq_true rfl⟩) hP hS (fun x3 H locs e3 hP hS => ?_)
  have e3 : x3 = nI 0 := by
    have h9 : x3 = p_b (q_in (nI 0) (nI 10) xr) := e3
    rw [h9, (h2q : q_in (nI 0) (nI 10) xr = false)]
    rfl
  subst e3
  refine lv_if_eq (tgt := 36) hx hb dX3_like_17 (by decide) (fun c4 => ?_) (fun c4 => absurd c4 (by decide))
  refine lv_iconst (v := nI 0) hx hb dX3_like_36 (by decide) ?_
  refine lv_istore (lv' := [(5, .int (nI 0)), (0, .ref o), (1, .int (nI g)), (2, .int xt), (3, .int xr), (4, .int xl)]) hx hb dX3_like_37 hl (by decide) rfl (fun ls hl => ?_)
  refine lv_aload_n hx hb dX3_like_39 rfl (lv_at hl 1 rfl) ?_
  refine lv_iload_n hx hb dX3_like_40 rfl (lv_at hl 2 rfl) ?_
  refine q_ciR (va_runS (rm := { frames := 1, cells := 0, slots := 0, locals := 22 }) (As := [.int (nI g)]) (rest := [.ref o]) ⟨hx, hb, hml, hown, hts⟩ (m3_isGuest l D (nI g)) (va_cwS 1 hts gX3_like_X3_isGuest rfl rfl rfl (by decide +kernel) ⟨Nat.le_of_ble_eq_true rfl, Nat.le_of_ble_eq_true rfl⟩) (q_pS (hP.sub [] rfl) (hK.sub [] rfl)) rfl rfl hl.1 rfl (lv_room (Nat.le_of_ble_eq_true rfl)) dX3_like_41 ⟨Nat.le_of_ble_eq_true rfl, Nat.le_of_ble_eq_true rfl⟩) hP hS (fun x5 H locs e5 hP hS => ?_)
  have e5 : x5 = nI 1 := by
    have h9 : x5 = p_b (q_in (nI 0) (nI 7) (nI g)) := e5
    rw [h9, ((q_inN (Nat.zero_le _) (by omega) (by decide)) : q_in (nI 0) (nI 7) (nI g) = true)]
    rfl
  subst e5
  refine lv_if_ne (tgt := 51) hx hb dX3_like_44 (by decide) (fun c6 => ?_) (fun c6 => absurd c6 (by decide))
  refine lv_iload hx hb dX3_like_51 (lv_at hl 0 rfl) ?_
  refine lv_if_eq (tgt := 60) hx hb dX3_like_53 (by decide) (fun c7 => ?_) (fun c7 => absurd c7 (by decide))
  refine lv_iconst (v := nI 2) hx hb dX3_like_60 (by decide) ?_
  refine q_ci1 (i := 0) (ws' := wR o ps pa pv pn px cI (oM ps pa pv pn px (nI 2) (nI ns) kp ln sp wr le wh te dg) (rr f) fa fv fn fx) (va_runV (rm := { frames := 0, cells := 0, slots := 0, locals := 0 }) (As := [.int (nI 2)]) (rest := []) ⟨hx, hb, hml, hown, hts⟩ (m3_holds2 l D cI o (oM ps pa pv pn px th (nI ns) kp ln sp wr le wh te dg) (Nat.le_of_ble_eq_true rfl)) (cwV 1 hts gX3_like_X3_holds rfl rfl rfl (by decide +kernel) ⟨Nat.le_of_ble_eq_true rfl, Nat.le_of_ble_eq_true rfl⟩) (q_pV (ci := 3) (q0 := 0) (hP.sub [0] rfl) (hK.sub [] rfl) rfl rfl) rfl rfl hl.1 rfl (lv_room (Nat.le_of_ble_eq_true rfl)) dX3_like_61 ⟨Nat.le_of_ble_eq_true rfl, Nat.le_of_ble_eq_true rfl⟩) hP hD hS rfl (Or.inl rfl) rfl (fun x8 H locs e8 hP hD hS => ?_)
  have e8 : x8 = nI 0 := e8
  subst e8
  refine lv_if_ne (tgt := 69) hx hb dX3_like_64 (by decide) (fun c9 => absurd c9 (by decide)) (fun c9 => ?_)
  refine lv_iconst (v := nI 0) hx hb dX3_like_67 (by decide) ?_
  refine hret _ _ _ _ _ rfl ?_ (hP) hS dX3_like_68
  trivial
set_option maxHeartbeats 4000000 in
set_option maxRecDepth 100000 in
theorem m3_like_1b (l : Launch) (D : va_G) (cI : ClassId) (o ps pa pv pn px : Nat) (f fa fv fn fx : Nat → Int32) (B : Nat) (hI : Inv B f) (ns : Nat) (hn : ns ≤ 6) (th kp ln sp wr le wh te : Int32) (dg : Int64) (x0 xt xr xl : Int32) (h0q : q_in (nI 0) (nI 7) x0 = false) (h1q : q_in (nI 1) (nI 20) xt = true) (h2q : q_in (nI 0) (nI 10) xr = false) (hD : va_D (fun _ => True) (wR o ps pa pv pn px cI (oM ps pa pv pn px th (nI ns) kp ln sp wr le wh te dg) (rr f) fa fv fn fx)) : q_I l yX3_like wsX3_like { frames := 2, cells := 0, slots := 0, locals := 42 } [.ref o, .int x0, .int xt, .int xr, .int xl] (q_bp D (wR o ps pa pv pn px cI (oM ps pa pv pn px th (nI ns) kp ln sp wr le wh te dg) (rr f) fa fv fn fx) [(cI, .int)]) (fun v => True) (fun H => va_P D vwCl (wR o ps pa pv pn px cI (oM ps pa pv pn px (nI 1) (nI ns) kp ln sp wr le wh te dg) (rr f) fa fv fn fx) H) (AM o ps pa pv pn px) 0 0 := by
  refine q_goI (cc := cX3_like) (maxL := 7) (ty := .int) (lv0 := [(0, .ref o), (1, .int x0), (2, .int xt), (3, .int xr), (4, .int xl)]) (by decide) rfl (Nat.le_of_ble_eq_true rfl) rfl ?_
  intro p e s m args below meth c Q ls hx hb hml hts hown hP hK hl hret
  have hi3 : ∀ w ∈ wsX30, w ∈ wsX3_like := by decide +kernel
  have hfl7 := hts (.fieldLink RX3 7 "WhisperedPotsModel" "s" "[I") (by decide +kernel)
  have hS : va_S (AM o ps pa pv pn px) s.heap s.heap [] := va_S.rf
  have hne : o ≠ ps := fun h => absurd (hD.1 0 1 _ _ rfl rfl h) (by decide)
  refine lv_iload_n hx hb dX3_like_0 rfl (lv_at hl 2 rfl) ?_
  refine lv_iconst (v := nI 1) hx hb dX3_like_1 (by decide) ?_
  refine lv_bipush (v := nI 20) hx hb dX3_like_2 (by decide) ?_
  refine q_ciR (va_runS (rm := { frames := 0, cells := 0, slots := 0, locals := 0 }) (As := [.int xt, .int (nI 1), .int (nI 20)]) (rest := []) ⟨hx, hb, hml, hown, hts⟩ (m3_in l D xt (nI 1) (nI 20)) (va_cwS 3 hts gX3_like_X3_in rfl rfl rfl (by decide +kernel) ⟨Nat.le_of_ble_eq_true rfl, Nat.le_of_ble_eq_true rfl⟩) (q_pS (hP.sub [] rfl) (hK.sub [] rfl)) rfl rfl hl.1 rfl (lv_room (Nat.le_of_ble_eq_true rfl)) dX3_like_4 ⟨Nat.le_of_ble_eq_true rfl, Nat.le_of_ble_eq_true rfl⟩) hP hS (fun x1 H locs e1 hP hS => ?_)
  have e1 : x1 = nI 1 := by
    have h9 : x1 = p_b (q_in (nI 1) (nI 20) xt) := e1
    rw [h9, (h1q : q_in (nI 1) (nI 20) xt = true)]
    rfl
  subst e1
  refine lv_if_eq (tgt := 36) hx hb dX3_like_7 (by decide) (fun c2 => absurd c2 (by decide)) (fun c2 => ?_)
  refine lv_iload_n hx hb dX3_like_10 rfl (lv_at hl 3 rfl) ?_
  refine lv_iconst (v := nI 0) hx hb dX3_like_11 (by decide) ?_
  refine lv_bipush (v := nI 10) hx hb dX3_like_12 (by decide) ?_
  refine q_ciR (va_runS (rm := { frames := 0, cells := 0, slots := 0, locals := 0 }) (As := [.int xr, .int (nI 0), .int (nI 10)]) (rest := []) ⟨hx, hb, hml, hown, hts⟩ (m3_in l D xr (nI 0) (nI 10)) (va_cwS 3 hts gX3_like_X3_in rfl rfl rfl (by decide +kernel) ⟨Nat.le_of_ble_eq_true rfl, Nat.le_of_ble_eq_true rfl⟩) (q_pS (hP.sub [] rfl) (hK.sub [] rfl)) rfl rfl hl.1 rfl (lv_room (Nat.le_of_ble_eq_true rfl)) dX3_like_14 ⟨Nat.le_of_ble_eq_true rfl, Nat.le_of_ble_eq_true rfl⟩) hP hS (fun x3 H locs e3 hP hS => ?_)
  have e3 : x3 = nI 0 := by
    have h9 : x3 = p_b (q_in (nI 0) (nI 10) xr) := e3
    rw [h9, (h2q : q_in (nI 0) (nI 10) xr = false)]
    rfl
  subst e3
  refine lv_if_eq (tgt := 36) hx hb dX3_like_17 (by decide) (fun c4 => ?_) (fun c4 => absurd c4 (by decide))
  refine lv_iconst (v := nI 0) hx hb dX3_like_36 (by decide) ?_
  refine lv_istore (lv' := [(5, .int (nI 0)), (0, .ref o), (1, .int x0), (2, .int xt), (3, .int xr), (4, .int xl)]) hx hb dX3_like_37 hl (by decide) rfl (fun ls hl => ?_)
  refine lv_aload_n hx hb dX3_like_39 rfl (lv_at hl 1 rfl) ?_
  refine lv_iload_n hx hb dX3_like_40 rfl (lv_at hl 2 rfl) ?_
  refine q_ciR (va_runS (rm := { frames := 1, cells := 0, slots := 0, locals := 22 }) (As := [.int x0]) (rest := [.ref o]) ⟨hx, hb, hml, hown, hts⟩ (m3_isGuest l D x0) (va_cwS 1 hts gX3_like_X3_isGuest rfl rfl rfl (by decide +kernel) ⟨Nat.le_of_ble_eq_true rfl, Nat.le_of_ble_eq_true rfl⟩) (q_pS (hP.sub [] rfl) (hK.sub [] rfl)) rfl rfl hl.1 rfl (lv_room (Nat.le_of_ble_eq_true rfl)) dX3_like_41 ⟨Nat.le_of_ble_eq_true rfl, Nat.le_of_ble_eq_true rfl⟩) hP hS (fun x5 H locs e5 hP hS => ?_)
  have e5 : x5 = nI 0 := by
    have h9 : x5 = p_b (q_in (nI 0) (nI 7) x0) := e5
    rw [h9, (h0q : q_in (nI 0) (nI 7) x0 = false)]
    rfl
  subst e5
  refine lv_if_ne (tgt := 51) hx hb dX3_like_44 (by decide) (fun c6 => absurd c6 (by decide)) (fun c6 => ?_)
  refine lv_iconst (v := nI 1) hx hb dX3_like_47 (by decide) ?_
  refine lv_goto (tgt := 61) hx hb dX3_like_48 (by decide) ?_
  refine q_ci1 (i := 0) (ws' := wR o ps pa pv pn px cI (oM ps pa pv pn px (nI 1) (nI ns) kp ln sp wr le wh te dg) (rr f) fa fv fn fx) (va_runV (rm := { frames := 0, cells := 0, slots := 0, locals := 0 }) (As := [.int (nI 1)]) (rest := []) ⟨hx, hb, hml, hown, hts⟩ (m3_holds1 l D cI o (oM ps pa pv pn px th (nI ns) kp ln sp wr le wh te dg) (Nat.le_of_ble_eq_true rfl)) (cwV 1 hts gX3_like_X3_holds rfl rfl rfl (by decide +kernel) ⟨Nat.le_of_ble_eq_true rfl, Nat.le_of_ble_eq_true rfl⟩) (q_pV (ci := 3) (q0 := 0) (hP.sub [0] rfl) (hK.sub [] rfl) rfl rfl) rfl rfl hl.1 rfl (lv_room (Nat.le_of_ble_eq_true rfl)) dX3_like_61 ⟨Nat.le_of_ble_eq_true rfl, Nat.le_of_ble_eq_true rfl⟩) hP hD hS rfl (Or.inl rfl) rfl (fun x7 H locs e7 hP hD hS => ?_)
  have e7 : x7 = nI 0 := e7
  subst e7
  refine lv_if_ne (tgt := 69) hx hb dX3_like_64 (by decide) (fun c8 => absurd c8 (by decide)) (fun c8 => ?_)
  refine lv_iconst (v := nI 0) hx hb dX3_like_67 (by decide) ?_
  refine hret _ _ _ _ _ rfl ?_ (hP) hS dX3_like_68
  trivial
set_option maxHeartbeats 4000000 in
set_option maxRecDepth 100000 in
theorem m3_like_2c (l : Launch) (D : va_G) (cI : ClassId) (o ps pa pv pn px : Nat) (f fa fv fn fx : Nat → Int32) (B : Nat) (hI : Inv B f) (ns : Nat) (hn : ns ≤ 6) (th kp ln sp wr le wh te : Int32) (dg : Int64) (g : Nat) (hg : g < 8) (xt xr xl : Int32) (h1q : q_in (nI 1) (nI 20) xt = true) (h2q : q_in (nI 0) (nI 10) xr = true) (h3q : q_in (-20) (nI 20) xl = false) (hD : va_D (fun _ => True) (wR o ps pa pv pn px cI (oM ps pa pv pn px th (nI ns) kp ln sp wr le wh te dg) (rr f) fa fv fn fx)) : q_I l yX3_like wsX3_like { frames := 2, cells := 0, slots := 0, locals := 42 } [.ref o, .int (nI g), .int xt, .int xr, .int xl] (q_bp D (wR o ps pa pv pn px cI (oM ps pa pv pn px th (nI ns) kp ln sp wr le wh te dg) (rr f) fa fv fn fx) [(cI, .int)]) (fun v => True) (fun H => va_P D vwCl (wR o ps pa pv pn px cI (oM ps pa pv pn px (nI 2) (nI ns) kp ln sp wr le wh te dg) (rr f) fa fv fn fx) H) (AM o ps pa pv pn px) 0 0 := by
  refine q_goI (cc := cX3_like) (maxL := 7) (ty := .int) (lv0 := [(0, .ref o), (1, .int (nI g)), (2, .int xt), (3, .int xr), (4, .int xl)]) (by decide) rfl (Nat.le_of_ble_eq_true rfl) rfl ?_
  intro p e s m args below meth c Q ls hx hb hml hts hown hP hK hl hret
  have hi3 : ∀ w ∈ wsX30, w ∈ wsX3_like := by decide +kernel
  have hfl7 := hts (.fieldLink RX3 7 "WhisperedPotsModel" "s" "[I") (by decide +kernel)
  have hS : va_S (AM o ps pa pv pn px) s.heap s.heap [] := va_S.rf
  have hne : o ≠ ps := fun h => absurd (hD.1 0 1 _ _ rfl rfl h) (by decide)
  refine lv_iload_n hx hb dX3_like_0 rfl (lv_at hl 2 rfl) ?_
  refine lv_iconst (v := nI 1) hx hb dX3_like_1 (by decide) ?_
  refine lv_bipush (v := nI 20) hx hb dX3_like_2 (by decide) ?_
  refine q_ciR (va_runS (rm := { frames := 0, cells := 0, slots := 0, locals := 0 }) (As := [.int xt, .int (nI 1), .int (nI 20)]) (rest := []) ⟨hx, hb, hml, hown, hts⟩ (m3_in l D xt (nI 1) (nI 20)) (va_cwS 3 hts gX3_like_X3_in rfl rfl rfl (by decide +kernel) ⟨Nat.le_of_ble_eq_true rfl, Nat.le_of_ble_eq_true rfl⟩) (q_pS (hP.sub [] rfl) (hK.sub [] rfl)) rfl rfl hl.1 rfl (lv_room (Nat.le_of_ble_eq_true rfl)) dX3_like_4 ⟨Nat.le_of_ble_eq_true rfl, Nat.le_of_ble_eq_true rfl⟩) hP hS (fun x1 H locs e1 hP hS => ?_)
  have e1 : x1 = nI 1 := by
    have h9 : x1 = p_b (q_in (nI 1) (nI 20) xt) := e1
    rw [h9, (h1q : q_in (nI 1) (nI 20) xt = true)]
    rfl
  subst e1
  refine lv_if_eq (tgt := 36) hx hb dX3_like_7 (by decide) (fun c2 => absurd c2 (by decide)) (fun c2 => ?_)
  refine lv_iload_n hx hb dX3_like_10 rfl (lv_at hl 3 rfl) ?_
  refine lv_iconst (v := nI 0) hx hb dX3_like_11 (by decide) ?_
  refine lv_bipush (v := nI 10) hx hb dX3_like_12 (by decide) ?_
  refine q_ciR (va_runS (rm := { frames := 0, cells := 0, slots := 0, locals := 0 }) (As := [.int xr, .int (nI 0), .int (nI 10)]) (rest := []) ⟨hx, hb, hml, hown, hts⟩ (m3_in l D xr (nI 0) (nI 10)) (va_cwS 3 hts gX3_like_X3_in rfl rfl rfl (by decide +kernel) ⟨Nat.le_of_ble_eq_true rfl, Nat.le_of_ble_eq_true rfl⟩) (q_pS (hP.sub [] rfl) (hK.sub [] rfl)) rfl rfl hl.1 rfl (lv_room (Nat.le_of_ble_eq_true rfl)) dX3_like_14 ⟨Nat.le_of_ble_eq_true rfl, Nat.le_of_ble_eq_true rfl⟩) hP hS (fun x3 H locs e3 hP hS => ?_)
  have e3 : x3 = nI 1 := by
    have h9 : x3 = p_b (q_in (nI 0) (nI 10) xr) := e3
    rw [h9, (h2q : q_in (nI 0) (nI 10) xr = true)]
    rfl
  subst e3
  refine lv_if_eq (tgt := 36) hx hb dX3_like_17 (by decide) (fun c4 => absurd c4 (by decide)) (fun c4 => ?_)
  refine lv_iload hx hb dX3_like_20 (lv_at hl 4 rfl) ?_
  refine lv_bipush (v := (-20)) hx hb dX3_like_22 (by decide) ?_
  refine lv_bipush (v := nI 20) hx hb dX3_like_24 (by decide) ?_
  refine q_ciR (va_runS (rm := { frames := 0, cells := 0, slots := 0, locals := 0 }) (As := [.int xl, .int (-20), .int (nI 20)]) (rest := []) ⟨hx, hb, hml, hown, hts⟩ (m3_in l D xl (-20) (nI 20)) (va_cwS 3 hts gX3_like_X3_in rfl rfl rfl (by decide +kernel) ⟨Nat.le_of_ble_eq_true rfl, Nat.le_of_ble_eq_true rfl⟩) (q_pS (hP.sub [] rfl) (hK.sub [] rfl)) rfl rfl hl.1 rfl (lv_room (Nat.le_of_ble_eq_true rfl)) dX3_like_26 ⟨Nat.le_of_ble_eq_true rfl, Nat.le_of_ble_eq_true rfl⟩) hP hS (fun x5 H locs e5 hP hS => ?_)
  have e5 : x5 = nI 0 := by
    have h9 : x5 = p_b (q_in (-20) (nI 20) xl) := e5
    rw [h9, (h3q : q_in (-20) (nI 20) xl = false)]
    rfl
  subst e5
  refine lv_if_eq (tgt := 36) hx hb dX3_like_29 (by decide) (fun c6 => ?_) (fun c6 => absurd c6 (by decide))
  refine lv_iconst (v := nI 0) hx hb dX3_like_36 (by decide) ?_
  refine lv_istore (lv' := [(5, .int (nI 0)), (0, .ref o), (1, .int (nI g)), (2, .int xt), (3, .int xr), (4, .int xl)]) hx hb dX3_like_37 hl (by decide) rfl (fun ls hl => ?_)
  refine lv_aload_n hx hb dX3_like_39 rfl (lv_at hl 1 rfl) ?_
  refine lv_iload_n hx hb dX3_like_40 rfl (lv_at hl 2 rfl) ?_
  refine q_ciR (va_runS (rm := { frames := 1, cells := 0, slots := 0, locals := 22 }) (As := [.int (nI g)]) (rest := [.ref o]) ⟨hx, hb, hml, hown, hts⟩ (m3_isGuest l D (nI g)) (va_cwS 1 hts gX3_like_X3_isGuest rfl rfl rfl (by decide +kernel) ⟨Nat.le_of_ble_eq_true rfl, Nat.le_of_ble_eq_true rfl⟩) (q_pS (hP.sub [] rfl) (hK.sub [] rfl)) rfl rfl hl.1 rfl (lv_room (Nat.le_of_ble_eq_true rfl)) dX3_like_41 ⟨Nat.le_of_ble_eq_true rfl, Nat.le_of_ble_eq_true rfl⟩) hP hS (fun x7 H locs e7 hP hS => ?_)
  have e7 : x7 = nI 1 := by
    have h9 : x7 = p_b (q_in (nI 0) (nI 7) (nI g)) := e7
    rw [h9, ((q_inN (Nat.zero_le _) (by omega) (by decide)) : q_in (nI 0) (nI 7) (nI g) = true)]
    rfl
  subst e7
  refine lv_if_ne (tgt := 51) hx hb dX3_like_44 (by decide) (fun c8 => ?_) (fun c8 => absurd c8 (by decide))
  refine lv_iload hx hb dX3_like_51 (lv_at hl 0 rfl) ?_
  refine lv_if_eq (tgt := 60) hx hb dX3_like_53 (by decide) (fun c9 => ?_) (fun c9 => absurd c9 (by decide))
  refine lv_iconst (v := nI 2) hx hb dX3_like_60 (by decide) ?_
  refine q_ci1 (i := 0) (ws' := wR o ps pa pv pn px cI (oM ps pa pv pn px (nI 2) (nI ns) kp ln sp wr le wh te dg) (rr f) fa fv fn fx) (va_runV (rm := { frames := 0, cells := 0, slots := 0, locals := 0 }) (As := [.int (nI 2)]) (rest := []) ⟨hx, hb, hml, hown, hts⟩ (m3_holds2 l D cI o (oM ps pa pv pn px th (nI ns) kp ln sp wr le wh te dg) (Nat.le_of_ble_eq_true rfl)) (cwV 1 hts gX3_like_X3_holds rfl rfl rfl (by decide +kernel) ⟨Nat.le_of_ble_eq_true rfl, Nat.le_of_ble_eq_true rfl⟩) (q_pV (ci := 3) (q0 := 0) (hP.sub [0] rfl) (hK.sub [] rfl) rfl rfl) rfl rfl hl.1 rfl (lv_room (Nat.le_of_ble_eq_true rfl)) dX3_like_61 ⟨Nat.le_of_ble_eq_true rfl, Nat.le_of_ble_eq_true rfl⟩) hP hD hS rfl (Or.inl rfl) rfl (fun x10 H locs e10 hP hD hS => ?_)
  have e10 : x10 = nI 0 := e10
  subst e10
  refine lv_if_ne (tgt := 69) hx hb dX3_like_64 (by decide) (fun c11 => absurd c11 (by decide)) (fun c11 => ?_)
  refine lv_iconst (v := nI 0) hx hb dX3_like_67 (by decide) ?_
  refine hret _ _ _ _ _ rfl ?_ (hP) hS dX3_like_68
  trivial
set_option maxHeartbeats 4000000 in
set_option maxRecDepth 100000 in
theorem m3_like_1c (l : Launch) (D : va_G) (cI : ClassId) (o ps pa pv pn px : Nat) (f fa fv fn fx : Nat → Int32) (B : Nat) (hI : Inv B f) (ns : Nat) (hn : ns ≤ 6) (th kp ln sp wr le wh te : Int32) (dg : Int64) (x0 xt xr xl : Int32) (h0q : q_in (nI 0) (nI 7) x0 = false) (h1q : q_in (nI 1) (nI 20) xt = true) (h2q : q_in (nI 0) (nI 10) xr = true) (h3q : q_in (-20) (nI 20) xl = false) (hD : va_D (fun _ => True) (wR o ps pa pv pn px cI (oM ps pa pv pn px th (nI ns) kp ln sp wr le wh te dg) (rr f) fa fv fn fx)) : q_I l yX3_like wsX3_like { frames := 2, cells := 0, slots := 0, locals := 42 } [.ref o, .int x0, .int xt, .int xr, .int xl] (q_bp D (wR o ps pa pv pn px cI (oM ps pa pv pn px th (nI ns) kp ln sp wr le wh te dg) (rr f) fa fv fn fx) [(cI, .int)]) (fun v => True) (fun H => va_P D vwCl (wR o ps pa pv pn px cI (oM ps pa pv pn px (nI 1) (nI ns) kp ln sp wr le wh te dg) (rr f) fa fv fn fx) H) (AM o ps pa pv pn px) 0 0 := by
  refine q_goI (cc := cX3_like) (maxL := 7) (ty := .int) (lv0 := [(0, .ref o), (1, .int x0), (2, .int xt), (3, .int xr), (4, .int xl)]) (by decide) rfl (Nat.le_of_ble_eq_true rfl) rfl ?_
  intro p e s m args below meth c Q ls hx hb hml hts hown hP hK hl hret
  have hi3 : ∀ w ∈ wsX30, w ∈ wsX3_like := by decide +kernel
  have hfl7 := hts (.fieldLink RX3 7 "WhisperedPotsModel" "s" "[I") (by decide +kernel)
  have hS : va_S (AM o ps pa pv pn px) s.heap s.heap [] := va_S.rf
  have hne : o ≠ ps := fun h => absurd (hD.1 0 1 _ _ rfl rfl h) (by decide)
  refine lv_iload_n hx hb dX3_like_0 rfl (lv_at hl 2 rfl) ?_
  refine lv_iconst (v := nI 1) hx hb dX3_like_1 (by decide) ?_
  refine lv_bipush (v := nI 20) hx hb dX3_like_2 (by decide) ?_
  refine q_ciR (va_runS (rm := { frames := 0, cells := 0, slots := 0, locals := 0 }) (As := [.int xt, .int (nI 1), .int (nI 20)]) (rest := []) ⟨hx, hb, hml, hown, hts⟩ (m3_in l D xt (nI 1) (nI 20)) (va_cwS 3 hts gX3_like_X3_in rfl rfl rfl (by decide +kernel) ⟨Nat.le_of_ble_eq_true rfl, Nat.le_of_ble_eq_true rfl⟩) (q_pS (hP.sub [] rfl) (hK.sub [] rfl)) rfl rfl hl.1 rfl (lv_room (Nat.le_of_ble_eq_true rfl)) dX3_like_4 ⟨Nat.le_of_ble_eq_true rfl, Nat.le_of_ble_eq_true rfl⟩) hP hS (fun x1 H locs e1 hP hS => ?_)
  have e1 : x1 = nI 1 := by
    have h9 : x1 = p_b (q_in (nI 1) (nI 20) xt) := e1
    rw [h9, (h1q : q_in (nI 1) (nI 20) xt = true)]
    rfl
  subst e1
  refine lv_if_eq (tgt := 36) hx hb dX3_like_7 (by decide) (fun c2 => absurd c2 (by decide)) (fun c2 => ?_)
  refine lv_iload_n hx hb dX3_like_10 rfl (lv_at hl 3 rfl) ?_
  refine lv_iconst (v := nI 0) hx hb dX3_like_11 (by decide) ?_
  refine lv_bipush (v := nI 10) hx hb dX3_like_12 (by decide) ?_
  refine q_ciR (va_runS (rm := { frames := 0, cells := 0, slots := 0, locals := 0 }) (As := [.int xr, .int (nI 0), .int (nI 10)]) (rest := []) ⟨hx, hb, hml, hown, hts⟩ (m3_in l D xr (nI 0) (nI 10)) (va_cwS 3 hts gX3_like_X3_in rfl rfl rfl (by decide +kernel) ⟨Nat.le_of_ble_eq_true rfl, Nat.le_of_ble_eq_true rfl⟩) (q_pS (hP.sub [] rfl) (hK.sub [] rfl)) rfl rfl hl.1 rfl (lv_room (Nat.le_of_ble_eq_true rfl)) dX3_like_14 ⟨Nat.le_of_ble_eq_true rfl, Nat.le_of_ble_eq_true rfl⟩) hP hS (fun x3 H locs e3 hP hS => ?_)
  have e3 : x3 = nI 1 := by
    have h9 : x3 = p_b (q_in (nI 0) (nI 10) xr) := e3
    rw [h9, (h2q : q_in (nI 0) (nI 10) xr = true)]
    rfl
  subst e3
  refine lv_if_eq (tgt := 36) hx hb dX3_like_17 (by decide) (fun c4 => absurd c4 (by decide)) (fun c4 => ?_)
  refine lv_iload hx hb dX3_like_20 (lv_at hl 4 rfl) ?_
  refine lv_bipush (v := (-20)) hx hb dX3_like_22 (by decide) ?_
  refine lv_bipush (v := nI 20) hx hb dX3_like_24 (by decide) ?_
  refine q_ciR (va_runS (rm := { frames := 0, cells := 0, slots := 0, locals := 0 }) (As := [.int xl, .int (-20), .int (nI 20)]) (rest := []) ⟨hx, hb, hml, hown, hts⟩ (m3_in l D xl (-20) (nI 20)) (va_cwS 3 hts gX3_like_X3_in rfl rfl rfl (by decide +kernel) ⟨Nat.le_of_ble_eq_true rfl, Nat.le_of_ble_eq_true rfl⟩) (q_pS (hP.sub [] rfl) (hK.sub [] rfl)) rfl rfl hl.1 rfl (lv_room (Nat.le_of_ble_eq_true rfl)) dX3_like_26 ⟨Nat.le_of_ble_eq_true rfl, Nat.le_of_ble_eq_true rfl⟩) hP hS (fun x5 H locs e5 hP hS => ?_)
  have e5 : x5 = nI 0 := by
    have h9 : x5 = p_b (q_in (-20) (nI 20) xl) := e5
    rw [h9, (h3q : q_in (-20) (nI 20) xl = false)]
    rfl
  subst e5
  refine lv_if_eq (tgt := 36) hx hb dX3_like_29 (by decide) (fun c6 => ?_) (fun c6 => absurd c6 (by decide))
  refine lv_iconst (v := nI 0) hx hb dX3_like_36 (by decide) ?_
  refine lv_istore (lv' := [(5, .int (nI 0)), (0, .ref o), (1, .int x0), (2, .int xt), (3, .int xr), (4, .int xl)]) hx hb dX3_like_37 hl (by decide) rfl (fun ls hl => ?_)
  refine lv_aload_n hx hb dX3_like_39 rfl (lv_at hl 1 rfl) ?_
  refine lv_iload_n hx hb dX3_like_40 rfl (lv_at hl 2 rfl) ?_
  refine q_ciR (va_runS (rm := { frames := 1, cells := 0, slots := 0, locals := 22 }) (As := [.int x0]) (rest := [.ref o]) ⟨hx, hb, hml, hown, hts⟩ (m3_isGuest l D x0) (va_cwS 1 hts gX3_like_X3_isGuest rfl rfl rfl (by decide +kernel) ⟨Nat.le_of_ble_eq_true rfl, Nat.le_of_ble_eq_true rfl⟩) (q_pS (hP.sub [] rfl) (hK.sub [] rfl)) rfl rfl hl.1 rfl (lv_room (Nat.le_of_ble_eq_true rfl)) dX3_like_41 ⟨Nat.le_of_ble_eq_true rfl, Nat.le_of_ble_eq_true rfl⟩) hP hS (fun x7 H locs e7 hP hS => ?_)
  have e7 : x7 = nI 0 := by
    have h9 : x7 = p_b (q_in (nI 0) (nI 7) x0) := e7
    rw [h9, (h0q : q_in (nI 0) (nI 7) x0 = false)]
    rfl
  subst e7
  refine lv_if_ne (tgt := 51) hx hb dX3_like_44 (by decide) (fun c8 => absurd c8 (by decide)) (fun c8 => ?_)
  refine lv_iconst (v := nI 1) hx hb dX3_like_47 (by decide) ?_
  refine lv_goto (tgt := 61) hx hb dX3_like_48 (by decide) ?_
  refine q_ci1 (i := 0) (ws' := wR o ps pa pv pn px cI (oM ps pa pv pn px (nI 1) (nI ns) kp ln sp wr le wh te dg) (rr f) fa fv fn fx) (va_runV (rm := { frames := 0, cells := 0, slots := 0, locals := 0 }) (As := [.int (nI 1)]) (rest := []) ⟨hx, hb, hml, hown, hts⟩ (m3_holds1 l D cI o (oM ps pa pv pn px th (nI ns) kp ln sp wr le wh te dg) (Nat.le_of_ble_eq_true rfl)) (cwV 1 hts gX3_like_X3_holds rfl rfl rfl (by decide +kernel) ⟨Nat.le_of_ble_eq_true rfl, Nat.le_of_ble_eq_true rfl⟩) (q_pV (ci := 3) (q0 := 0) (hP.sub [0] rfl) (hK.sub [] rfl) rfl rfl) rfl rfl hl.1 rfl (lv_room (Nat.le_of_ble_eq_true rfl)) dX3_like_61 ⟨Nat.le_of_ble_eq_true rfl, Nat.le_of_ble_eq_true rfl⟩) hP hD hS rfl (Or.inl rfl) rfl (fun x9 H locs e9 hP hD hS => ?_)
  have e9 : x9 = nI 0 := e9
  subst e9
  refine lv_if_ne (tgt := 69) hx hb dX3_like_64 (by decide) (fun c10 => absurd c10 (by decide)) (fun c10 => ?_)
  refine lv_iconst (v := nI 0) hx hb dX3_like_67 (by decide) ?_
  refine hret _ _ _ _ _ rfl ?_ (hP) hS dX3_like_68
  trivial
set_option maxHeartbeats 4000000 in
set_option maxRecDepth 100000 in
theorem m3_like_1d (l : Launch) (D : va_G) (cI : ClassId) (o ps pa pv pn px : Nat) (f fa fv fn fx : Nat → Int32) (B : Nat) (hI : Inv B f) (ns : Nat) (hn : ns ≤ 6) (th kp ln sp wr le wh te : Int32) (dg : Int64) (x0 xt xr xl : Int32) (h0q : q_in (nI 0) (nI 7) x0 = false) (h1q : q_in (nI 1) (nI 20) xt = true) (h2q : q_in (nI 0) (nI 10) xr = true) (h3q : q_in (-20) (nI 20) xl = true) (hD : va_D (fun _ => True) (wR o ps pa pv pn px cI (oM ps pa pv pn px th (nI ns) kp ln sp wr le wh te dg) (rr f) fa fv fn fx)) : q_I l yX3_like wsX3_like { frames := 2, cells := 0, slots := 0, locals := 42 } [.ref o, .int x0, .int xt, .int xr, .int xl] (q_bp D (wR o ps pa pv pn px cI (oM ps pa pv pn px th (nI ns) kp ln sp wr le wh te dg) (rr f) fa fv fn fx) [(cI, .int)]) (fun v => True) (fun H => va_P D vwCl (wR o ps pa pv pn px cI (oM ps pa pv pn px (nI 1) (nI ns) kp ln sp wr le wh te dg) (rr f) fa fv fn fx) H) (AM o ps pa pv pn px) 0 0 := by
  refine q_goI (cc := cX3_like) (maxL := 7) (ty := .int) (lv0 := [(0, .ref o), (1, .int x0), (2, .int xt), (3, .int xr), (4, .int xl)]) (by decide) rfl (Nat.le_of_ble_eq_true rfl) rfl ?_
  intro p e s m args below meth c Q ls hx hb hml hts hown hP hK hl hret
  have hi3 : ∀ w ∈ wsX30, w ∈ wsX3_like := by decide +kernel
  have hfl7 := hts (.fieldLink RX3 7 "WhisperedPotsModel" "s" "[I") (by decide +kernel)
  have hS : va_S (AM o ps pa pv pn px) s.heap s.heap [] := va_S.rf
  have hne : o ≠ ps := fun h => absurd (hD.1 0 1 _ _ rfl rfl h) (by decide)
  refine lv_iload_n hx hb dX3_like_0 rfl (lv_at hl 2 rfl) ?_
  refine lv_iconst (v := nI 1) hx hb dX3_like_1 (by decide) ?_
  refine lv_bipush (v := nI 20) hx hb dX3_like_2 (by decide) ?_
  refine q_ciR (va_runS (rm := { frames := 0, cells := 0, slots := 0, locals := 0 }) (As := [.int xt, .int (nI 1), .int (nI 20)]) (rest := []) ⟨hx, hb, hml, hown, hts⟩ (m3_in l D xt (nI 1) (nI 20)) (va_cwS 3 hts gX3_like_X3_in rfl rfl rfl (by decide +kernel) ⟨Nat.le_of_ble_eq_true rfl, Nat.le_of_ble_eq_true rfl⟩) (q_pS (hP.sub [] rfl) (hK.sub [] rfl)) rfl rfl hl.1 rfl (lv_room (Nat.le_of_ble_eq_true rfl)) dX3_like_4 ⟨Nat.le_of_ble_eq_true rfl, Nat.le_of_ble_eq_true rfl⟩) hP hS (fun x1 H locs e1 hP hS => ?_)
  have e1 : x1 = nI 1 := by
    have h9 : x1 = p_b (q_in (nI 1) (nI 20) xt) := e1
    rw [h9, (h1q : q_in (nI 1) (nI 20) xt = true)]
    rfl
  subst e1
  refine lv_if_eq (tgt := 36) hx hb dX3_like_7 (by decide) (fun c2 => absurd c2 (by decide)) (fun c2 => ?_)
  refine lv_iload_n hx hb dX3_like_10 rfl (lv_at hl 3 rfl) ?_
  refine lv_iconst (v := nI 0) hx hb dX3_like_11 (by decide) ?_
  refine lv_bipush (v := nI 10) hx hb dX3_like_12 (by decide) ?_
  refine q_ciR (va_runS (rm := { frames := 0, cells := 0, slots := 0, locals := 0 }) (As := [.int xr, .int (nI 0), .int (nI 10)]) (rest := []) ⟨hx, hb, hml, hown, hts⟩ (m3_in l D xr (nI 0) (nI 10)) (va_cwS 3 hts gX3_like_X3_in rfl rfl rfl (by decide +kernel) ⟨Nat.le_of_ble_eq_true rfl, Nat.le_of_ble_eq_true rfl⟩) (q_pS (hP.sub [] rfl) (hK.sub [] rfl)) rfl rfl hl.1 rfl (lv_room (Nat.le_of_ble_eq_true rfl)) dX3_like_14 ⟨Nat.le_of_ble_eq_true rfl, Nat.le_of_ble_eq_true rfl⟩) hP hS (fun x3 H locs e3 hP hS => ?_)
  have e3 : x3 = nI 1 := by
    have h9 : x3 = p_b (q_in (nI 0) (nI 10) xr) := e3
    rw [h9, (h2q : q_in (nI 0) (nI 10) xr = true)]
    rfl
  subst e3
  refine lv_if_eq (tgt := 36) hx hb dX3_like_17 (by decide) (fun c4 => absurd c4 (by decide)) (fun c4 => ?_)
  refine lv_iload hx hb dX3_like_20 (lv_at hl 4 rfl) ?_
  refine lv_bipush (v := (-20)) hx hb dX3_like_22 (by decide) ?_
  refine lv_bipush (v := nI 20) hx hb dX3_like_24 (by decide) ?_
  refine q_ciR (va_runS (rm := { frames := 0, cells := 0, slots := 0, locals := 0 }) (As := [.int xl, .int (-20), .int (nI 20)]) (rest := []) ⟨hx, hb, hml, hown, hts⟩ (m3_in l D xl (-20) (nI 20)) (va_cwS 3 hts gX3_like_X3_in rfl rfl rfl (by decide +kernel) ⟨Nat.le_of_ble_eq_true rfl, Nat.le_of_ble_eq_true rfl⟩) (q_pS (hP.sub [] rfl) (hK.sub [] rfl)) rfl rfl hl.1 rfl (lv_room (Nat.le_of_ble_eq_true rfl)) dX3_like_26 ⟨Nat.le_of_ble_eq_true rfl, Nat.le_of_ble_eq_true rfl⟩) hP hS (fun x5 H locs e5 hP hS => ?_)
  have e5 : x5 = nI 1 := by
    have h9 : x5 = p_b (q_in (-20) (nI 20) xl) := e5
    rw [h9, (h3q : q_in (-20) (nI 20) xl = true)]
    rfl
  subst e5
  refine lv_if_eq (tgt := 36) hx hb dX3_like_29 (by decide) (fun c6 => absurd c6 (by decide)) (fun c6 => ?_)
  refine lv_iconst (v := nI 1) hx hb dX3_like_32 (by decide) ?_
  refine lv_goto (tgt := 37) hx hb dX3_like_33 (by decide) ?_
  refine lv_istore (lv' := [(5, .int (nI 1)), (0, .ref o), (1, .int x0), (2, .int xt), (3, .int xr), (4, .int xl)]) hx hb dX3_like_37 hl (by decide) rfl (fun ls hl => ?_)
  refine lv_aload_n hx hb dX3_like_39 rfl (lv_at hl 1 rfl) ?_
  refine lv_iload_n hx hb dX3_like_40 rfl (lv_at hl 2 rfl) ?_
  refine q_ciR (va_runS (rm := { frames := 1, cells := 0, slots := 0, locals := 22 }) (As := [.int x0]) (rest := [.ref o]) ⟨hx, hb, hml, hown, hts⟩ (m3_isGuest l D x0) (va_cwS 1 hts gX3_like_X3_isGuest rfl rfl rfl (by decide +kernel) ⟨Nat.le_of_ble_eq_true rfl, Nat.le_of_ble_eq_true rfl⟩) (q_pS (hP.sub [] rfl) (hK.sub [] rfl)) rfl rfl hl.1 rfl (lv_room (Nat.le_of_ble_eq_true rfl)) dX3_like_41 ⟨Nat.le_of_ble_eq_true rfl, Nat.le_of_ble_eq_true rfl⟩) hP hS (fun x7 H locs e7 hP hS => ?_)
  have e7 : x7 = nI 0 := by
    have h9 : x7 = p_b (q_in (nI 0) (nI 7) x0) := e7
    rw [h9, (h0q : q_in (nI 0) (nI 7) x0 = false)]
    rfl
  subst e7
  refine lv_if_ne (tgt := 51) hx hb dX3_like_44 (by decide) (fun c8 => absurd c8 (by decide)) (fun c8 => ?_)
  refine lv_iconst (v := nI 1) hx hb dX3_like_47 (by decide) ?_
  refine lv_goto (tgt := 61) hx hb dX3_like_48 (by decide) ?_
  refine q_ci1 (i := 0) (ws' := wR o ps pa pv pn px cI (oM ps pa pv pn px (nI 1) (nI ns) kp ln sp wr le wh te dg) (rr f) fa fv fn fx) (va_runV (rm := { frames := 0, cells := 0, slots := 0, locals := 0 }) (As := [.int (nI 1)]) (rest := []) ⟨hx, hb, hml, hown, hts⟩ (m3_holds1 l D cI o (oM ps pa pv pn px th (nI ns) kp ln sp wr le wh te dg) (Nat.le_of_ble_eq_true rfl)) (cwV 1 hts gX3_like_X3_holds rfl rfl rfl (by decide +kernel) ⟨Nat.le_of_ble_eq_true rfl, Nat.le_of_ble_eq_true rfl⟩) (q_pV (ci := 3) (q0 := 0) (hP.sub [0] rfl) (hK.sub [] rfl) rfl rfl) rfl rfl hl.1 rfl (lv_room (Nat.le_of_ble_eq_true rfl)) dX3_like_61 ⟨Nat.le_of_ble_eq_true rfl, Nat.le_of_ble_eq_true rfl⟩) hP hD hS rfl (Or.inl rfl) rfl (fun x9 H locs e9 hP hD hS => ?_)
  have e9 : x9 = nI 0 := e9
  subst e9
  refine lv_if_ne (tgt := 69) hx hb dX3_like_64 (by decide) (fun c10 => absurd c10 (by decide)) (fun c10 => ?_)
  refine lv_iconst (v := nI 0) hx hb dX3_like_67 (by decide) ?_
  refine hret _ _ _ _ _ rfl ?_ (hP) hS dX3_like_68
  trivial
set_option maxHeartbeats 4000000 in
set_option maxRecDepth 100000 in
theorem m3_cup_ok (l : Launch) (D : va_G) (cI : ClassId) (o ps pa pv pn px : Nat) (f fa fv fn fx : Nat → Int32) (B : Nat) (hI : Inv B f) (ns : Nat) (hn : ns ≤ 6) (th kp ln sp wr le wh te : Int32) (dg : Int64) (g : Nat) (hg : g < 8) (xc : Int32) (h1q : q_in (nI 10) (nI 40) xc = true) (ht : f (8 + g) ≤ xc) (hD : va_D (fun _ => True) (wR o ps pa pv pn px cI (oM ps pa pv pn px th (nI ns) kp ln sp wr le wh te dg) (rr f) fa fv fn fx)) : q_I l yX3_cup wsX3_cup { frames := 2, cells := 0, slots := 0, locals := 42 } [.ref o, .int (nI g), .int xc] (q_bp D (wR o ps pa pv pn px cI (oM ps pa pv pn px th (nI ns) kp ln sp wr le wh te dg) (rr f) fa fv fn fx) [(cI, .int)]) (fun v => v = f g) (fun H => va_P D vwCl (wR o ps pa pv pn px cI (oM ps pa pv pn px (nI 0) (nI ((svn ns))) kp ln sp wr le wh te dg) (rr (upd f g xc)) fa (svf ns fv (rr f)) fn fx) H) (AM o ps pa pv pn px) 0 0 := by
  refine q_goI (cc := cX3_cup) (maxL := 4) (ty := .int) (lv0 := [(0, .ref o), (1, .int (nI g)), (2, .int xc)]) (by decide) rfl (Nat.le_of_ble_eq_true rfl) rfl ?_
  intro p e s m args below meth c Q ls hx hb hml hts hown hP hK hl hret
  have hi3 : ∀ w ∈ wsX30, w ∈ wsX3_cup := by decide +kernel
  have hfl7 := hts (.fieldLink RX3 7 "WhisperedPotsModel" "s" "[I") (by decide +kernel)
  have hS : va_S (AM o ps pa pv pn px) s.heap s.heap [] := va_S.rf
  have hne : o ≠ ps := fun h => absurd (hD.1 0 1 _ _ rfl rfl h) (by decide)
  refine lv_aload_n hx hb dX3_cup_0 rfl (lv_at hl 0 rfl) ?_
  refine lv_iload_n hx hb dX3_cup_1 rfl (lv_at hl 1 rfl) ?_
  refine q_ciR (va_runS (rm := { frames := 1, cells := 0, slots := 0, locals := 22 }) (As := [.int (nI g)]) (rest := [.ref o]) ⟨hx, hb, hml, hown, hts⟩ (m3_isGuest l D (nI g)) (va_cwS 1 hts gX3_cup_X3_isGuest rfl rfl rfl (by decide +kernel) ⟨Nat.le_of_ble_eq_true rfl, Nat.le_of_ble_eq_true rfl⟩) (q_pS (hP.sub [] rfl) (hK.sub [] rfl)) rfl rfl hl.1 rfl (lv_room (Nat.le_of_ble_eq_true rfl)) dX3_cup_2 ⟨Nat.le_of_ble_eq_true rfl, Nat.le_of_ble_eq_true rfl⟩) hP hS (fun x1 H locs e1 hP hS => ?_)
  have e1 : x1 = nI 1 := by
    have h9 : x1 = p_b (q_in (nI 0) (nI 7) (nI g)) := e1
    rw [h9, ((q_inN (Nat.zero_le _) (by omega) (by decide)) : q_in (nI 0) (nI 7) (nI g) = true)]
    rfl
  subst e1
  refine lv_if_ne (tgt := 12) hx hb dX3_cup_5 (by decide) (fun c2 => ?_) (fun c2 => absurd c2 (by decide))
  refine lv_iload_n hx hb dX3_cup_12 rfl (lv_at hl 2 rfl) ?_
  refine lv_bipush (v := nI 10) hx hb dX3_cup_13 (by decide) ?_
  refine lv_bipush (v := nI 40) hx hb dX3_cup_15 (by decide) ?_
  refine q_ciR (va_runS (rm := { frames := 0, cells := 0, slots := 0, locals := 0 }) (As := [.int xc, .int (nI 10), .int (nI 40)]) (rest := [.ref o]) ⟨hx, hb, hml, hown, hts⟩ (m3_in l D xc (nI 10) (nI 40)) (va_cwS 3 hts gX3_cup_X3_in rfl rfl rfl (by decide +kernel) ⟨Nat.le_of_ble_eq_true rfl, Nat.le_of_ble_eq_true rfl⟩) (q_pS (hP.sub [] rfl) (hK.sub [] rfl)) rfl rfl hl.1 rfl (lv_room (Nat.le_of_ble_eq_true rfl)) dX3_cup_17 ⟨Nat.le_of_ble_eq_true rfl, Nat.le_of_ble_eq_true rfl⟩) hP hS (fun x3 H locs e3 hP hS => ?_)
  have e3 : x3 = nI 1 := by
    have h9 : x3 = p_b (q_in (nI 10) (nI 40) xc) := e3
    rw [h9, (h1q : q_in (nI 10) (nI 40) xc = true)]
    rfl
  subst e3
  refine lv_if_ne (tgt := 27) hx hb dX3_cup_20 (by decide) (fun c4 => ?_) (fun c4 => absurd c4 (by decide))
  refine lv_aload_n hx hb dX3_cup_27 rfl (lv_at hl 0 rfl) ?_
  refine va_get (D := D) (ci := 3) (v := .ref ps) (C := RX3) (T := TX3) (N := 15) hx hb hts hi3 hown hK hP 0 rfl rfl 1 (by decide) hfl7 (fun _ h9 => h9) rfl dX3_cup_28 ?_
  refine lv_iload_n hx hb dX3_cup_31 rfl (lv_at hl 1 rfl) ?_
  refine lv_iconst (v := nI 1) hx hb dX3_cup_32 (by decide) ?_
  refine q_ciR (va_runS (rm := { frames := 0, cells := 0, slots := 0, locals := 0 }) (As := [.int (nI g), .int (nI 1)]) (rest := [.ref ps, .ref o]) ⟨hx, hb, hml, hown, hts⟩ (m3_of l D g 1 (by omega) (by omega)) (va_cwS 2 hts gX3_cup_X3_of rfl rfl rfl (by decide +kernel) ⟨Nat.le_of_ble_eq_true rfl, Nat.le_of_ble_eq_true rfl⟩) (q_pS (hP.sub [] rfl) (hK.sub [] rfl)) rfl rfl hl.1 rfl (lv_room (Nat.le_of_ble_eq_true rfl)) dX3_cup_33 ⟨Nat.le_of_ble_eq_true rfl, Nat.le_of_ble_eq_true rfl⟩) hP hS (fun x5 H locs e5 hP hS => ?_)
  have e5 : x5 = (nI (1 + 9 * g)) := Eq.trans e5 (congrArg nI (by omega))
  subst e5
  refine q_ld hx hb hK hP 1 0 rfl rfl (j := (1 + 9 * g)) (v := f (8 + g)) (by omega) (by omega) (rr_at (pm_g1 (by omega))) dX3_cup_36 ?_
  refine lv_iload_n hx hb dX3_cup_37 rfl (lv_at hl 2 rfl) ?_
  refine lv_icmp_le (tgt := 45) hx hb dX3_cup_38 (by decide) (fun c6 => ?_) (fun c6 => absurd c6 (fun z => z ht))
  refine lv_iconst (v := nI 0) hx hb dX3_cup_45 (by decide) ?_
  refine q_ci1 (i := 0) (ws' := wR o ps pa pv pn px cI (oM ps pa pv pn px (nI 0) (nI ns) kp ln sp wr le wh te dg) (rr f) fa fv fn fx) (va_runV (rm := { frames := 0, cells := 0, slots := 0, locals := 0 }) (As := [.int (nI 0)]) (rest := []) ⟨hx, hb, hml, hown, hts⟩ (m3_holds0 l D cI o (oM ps pa pv pn px th (nI ns) kp ln sp wr le wh te dg) (Nat.le_of_ble_eq_true rfl)) (cwV 1 hts gX3_cup_X3_holds rfl rfl rfl (by decide +kernel) ⟨Nat.le_of_ble_eq_true rfl, Nat.le_of_ble_eq_true rfl⟩) (q_pV (ci := 3) (q0 := 0) (hP.sub [0] rfl) (hK.sub [] rfl) rfl rfl) rfl rfl hl.1 rfl (lv_room (Nat.le_of_ble_eq_true rfl)) dX3_cup_46 ⟨Nat.le_of_ble_eq_true rfl, Nat.le_of_ble_eq_true rfl⟩) hP hD hS rfl (Or.inl rfl) rfl (fun x7 H locs e7 hP hD hS => ?_)
  have e7 : x7 = nI 1 := e7
  subst e7
  refine lv_if_ne (tgt := 54) hx hb dX3_cup_49 (by decide) (fun c8 => ?_) (fun c8 => absurd c8 (by decide))
  refine lv_aload_n hx hb dX3_cup_54 rfl (lv_at hl 0 rfl) ?_
  refine q_cvF (BH := fun H => va_P D vwCl (wR o ps pa pv pn px cI (oM ps pa pv pn px (nI 0) (nI ((svn ns))) kp ln sp wr le wh te dg) (rr f) fa (svf ns fv (rr f)) fn fx) H) (va_runV (rm := { frames := 0, cells := 0, slots := 0, locals := 0 }) (As := []) (rest := []) ⟨hx, hb, hml, hown, hts⟩ (m3_save l D cI o ps pa pv pn px f fa fv fn fx ns hn (nI 0) kp ln sp wr le wh te dg hD) (cwV 0 hts gX3_cup_X3_save rfl rfl rfl (by decide +kernel) ⟨Nat.le_of_ble_eq_true rfl, Nat.le_of_ble_eq_true rfl⟩) (q_pV (ci := 3) (q0 := 0) hP hK rfl rfl) rfl rfl hl.1 rfl (lv_room (Nat.le_of_ble_eq_true rfl)) dX3_cup_55 ⟨Nat.le_of_ble_eq_true rfl, Nat.le_of_ble_eq_true rfl⟩) (fun _ h => h) hS (fun _ h => h) (fun H locs hP hS => ?_)
  have hD := q_D2 (ws' := wR o ps pa pv pn px cI (oM ps pa pv pn px (nI 0) (nI ((svn ns))) kp ln sp wr le wh te dg) (rr f) fa (svf ns fv (rr f)) fn fx) hD rfl
  refine lv_aload_n hx hb dX3_cup_58 rfl (lv_at hl 0 rfl) ?_
  refine va_get (D := D) (ci := 3) (v := .ref ps) (C := RX3) (T := TX3) (N := 15) hx hb hts hi3 hown hK hP 0 rfl rfl 1 (by decide) hfl7 (fun _ h9 => h9) rfl dX3_cup_59 ?_
  refine lv_iload_n hx hb dX3_cup_62 rfl (lv_at hl 1 rfl) ?_
  refine lv_iconst (v := nI 0) hx hb dX3_cup_63 (by decide) ?_
  refine q_ciR (va_runS (rm := { frames := 0, cells := 0, slots := 0, locals := 0 }) (As := [.int (nI g), .int (nI 0)]) (rest := [.ref ps]) ⟨hx, hb, hml, hown, hts⟩ (m3_of l D g 0 (by omega) (by omega)) (va_cwS 2 hts gX3_cup_X3_of rfl rfl rfl (by decide +kernel) ⟨Nat.le_of_ble_eq_true rfl, Nat.le_of_ble_eq_true rfl⟩) (q_pS (hP.sub [] rfl) (hK.sub [] rfl)) rfl rfl hl.1 rfl (lv_room (Nat.le_of_ble_eq_true rfl)) dX3_cup_64 ⟨Nat.le_of_ble_eq_true rfl, Nat.le_of_ble_eq_true rfl⟩) hP hS (fun x10 H locs e10 hP hS => ?_)
  have e10 : x10 = (nI (9 * g)) := Eq.trans e10 (congrArg nI (by omega))
  subst e10
  refine q_ld hx hb hK hP 1 0 rfl rfl (j := (9 * g)) (v := f g) (by omega) (by omega) (rr_at (pm_g0 (by omega))) dX3_cup_67 ?_
  refine lv_topi (fun x11 e11 => ?_)
  refine lv_istore_n (lv' := [(3, .int x11), (0, .ref o), (1, .int (nI g)), (2, .int xc)]) hx hb dX3_cup_68 rfl hl (by decide) rfl (fun ls hl => ?_)
  refine lv_aload_n hx hb dX3_cup_69 rfl (lv_at hl 1 rfl) ?_
  refine va_get (D := D) (ci := 3) (v := .ref ps) (C := RX3) (T := TX3) (N := 15) hx hb hts hi3 hown hK hP 0 rfl rfl 1 (by decide) hfl7 (fun _ h9 => h9) rfl dX3_cup_70 ?_
  refine lv_iload_n hx hb dX3_cup_73 rfl (lv_at hl 2 rfl) ?_
  refine lv_iconst (v := nI 0) hx hb dX3_cup_74 (by decide) ?_
  refine q_ciR (va_runS (rm := { frames := 0, cells := 0, slots := 0, locals := 0 }) (As := [.int (nI g), .int (nI 0)]) (rest := [.ref ps]) ⟨hx, hb, hml, hown, hts⟩ (m3_of l D g 0 (by omega) (by omega)) (va_cwS 2 hts gX3_cup_X3_of rfl rfl rfl (by decide +kernel) ⟨Nat.le_of_ble_eq_true rfl, Nat.le_of_ble_eq_true rfl⟩) (q_pS (hP.sub [] rfl) (hK.sub [] rfl)) rfl rfl hl.1 rfl (lv_room (Nat.le_of_ble_eq_true rfl)) dX3_cup_75 ⟨Nat.le_of_ble_eq_true rfl, Nat.le_of_ble_eq_true rfl⟩) hP hS (fun x12 H locs e12 hP hS => ?_)
  have e12 : x12 = (nI (9 * g)) := Eq.trans e12 (congrArg nI (by omega))
  subst e12
  refine lv_iload_n hx hb dX3_cup_78 rfl (lv_at hl 3 rfl) ?_
  refine q_stR hx hb hK hP hD hS 1 0 rfl rfl (Or.inr (Or.inl rfl)) (j := (9 * g)) (i := g) (by omega) (by omega) (pm_g0 (by omega)) (fun g => wR o ps pa pv pn px cI (oM ps pa pv pn px (nI 0) (nI ((svn ns))) kp ln sp wr le wh te dg) (rr g) fa (svf ns fv (rr f)) fn fx) (fun _ => rfl) dX3_cup_79 (fun H locs f13 hf13 hP hD hS => ?_)
  refine lv_iload_n hx hb dX3_cup_80 rfl (lv_at hl 0 rfl) ?_
  have hE : f13 = upd f g xc := by (subst hf13 e11; rfl)
  rw [hE] at hP
  refine hret _ _ _ _ _ rfl ?_ (hP) hS dX3_cup_81
  subst hf13 e11
  rfl
set_option maxHeartbeats 4000000 in
set_option maxRecDepth 100000 in
theorem m3_cup_3 (l : Launch) (D : va_G) (cI : ClassId) (o ps pa pv pn px : Nat) (f fa fv fn fx : Nat → Int32) (B : Nat) (hI : Inv B f) (ns : Nat) (hn : ns ≤ 6) (th kp ln sp wr le wh te : Int32) (dg : Int64) (g : Nat) (hg : g < 8) (xc : Int32) (h1q : q_in (nI 10) (nI 40) xc = true) (ht : ¬ f (8 + g) ≤ xc) (hD : va_D (fun _ => True) (wR o ps pa pv pn px cI (oM ps pa pv pn px th (nI ns) kp ln sp wr le wh te dg) (rr f) fa fv fn fx)) : q_I l yX3_cup wsX3_cup { frames := 2, cells := 0, slots := 0, locals := 42 } [.ref o, .int (nI g), .int xc] (q_bp D (wR o ps pa pv pn px cI (oM ps pa pv pn px th (nI ns) kp ln sp wr le wh te dg) (rr f) fa fv fn fx) [(cI, .int)]) (fun v => True) (fun H => va_P D vwCl (wR o ps pa pv pn px cI (oM ps pa pv pn px (nI 3) (nI ns) kp ln sp wr le wh te dg) (rr f) fa fv fn fx) H) (AM o ps pa pv pn px) 0 0 := by
  refine q_goI (cc := cX3_cup) (maxL := 4) (ty := .int) (lv0 := [(0, .ref o), (1, .int (nI g)), (2, .int xc)]) (by decide) rfl (Nat.le_of_ble_eq_true rfl) rfl ?_
  intro p e s m args below meth c Q ls hx hb hml hts hown hP hK hl hret
  have hi3 : ∀ w ∈ wsX30, w ∈ wsX3_cup := by decide +kernel
  have hfl7 := hts (.fieldLink RX3 7 "WhisperedPotsModel" "s" "[I") (by decide +kernel)
  have hS : va_S (AM o ps pa pv pn px) s.heap s.heap [] := va_S.rf
  have hne : o ≠ ps := fun h => absurd (hD.1 0 1 _ _ rfl rfl h) (by decide)
  refine lv_aload_n hx hb dX3_cup_0 rfl (lv_at hl 0 rfl) ?_
  refine lv_iload_n hx hb dX3_cup_1 rfl (lv_at hl 1 rfl) ?_
  refine q_ciR (va_runS (rm := { frames := 1, cells := 0, slots := 0, locals := 22 }) (As := [.int (nI g)]) (rest := [.ref o]) ⟨hx, hb, hml, hown, hts⟩ (m3_isGuest l D (nI g)) (va_cwS 1 hts gX3_cup_X3_isGuest rfl rfl rfl (by decide +kernel) ⟨Nat.le_of_ble_eq_true rfl, Nat.le_of_ble_eq_true rfl⟩) (q_pS (hP.sub [] rfl) (hK.sub [] rfl)) rfl rfl hl.1 rfl (lv_room (Nat.le_of_ble_eq_true rfl)) dX3_cup_2 ⟨Nat.le_of_ble_eq_true rfl, Nat.le_of_ble_eq_true rfl⟩) hP hS (fun x1 H locs e1 hP hS => ?_)
  have e1 : x1 = nI 1 := by
    have h9 : x1 = p_b (q_in (nI 0) (nI 7) (nI g)) := e1
    rw [h9, ((q_inN (Nat.zero_le _) (by omega) (by decide)) : q_in (nI 0) (nI 7) (nI g) = true)]
    rfl
  subst e1
  refine lv_if_ne (tgt := 12) hx hb dX3_cup_5 (by decide) (fun c2 => ?_) (fun c2 => absurd c2 (by decide))
  refine lv_iload_n hx hb dX3_cup_12 rfl (lv_at hl 2 rfl) ?_
  refine lv_bipush (v := nI 10) hx hb dX3_cup_13 (by decide) ?_
  refine lv_bipush (v := nI 40) hx hb dX3_cup_15 (by decide) ?_
  refine q_ciR (va_runS (rm := { frames := 0, cells := 0, slots := 0, locals := 0 }) (As := [.int xc, .int (nI 10), .int (nI 40)]) (rest := [.ref o]) ⟨hx, hb, hml, hown, hts⟩ (m3_in l D xc (nI 10) (nI 40)) (va_cwS 3 hts gX3_cup_X3_in rfl rfl rfl (by decide +kernel) ⟨Nat.le_of_ble_eq_true rfl, Nat.le_of_ble_eq_true rfl⟩) (q_pS (hP.sub [] rfl) (hK.sub [] rfl)) rfl rfl hl.1 rfl (lv_room (Nat.le_of_ble_eq_true rfl)) dX3_cup_17 ⟨Nat.le_of_ble_eq_true rfl, Nat.le_of_ble_eq_true rfl⟩) hP hS (fun x3 H locs e3 hP hS => ?_)
  have e3 : x3 = nI 1 := by
    have h9 : x3 = p_b (q_in (nI 10) (nI 40) xc) := e3
    rw [h9, (h1q : q_in (nI 10) (nI 40) xc = true)]
    rfl
  subst e3
  refine lv_if_ne (tgt := 27) hx hb dX3_cup_20 (by decide) (fun c4 => ?_) (fun c4 => absurd c4 (by decide))
  refine lv_aload_n hx hb dX3_cup_27 rfl (lv_at hl 0 rfl) ?_
  refine va_get (D := D) (ci := 3) (v := .ref ps) (C := RX3) (T := TX3) (N := 15) hx hb hts hi3 hown hK hP 0 rfl rfl 1 (by decide) hfl7 (fun _ h9 => h9) rfl dX3_cup_28 ?_
  refine lv_iload_n hx hb dX3_cup_31 rfl (lv_at hl 1 rfl) ?_
  refine lv_iconst (v := nI 1) hx hb dX3_cup_32 (by decide) ?_
  refine q_ciR (va_runS (rm := { frames := 0, cells := 0, slots := 0, locals := 0 }) (As := [.int (nI g), .int (nI 1)]) (rest := [.ref ps, .ref o]) ⟨hx, hb, hml, hown, hts⟩ (m3_of l D g 1 (by omega) (by omega)) (va_cwS 2 hts gX3_cup_X3_of rfl rfl rfl (by decide +kernel) ⟨Nat.le_of_ble_eq_true rfl, Nat.le_of_ble_eq_true rfl⟩) (q_pS (hP.sub [] rfl) (hK.sub [] rfl)) rfl rfl hl.1 rfl (lv_room (Nat.le_of_ble_eq_true rfl)) dX3_cup_33 ⟨Nat.le_of_ble_eq_true rfl, Nat.le_of_ble_eq_true rfl⟩) hP hS (fun x5 H locs e5 hP hS => ?_)
  have e5 : x5 = (nI (1 + 9 * g)) := Eq.trans e5 (congrArg nI (by omega))
  subst e5
  refine q_ld hx hb hK hP 1 0 rfl rfl (j := (1 + 9 * g)) (v := f (8 + g)) (by omega) (by omega) (rr_at (pm_g1 (by omega))) dX3_cup_36 ?_
  refine lv_iload_n hx hb dX3_cup_37 rfl (lv_at hl 2 rfl) ?_
  refine lv_icmp_le (tgt := 45) hx hb dX3_cup_38 (by decide) (fun c6 => absurd c6 ht) (fun c6 => ?_)
  refine lv_iconst (v := nI 3) hx hb dX3_cup_41 (by decide) ?_
  refine lv_goto (tgt := 46) hx hb dX3_cup_42 (by decide) ?_
  refine q_ci1 (i := 0) (ws' := wR o ps pa pv pn px cI (oM ps pa pv pn px (nI 3) (nI ns) kp ln sp wr le wh te dg) (rr f) fa fv fn fx) (va_runV (rm := { frames := 0, cells := 0, slots := 0, locals := 0 }) (As := [.int (nI 3)]) (rest := []) ⟨hx, hb, hml, hown, hts⟩ (m3_holds3 l D cI o (oM ps pa pv pn px th (nI ns) kp ln sp wr le wh te dg) (Nat.le_of_ble_eq_true rfl)) (cwV 1 hts gX3_cup_X3_holds rfl rfl rfl (by decide +kernel) ⟨Nat.le_of_ble_eq_true rfl, Nat.le_of_ble_eq_true rfl⟩) (q_pV (ci := 3) (q0 := 0) (hP.sub [0] rfl) (hK.sub [] rfl) rfl rfl) rfl rfl hl.1 rfl (lv_room (Nat.le_of_ble_eq_true rfl)) dX3_cup_46 ⟨Nat.le_of_ble_eq_true rfl, Nat.le_of_ble_eq_true rfl⟩) hP hD hS rfl (Or.inl rfl) rfl (fun x7 H locs e7 hP hD hS => ?_)
  have e7 : x7 = nI 0 := e7
  subst e7
  refine lv_if_ne (tgt := 54) hx hb dX3_cup_49 (by decide) (fun c8 => absurd c8 (by decide)) (fun c8 => ?_)
  refine lv_iconst (v := nI 0) hx hb dX3_cup_52 (by decide) ?_
  refine hret _ _ _ _ _ rfl ?_ (hP) hS dX3_cup_53
  trivial
set_option maxHeartbeats 4000000 in
set_option maxRecDepth 100000 in
theorem m3_cup_2 (l : Launch) (D : va_G) (cI : ClassId) (o ps pa pv pn px : Nat) (f fa fv fn fx : Nat → Int32) (B : Nat) (hI : Inv B f) (ns : Nat) (hn : ns ≤ 6) (th kp ln sp wr le wh te : Int32) (dg : Int64) (g : Nat) (hg : g < 8) (xc : Int32) (h1q : q_in (nI 10) (nI 40) xc = false) (hD : va_D (fun _ => True) (wR o ps pa pv pn px cI (oM ps pa pv pn px th (nI ns) kp ln sp wr le wh te dg) (rr f) fa fv fn fx)) : q_I l yX3_cup wsX3_cup { frames := 2, cells := 0, slots := 0, locals := 42 } [.ref o, .int (nI g), .int xc] (q_bp D (wR o ps pa pv pn px cI (oM ps pa pv pn px th (nI ns) kp ln sp wr le wh te dg) (rr f) fa fv fn fx) [(cI, .int)]) (fun v => True) (fun H => va_P D vwCl (wR o ps pa pv pn px cI (oM ps pa pv pn px (nI 2) (nI ns) kp ln sp wr le wh te dg) (rr f) fa fv fn fx) H) (AM o ps pa pv pn px) 0 0 := by
  refine q_goI (cc := cX3_cup) (maxL := 4) (ty := .int) (lv0 := [(0, .ref o), (1, .int (nI g)), (2, .int xc)]) (by decide) rfl (Nat.le_of_ble_eq_true rfl) rfl ?_
  intro p e s m args below meth c Q ls hx hb hml hts hown hP hK hl hret
  have hi3 : ∀ w ∈ wsX30, w ∈ wsX3_cup := by decide +kernel
  have hfl7 := hts (.fieldLink RX3 7 "WhisperedPotsModel" "s" "[I") (by decide +kernel)
  have hS : va_S (AM o ps pa pv pn px) s.heap s.heap [] := va_S.rf
  have hne : o ≠ ps := fun h => absurd (hD.1 0 1 _ _ rfl rfl h) (by decide)
  refine lv_aload_n hx hb dX3_cup_0 rfl (lv_at hl 0 rfl) ?_
  refine lv_iload_n hx hb dX3_cup_1 rfl (lv_at hl 1 rfl) ?_
  refine q_ciR (va_runS (rm := { frames := 1, cells := 0, slots := 0, locals := 22 }) (As := [.int (nI g)]) (rest := [.ref o]) ⟨hx, hb, hml, hown, hts⟩ (m3_isGuest l D (nI g)) (va_cwS 1 hts gX3_cup_X3_isGuest rfl rfl rfl (by decide +kernel) ⟨Nat.le_of_ble_eq_true rfl, Nat.le_of_ble_eq_true rfl⟩) (q_pS (hP.sub [] rfl) (hK.sub [] rfl)) rfl rfl hl.1 rfl (lv_room (Nat.le_of_ble_eq_true rfl)) dX3_cup_2 ⟨Nat.le_of_ble_eq_true rfl, Nat.le_of_ble_eq_true rfl⟩) hP hS (fun x1 H locs e1 hP hS => ?_)
  have e1 : x1 = nI 1 := by
    have h9 : x1 = p_b (q_in (nI 0) (nI 7) (nI g)) := e1
    rw [h9, ((q_inN (Nat.zero_le _) (by omega) (by decide)) : q_in (nI 0) (nI 7) (nI g) = true)]
    rfl
  subst e1
  refine lv_if_ne (tgt := 12) hx hb dX3_cup_5 (by decide) (fun c2 => ?_) (fun c2 => absurd c2 (by decide))
  refine lv_iload_n hx hb dX3_cup_12 rfl (lv_at hl 2 rfl) ?_
  refine lv_bipush (v := nI 10) hx hb dX3_cup_13 (by decide) ?_
  refine lv_bipush (v := nI 40) hx hb dX3_cup_15 (by decide) ?_
  refine q_ciR (va_runS (rm := { frames := 0, cells := 0, slots := 0, locals := 0 }) (As := [.int xc, .int (nI 10), .int (nI 40)]) (rest := [.ref o]) ⟨hx, hb, hml, hown, hts⟩ (m3_in l D xc (nI 10) (nI 40)) (va_cwS 3 hts gX3_cup_X3_in rfl rfl rfl (by decide +kernel) ⟨Nat.le_of_ble_eq_true rfl, Nat.le_of_ble_eq_true rfl⟩) (q_pS (hP.sub [] rfl) (hK.sub [] rfl)) rfl rfl hl.1 rfl (lv_room (Nat.le_of_ble_eq_true rfl)) dX3_cup_17 ⟨Nat.le_of_ble_eq_true rfl, Nat.le_of_ble_eq_true rfl⟩) hP hS (fun x3 H locs e3 hP hS => ?_)
  have e3 : x3 = nI 0 := by
    have h9 : x3 = p_b (q_in (nI 10) (nI 40) xc) := e3
    rw [h9, (h1q : q_in (nI 10) (nI 40) xc = false)]
    rfl
  subst e3
  refine lv_if_ne (tgt := 27) hx hb dX3_cup_20 (by decide) (fun c4 => absurd c4 (by decide)) (fun c4 => ?_)
  refine lv_iconst (v := nI 2) hx hb dX3_cup_23 (by decide) ?_
  refine lv_goto (tgt := 46) hx hb dX3_cup_24 (by decide) ?_
  refine q_ci1 (i := 0) (ws' := wR o ps pa pv pn px cI (oM ps pa pv pn px (nI 2) (nI ns) kp ln sp wr le wh te dg) (rr f) fa fv fn fx) (va_runV (rm := { frames := 0, cells := 0, slots := 0, locals := 0 }) (As := [.int (nI 2)]) (rest := []) ⟨hx, hb, hml, hown, hts⟩ (m3_holds2 l D cI o (oM ps pa pv pn px th (nI ns) kp ln sp wr le wh te dg) (Nat.le_of_ble_eq_true rfl)) (cwV 1 hts gX3_cup_X3_holds rfl rfl rfl (by decide +kernel) ⟨Nat.le_of_ble_eq_true rfl, Nat.le_of_ble_eq_true rfl⟩) (q_pV (ci := 3) (q0 := 0) (hP.sub [0] rfl) (hK.sub [] rfl) rfl rfl) rfl rfl hl.1 rfl (lv_room (Nat.le_of_ble_eq_true rfl)) dX3_cup_46 ⟨Nat.le_of_ble_eq_true rfl, Nat.le_of_ble_eq_true rfl⟩) hP hD hS rfl (Or.inl rfl) rfl (fun x5 H locs e5 hP hD hS => ?_)
  have e5 : x5 = nI 0 := e5
  subst e5
  refine lv_if_ne (tgt := 54) hx hb dX3_cup_49 (by decide) (fun c6 => absurd c6 (by decide)) (fun c6 => ?_)
  refine lv_iconst (v := nI 0) hx hb dX3_cup_52 (by decide) ?_
  refine hret _ _ _ _ _ rfl ?_ (hP) hS dX3_cup_53
  trivial
set_option maxHeartbeats 4000000 in
set_option maxRecDepth 100000 in
theorem m3_cup_1 (l : Launch) (D : va_G) (cI : ClassId) (o ps pa pv pn px : Nat) (f fa fv fn fx : Nat → Int32) (B : Nat) (hI : Inv B f) (ns : Nat) (hn : ns ≤ 6) (th kp ln sp wr le wh te : Int32) (dg : Int64) (x0 xc : Int32) (h0q : q_in (nI 0) (nI 7) x0 = false) (hD : va_D (fun _ => True) (wR o ps pa pv pn px cI (oM ps pa pv pn px th (nI ns) kp ln sp wr le wh te dg) (rr f) fa fv fn fx)) : q_I l yX3_cup wsX3_cup { frames := 2, cells := 0, slots := 0, locals := 42 } [.ref o, .int x0, .int xc] (q_bp D (wR o ps pa pv pn px cI (oM ps pa pv pn px th (nI ns) kp ln sp wr le wh te dg) (rr f) fa fv fn fx) [(cI, .int)]) (fun v => True) (fun H => va_P D vwCl (wR o ps pa pv pn px cI (oM ps pa pv pn px (nI 1) (nI ns) kp ln sp wr le wh te dg) (rr f) fa fv fn fx) H) (AM o ps pa pv pn px) 0 0 := by
  refine q_goI (cc := cX3_cup) (maxL := 4) (ty := .int) (lv0 := [(0, .ref o), (1, .int x0), (2, .int xc)]) (by decide) rfl (Nat.le_of_ble_eq_true rfl) rfl ?_
  intro p e s m args below meth c Q ls hx hb hml hts hown hP hK hl hret
  have hi3 : ∀ w ∈ wsX30, w ∈ wsX3_cup := by decide +kernel
  have hfl7 := hts (.fieldLink RX3 7 "WhisperedPotsModel" "s" "[I") (by decide +kernel)
  have hS : va_S (AM o ps pa pv pn px) s.heap s.heap [] := va_S.rf
  have hne : o ≠ ps := fun h => absurd (hD.1 0 1 _ _ rfl rfl h) (by decide)
  refine lv_aload_n hx hb dX3_cup_0 rfl (lv_at hl 0 rfl) ?_
  refine lv_iload_n hx hb dX3_cup_1 rfl (lv_at hl 1 rfl) ?_
  refine q_ciR (va_runS (rm := { frames := 1, cells := 0, slots := 0, locals := 22 }) (As := [.int x0]) (rest := [.ref o]) ⟨hx, hb, hml, hown, hts⟩ (m3_isGuest l D x0) (va_cwS 1 hts gX3_cup_X3_isGuest rfl rfl rfl (by decide +kernel) ⟨Nat.le_of_ble_eq_true rfl, Nat.le_of_ble_eq_true rfl⟩) (q_pS (hP.sub [] rfl) (hK.sub [] rfl)) rfl rfl hl.1 rfl (lv_room (Nat.le_of_ble_eq_true rfl)) dX3_cup_2 ⟨Nat.le_of_ble_eq_true rfl, Nat.le_of_ble_eq_true rfl⟩) hP hS (fun x1 H locs e1 hP hS => ?_)
  have e1 : x1 = nI 0 := by
    have h9 : x1 = p_b (q_in (nI 0) (nI 7) x0) := e1
    rw [h9, (h0q : q_in (nI 0) (nI 7) x0 = false)]
    rfl
  subst e1
  refine lv_if_ne (tgt := 12) hx hb dX3_cup_5 (by decide) (fun c2 => absurd c2 (by decide)) (fun c2 => ?_)
  refine lv_iconst (v := nI 1) hx hb dX3_cup_8 (by decide) ?_
  refine lv_goto (tgt := 46) hx hb dX3_cup_9 (by decide) ?_
  refine q_ci1 (i := 0) (ws' := wR o ps pa pv pn px cI (oM ps pa pv pn px (nI 1) (nI ns) kp ln sp wr le wh te dg) (rr f) fa fv fn fx) (va_runV (rm := { frames := 0, cells := 0, slots := 0, locals := 0 }) (As := [.int (nI 1)]) (rest := []) ⟨hx, hb, hml, hown, hts⟩ (m3_holds1 l D cI o (oM ps pa pv pn px th (nI ns) kp ln sp wr le wh te dg) (Nat.le_of_ble_eq_true rfl)) (cwV 1 hts gX3_cup_X3_holds rfl rfl rfl (by decide +kernel) ⟨Nat.le_of_ble_eq_true rfl, Nat.le_of_ble_eq_true rfl⟩) (q_pV (ci := 3) (q0 := 0) (hP.sub [0] rfl) (hK.sub [] rfl) rfl rfl) rfl rfl hl.1 rfl (lv_room (Nat.le_of_ble_eq_true rfl)) dX3_cup_46 ⟨Nat.le_of_ble_eq_true rfl, Nat.le_of_ble_eq_true rfl⟩) hP hD hS rfl (Or.inl rfl) rfl (fun x3 H locs e3 hP hD hS => ?_)
  have e3 : x3 = nI 0 := e3
  subst e3
  refine lv_if_ne (tgt := 54) hx hb dX3_cup_49 (by decide) (fun c4 => absurd c4 (by decide)) (fun c4 => ?_)
  refine lv_iconst (v := nI 0) hx hb dX3_cup_52 (by decide) ?_
  refine hret _ _ _ _ _ rfl ?_ (hP) hS dX3_cup_53
  trivial
set_option maxHeartbeats 4000000 in
set_option maxRecDepth 100000 in
theorem m3_sip_ok (l : Launch) (D : va_G) (cI : ClassId) (o ps pa pv pn px : Nat) (f fa fv fn fx : Nat → Int32) (B : Nat) (hI : Inv B f) (ns : Nat) (hn : ns ≤ 6) (th kp ln sp wr le wh te : Int32) (dg : Int64) (g : Nat) (hg : g < 8) (hD : va_D (fun _ => True) (wR o ps pa pv pn px cI (oM ps pa pv pn px th (nI ns) kp ln sp wr le wh te dg) (rr f) fa fv fn fx)) : q_I l yX3_sip wsX3_sip { frames := 2, cells := 0, slots := 0, locals := 43 } [.ref o, .int (nI g)] (q_bp D (wR o ps pa pv pn px cI (oM ps pa pv pn px th (nI ns) kp ln sp wr le wh te dg) (rr f) fa fv fn fx) [(cI, .int)]) (fun v => v = g_dr f g) (fun H => va_P D vwCl (wR o ps pa pv pn px cI (oM ps pa pv pn px (nI 0) (nI ((svn ns))) kp ln sp wr le wh te dg) (rr (g_drink f g)) fa (svf ns fv (rr f)) fn fx) H) (AM o ps pa pv pn px) 0 0 := by
  refine q_goI (cc := cX3_sip) (maxL := 2) (ty := .int) (lv0 := [(0, .ref o), (1, .int (nI g))]) (by decide) rfl (Nat.le_of_ble_eq_true rfl) rfl ?_
  intro p e s m args below meth c Q ls hx hb hml hts hown hP hK hl hret
  have hS : va_S (AM o ps pa pv pn px) s.heap s.heap [] := va_S.rf
  have hne : o ≠ ps := fun h => absurd (hD.1 0 1 _ _ rfl rfl h) (by decide)
  refine lv_aload_n hx hb dX3_sip_0 rfl (lv_at hl 0 rfl) ?_
  refine lv_iload_n hx hb dX3_sip_1 rfl (lv_at hl 1 rfl) ?_
  refine q_ciR (va_runS (rm := { frames := 1, cells := 0, slots := 0, locals := 22 }) (As := [.int (nI g)]) (rest := [.ref o]) ⟨hx, hb, hml, hown, hts⟩ (m3_isGuest l D (nI g)) (va_cwS 1 hts gX3_sip_X3_isGuest rfl rfl rfl (by decide +kernel) ⟨Nat.le_of_ble_eq_true rfl, Nat.le_of_ble_eq_true rfl⟩) (q_pS (hP.sub [] rfl) (hK.sub [] rfl)) rfl rfl hl.1 rfl (lv_room (Nat.le_of_ble_eq_true rfl)) dX3_sip_2 ⟨Nat.le_of_ble_eq_true rfl, Nat.le_of_ble_eq_true rfl⟩) hP hS (fun x1 H locs e1 hP hS => ?_)
  have e1 : x1 = nI 1 := by
    have h9 : x1 = p_b (q_in (nI 0) (nI 7) (nI g)) := e1
    rw [h9, ((q_inN (Nat.zero_le _) (by omega) (by decide)) : q_in (nI 0) (nI 7) (nI g) = true)]
    rfl
  subst e1
  refine lv_if_eq (tgt := 12) hx hb dX3_sip_5 (by decide) (fun c2 => absurd c2 (by decide)) (fun c2 => ?_)
  refine lv_iconst (v := nI 0) hx hb dX3_sip_8 (by decide) ?_
  refine lv_goto (tgt := 13) hx hb dX3_sip_9 (by decide) ?_
  refine q_ci1 (i := 0) (ws' := wR o ps pa pv pn px cI (oM ps pa pv pn px (nI 0) (nI ns) kp ln sp wr le wh te dg) (rr f) fa fv fn fx) (va_runV (rm := { frames := 0, cells := 0, slots := 0, locals := 0 }) (As := [.int (nI 0)]) (rest := []) ⟨hx, hb, hml, hown, hts⟩ (m3_holds0 l D cI o (oM ps pa pv pn px th (nI ns) kp ln sp wr le wh te dg) (Nat.le_of_ble_eq_true rfl)) (cwV 1 hts gX3_sip_X3_holds rfl rfl rfl (by decide +kernel) ⟨Nat.le_of_ble_eq_true rfl, Nat.le_of_ble_eq_true rfl⟩) (q_pV (ci := 3) (q0 := 0) (hP.sub [0] rfl) (hK.sub [] rfl) rfl rfl) rfl rfl hl.1 rfl (lv_room (Nat.le_of_ble_eq_true rfl)) dX3_sip_13 ⟨Nat.le_of_ble_eq_true rfl, Nat.le_of_ble_eq_true rfl⟩) hP hD hS rfl (Or.inl rfl) rfl (fun x3 H locs e3 hP hD hS => ?_)
  have e3 : x3 = nI 1 := e3
  subst e3
  refine lv_if_ne (tgt := 21) hx hb dX3_sip_16 (by decide) (fun c4 => ?_) (fun c4 => absurd c4 (by decide))
  refine lv_aload_n hx hb dX3_sip_21 rfl (lv_at hl 0 rfl) ?_
  refine q_cvF (BH := fun H => va_P D vwCl (wR o ps pa pv pn px cI (oM ps pa pv pn px (nI 0) (nI ((svn ns))) kp ln sp wr le wh te dg) (rr f) fa (svf ns fv (rr f)) fn fx) H) (va_runV (rm := { frames := 0, cells := 0, slots := 0, locals := 0 }) (As := []) (rest := []) ⟨hx, hb, hml, hown, hts⟩ (m3_save l D cI o ps pa pv pn px f fa fv fn fx ns hn (nI 0) kp ln sp wr le wh te dg hD) (cwV 0 hts gX3_sip_X3_save rfl rfl rfl (by decide +kernel) ⟨Nat.le_of_ble_eq_true rfl, Nat.le_of_ble_eq_true rfl⟩) (q_pV (ci := 3) (q0 := 0) hP hK rfl rfl) rfl rfl hl.1 rfl (lv_room (Nat.le_of_ble_eq_true rfl)) dX3_sip_22 ⟨Nat.le_of_ble_eq_true rfl, Nat.le_of_ble_eq_true rfl⟩) (fun _ h => h) hS (fun _ h => h) (fun H locs hP hS => ?_)
  have hD := q_D2 (ws' := wR o ps pa pv pn px cI (oM ps pa pv pn px (nI 0) (nI ((svn ns))) kp ln sp wr le wh te dg) (rr f) fa (svf ns fv (rr f)) fn fx) hD rfl
  refine lv_aload_n hx hb dX3_sip_25 rfl (lv_at hl 0 rfl) ?_
  refine lv_iload_n hx hb dX3_sip_26 rfl (lv_at hl 1 rfl) ?_
  refine q_ci1 (i := 1) (ws' := wR o ps pa pv pn px cI (oM ps pa pv pn px (nI 0) (nI ((svn ns))) kp ln sp wr le wh te dg) (rr (g_drink f g)) fa (svf ns fv (rr f)) fn fx) (va_runV (rm := { frames := 1, cells := 0, slots := 0, locals := 21 }) (As := [.int (nI g)]) (rest := []) ⟨hx, hb, hml, hown, hts⟩ (m3_sips l D cI o ps g (oM ps pa pv pn px (nI 0) (nI ((svn ns))) kp ln sp wr le wh te dg) f rfl (by omega) B hI hne) (cwV 1 hts gX3_sip_X3_sips rfl rfl rfl (by decide +kernel) ⟨Nat.le_of_ble_eq_true rfl, Nat.le_of_ble_eq_true rfl⟩) (q_pV (ci := 3) (q0 := 0) (hP.sub (ws' := wS o ps cI (oM ps pa pv pn px (nI 0) (nI ((svn ns))) kp ln sp wr le wh te dg) f) [0, 1] rfl) hK rfl rfl) rfl rfl hl.1 rfl (lv_room (Nat.le_of_ble_eq_true rfl)) dX3_sip_27 ⟨Nat.le_of_ble_eq_true rfl, Nat.le_of_ble_eq_true rfl⟩) hP hD hS rfl (Or.inr (Or.inl rfl)) rfl (fun x6 H locs e6 hP hD hS => ?_)
  obtain ⟨f6, hf6⟩ : ∃ z, z = g_drink f g := ⟨_, rfl⟩
  rw [← hf6] at hP hD
  have e6 : x6 = g_dr f g := e6
  have hE : f6 = g_drink f g := by (subst e6 hf6; rfl)
  rw [hE] at hP
  refine hret _ _ _ _ _ rfl ?_ (hP) hS dX3_sip_30
  subst e6 hf6
  rfl
set_option maxHeartbeats 4000000 in
set_option maxRecDepth 100000 in
theorem m3_sip_1 (l : Launch) (D : va_G) (cI : ClassId) (o ps pa pv pn px : Nat) (f fa fv fn fx : Nat → Int32) (B : Nat) (hI : Inv B f) (ns : Nat) (hn : ns ≤ 6) (th kp ln sp wr le wh te : Int32) (dg : Int64) (x0 : Int32) (h0q : q_in (nI 0) (nI 7) x0 = false) (hD : va_D (fun _ => True) (wR o ps pa pv pn px cI (oM ps pa pv pn px th (nI ns) kp ln sp wr le wh te dg) (rr f) fa fv fn fx)) : q_I l yX3_sip wsX3_sip { frames := 2, cells := 0, slots := 0, locals := 42 } [.ref o, .int x0] (q_bp D (wR o ps pa pv pn px cI (oM ps pa pv pn px th (nI ns) kp ln sp wr le wh te dg) (rr f) fa fv fn fx) [(cI, .int)]) (fun v => True) (fun H => va_P D vwCl (wR o ps pa pv pn px cI (oM ps pa pv pn px (nI 1) (nI ns) kp ln sp wr le wh te dg) (rr f) fa fv fn fx) H) (AM o ps pa pv pn px) 0 0 := by
  refine q_goI (cc := cX3_sip) (maxL := 2) (ty := .int) (lv0 := [(0, .ref o), (1, .int x0)]) (by decide) rfl (Nat.le_of_ble_eq_true rfl) rfl ?_
  intro p e s m args below meth c Q ls hx hb hml hts hown hP hK hl hret
  have hS : va_S (AM o ps pa pv pn px) s.heap s.heap [] := va_S.rf
  have hne : o ≠ ps := fun h => absurd (hD.1 0 1 _ _ rfl rfl h) (by decide)
  refine lv_aload_n hx hb dX3_sip_0 rfl (lv_at hl 0 rfl) ?_
  refine lv_iload_n hx hb dX3_sip_1 rfl (lv_at hl 1 rfl) ?_
  refine q_ciR (va_runS (rm := { frames := 1, cells := 0, slots := 0, locals := 22 }) (As := [.int x0]) (rest := [.ref o]) ⟨hx, hb, hml, hown, hts⟩ (m3_isGuest l D x0) (va_cwS 1 hts gX3_sip_X3_isGuest rfl rfl rfl (by decide +kernel) ⟨Nat.le_of_ble_eq_true rfl, Nat.le_of_ble_eq_true rfl⟩) (q_pS (hP.sub [] rfl) (hK.sub [] rfl)) rfl rfl hl.1 rfl (lv_room (Nat.le_of_ble_eq_true rfl)) dX3_sip_2 ⟨Nat.le_of_ble_eq_true rfl, Nat.le_of_ble_eq_true rfl⟩) hP hS (fun x1 H locs e1 hP hS => ?_)
  have e1 : x1 = nI 0 := by
    have h9 : x1 = p_b (q_in (nI 0) (nI 7) x0) := e1
    rw [h9, (h0q : q_in (nI 0) (nI 7) x0 = false)]
    rfl
  subst e1
  refine lv_if_eq (tgt := 12) hx hb dX3_sip_5 (by decide) (fun c2 => ?_) (fun c2 => absurd c2 (by decide))
  refine lv_iconst (v := nI 1) hx hb dX3_sip_12 (by decide) ?_
  refine q_ci1 (i := 0) (ws' := wR o ps pa pv pn px cI (oM ps pa pv pn px (nI 1) (nI ns) kp ln sp wr le wh te dg) (rr f) fa fv fn fx) (va_runV (rm := { frames := 0, cells := 0, slots := 0, locals := 0 }) (As := [.int (nI 1)]) (rest := []) ⟨hx, hb, hml, hown, hts⟩ (m3_holds1 l D cI o (oM ps pa pv pn px th (nI ns) kp ln sp wr le wh te dg) (Nat.le_of_ble_eq_true rfl)) (cwV 1 hts gX3_sip_X3_holds rfl rfl rfl (by decide +kernel) ⟨Nat.le_of_ble_eq_true rfl, Nat.le_of_ble_eq_true rfl⟩) (q_pV (ci := 3) (q0 := 0) (hP.sub [0] rfl) (hK.sub [] rfl) rfl rfl) rfl rfl hl.1 rfl (lv_room (Nat.le_of_ble_eq_true rfl)) dX3_sip_13 ⟨Nat.le_of_ble_eq_true rfl, Nat.le_of_ble_eq_true rfl⟩) hP hD hS rfl (Or.inl rfl) rfl (fun x3 H locs e3 hP hD hS => ?_)
  have e3 : x3 = nI 0 := e3
  subst e3
  refine lv_if_ne (tgt := 21) hx hb dX3_sip_16 (by decide) (fun c4 => absurd c4 (by decide)) (fun c4 => ?_)
  refine lv_iconst (v := nI 0) hx hb dX3_sip_19 (by decide) ?_
  refine hret _ _ _ _ _ rfl ?_ (hP) hS dX3_sip_20
  trivial
set_option maxHeartbeats 4000000 in
set_option maxRecDepth 100000 in
theorem m3_brew_ok (l : Launch) (D : va_G) (cI : ClassId) (o ps pa pv pn px : Nat) (f fa fv fn fx : Nat → Int32) (B : Nat) (hI : Inv B f) (ns : Nat) (hn : ns ≤ 6) (th kp ln sp wr le wh te : Int32) (dg : Int64) (k : Nat) (hk : k < 3) (xt : Int32) (h1q : q_in (nI 1) (nI 200) xt = true) (ht : f (75 + k) + xt ≤ nI 200) (hD : va_D (fun _ => True) (wR o ps pa pv pn px cI (oM ps pa pv pn px th (nI ns) kp ln sp wr le wh te dg) (rr f) fa fv fn fx)) : q_I l yX3_brew wsX3_brew { frames := 2, cells := 0, slots := 0, locals := 43 } [.ref o, .int (nI k), .int xt] (q_bp D (wR o ps pa pv pn px cI (oM ps pa pv pn px th (nI ns) kp ln sp wr le wh te dg) (rr f) fa fv fn fx) [(cI, .int)]) (fun v => v = g_brew f k xt (75 + k)) (fun H => va_P D vwCl (wR o ps pa pv pn px cI (oM ps pa pv pn px (nI 0) (nI ((svn ns))) kp ln sp wr le wh te dg) (rr (g_brew f k xt)) fa (svf ns fv (rr f)) fn fx) H) (AM o ps pa pv pn px) 0 0 := by
  refine q_goI (cc := cX3_brew) (maxL := 3) (ty := .int) (lv0 := [(0, .ref o), (1, .int (nI k)), (2, .int xt)]) (by decide) rfl (Nat.le_of_ble_eq_true rfl) rfl ?_
  intro p e s m args below meth c Q ls hx hb hml hts hown hP hK hl hret
  have hi3 : ∀ w ∈ wsX30, w ∈ wsX3_brew := by decide +kernel
  have hfl7 := hts (.fieldLink RX3 7 "WhisperedPotsModel" "s" "[I") (by decide +kernel)
  have hS : va_S (AM o ps pa pv pn px) s.heap s.heap [] := va_S.rf
  have hne : o ≠ ps := fun h => absurd (hD.1 0 1 _ _ rfl rfl h) (by decide)
  refine lv_aload_n hx hb dX3_brew_0 rfl (lv_at hl 0 rfl) ?_
  refine lv_iload_n hx hb dX3_brew_1 rfl (lv_at hl 1 rfl) ?_
  refine q_ciR (va_runS (rm := { frames := 1, cells := 0, slots := 0, locals := 22 }) (As := [.int (nI k)]) (rest := [.ref o]) ⟨hx, hb, hml, hown, hts⟩ (m3_isPot l D (nI k)) (va_cwS 1 hts gX3_brew_X3_isPot rfl rfl rfl (by decide +kernel) ⟨Nat.le_of_ble_eq_true rfl, Nat.le_of_ble_eq_true rfl⟩) (q_pS (hP.sub [] rfl) (hK.sub [] rfl)) rfl rfl hl.1 rfl (lv_room (Nat.le_of_ble_eq_true rfl)) dX3_brew_2 ⟨Nat.le_of_ble_eq_true rfl, Nat.le_of_ble_eq_true rfl⟩) hP hS (fun x1 H locs e1 hP hS => ?_)
  have e1 : x1 = nI 1 := by
    have h9 : x1 = p_b (q_in (nI 0) (nI 2) (nI k)) := e1
    rw [h9, ((q_inN (Nat.zero_le _) (by omega) (by decide)) : q_in (nI 0) (nI 2) (nI k) = true)]
    rfl
  subst e1
  refine lv_if_ne (tgt := 12) hx hb dX3_brew_5 (by decide) (fun c2 => ?_) (fun c2 => absurd c2 (by decide))
  refine lv_iload_n hx hb dX3_brew_12 rfl (lv_at hl 2 rfl) ?_
  refine lv_iconst (v := nI 1) hx hb dX3_brew_13 (by decide) ?_
  refine lv_sipush (v := nI 200) hx hb dX3_brew_14 (by decide) ?_
  refine q_ciR (va_runS (rm := { frames := 0, cells := 0, slots := 0, locals := 0 }) (As := [.int xt, .int (nI 1), .int (nI 200)]) (rest := [.ref o]) ⟨hx, hb, hml, hown, hts⟩ (m3_in l D xt (nI 1) (nI 200)) (va_cwS 3 hts gX3_brew_X3_in rfl rfl rfl (by decide +kernel) ⟨Nat.le_of_ble_eq_true rfl, Nat.le_of_ble_eq_true rfl⟩) (q_pS (hP.sub [] rfl) (hK.sub [] rfl)) rfl rfl hl.1 rfl (lv_room (Nat.le_of_ble_eq_true rfl)) dX3_brew_17 ⟨Nat.le_of_ble_eq_true rfl, Nat.le_of_ble_eq_true rfl⟩) hP hS (fun x3 H locs e3 hP hS => ?_)
  have e3 : x3 = nI 1 := by
    have h9 : x3 = p_b (q_in (nI 1) (nI 200) xt) := e3
    rw [h9, (h1q : q_in (nI 1) (nI 200) xt = true)]
    rfl
  subst e3
  refine lv_if_ne (tgt := 27) hx hb dX3_brew_20 (by decide) (fun c4 => ?_) (fun c4 => absurd c4 (by decide))
  refine lv_aload_n hx hb dX3_brew_27 rfl (lv_at hl 0 rfl) ?_
  refine va_get (D := D) (ci := 3) (v := .ref ps) (C := RX3) (T := TX3) (N := 15) hx hb hts hi3 hown hK hP 0 rfl rfl 1 (by decide) hfl7 (fun _ h9 => h9) rfl dX3_brew_28 ?_
  refine lv_iload_n hx hb dX3_brew_31 rfl (lv_at hl 1 rfl) ?_
  refine lv_iconst (v := nI 1) hx hb dX3_brew_32 (by decide) ?_
  refine q_ciR (va_runS (rm := { frames := 0, cells := 0, slots := 0, locals := 0 }) (As := [.int (nI k), .int (nI 1)]) (rest := [.ref ps, .ref o]) ⟨hx, hb, hml, hown, hts⟩ (m3_ofPot l D k 1 (by omega) (by omega)) (va_cwS 2 hts gX3_brew_X3_ofPot rfl rfl rfl (by decide +kernel) ⟨Nat.le_of_ble_eq_true rfl, Nat.le_of_ble_eq_true rfl⟩) (q_pS (hP.sub [] rfl) (hK.sub [] rfl)) rfl rfl hl.1 rfl (lv_room (Nat.le_of_ble_eq_true rfl)) dX3_brew_33 ⟨Nat.le_of_ble_eq_true rfl, Nat.le_of_ble_eq_true rfl⟩) hP hS (fun x5 H locs e5 hP hS => ?_)
  have e5 : x5 = (nI (73 + 5 * k)) := Eq.trans e5 (congrArg nI (by omega))
  subst e5
  refine q_ld hx hb hK hP 1 0 rfl rfl (j := (73 + 5 * k)) (v := f (75 + k)) (by omega) (by omega) (rr_at (pm_p1 (by omega))) dX3_brew_36 ?_
  refine lv_iload_n hx hb dX3_brew_37 rfl (lv_at hl 2 rfl) ?_
  refine lv_iadd hx hb dX3_brew_38 ?_
  refine lv_sipush (v := nI 200) hx hb dX3_brew_39 (by decide) ?_
  refine lv_icmp_le (tgt := 49) hx hb dX3_brew_42 (by decide) (fun c6 => ?_) (fun c6 => absurd c6 (fun z => z ht))
  refine lv_iconst (v := nI 0) hx hb dX3_brew_49 (by decide) ?_
  refine q_ci1 (i := 0) (ws' := wR o ps pa pv pn px cI (oM ps pa pv pn px (nI 0) (nI ns) kp ln sp wr le wh te dg) (rr f) fa fv fn fx) (va_runV (rm := { frames := 0, cells := 0, slots := 0, locals := 0 }) (As := [.int (nI 0)]) (rest := []) ⟨hx, hb, hml, hown, hts⟩ (m3_holds0 l D cI o (oM ps pa pv pn px th (nI ns) kp ln sp wr le wh te dg) (Nat.le_of_ble_eq_true rfl)) (cwV 1 hts gX3_brew_X3_holds rfl rfl rfl (by decide +kernel) ⟨Nat.le_of_ble_eq_true rfl, Nat.le_of_ble_eq_true rfl⟩) (q_pV (ci := 3) (q0 := 0) (hP.sub [0] rfl) (hK.sub [] rfl) rfl rfl) rfl rfl hl.1 rfl (lv_room (Nat.le_of_ble_eq_true rfl)) dX3_brew_50 ⟨Nat.le_of_ble_eq_true rfl, Nat.le_of_ble_eq_true rfl⟩) hP hD hS rfl (Or.inl rfl) rfl (fun x7 H locs e7 hP hD hS => ?_)
  have e7 : x7 = nI 1 := e7
  subst e7
  refine lv_if_ne (tgt := 58) hx hb dX3_brew_53 (by decide) (fun c8 => ?_) (fun c8 => absurd c8 (by decide))
  refine lv_aload_n hx hb dX3_brew_58 rfl (lv_at hl 0 rfl) ?_
  refine q_cvF (BH := fun H => va_P D vwCl (wR o ps pa pv pn px cI (oM ps pa pv pn px (nI 0) (nI ((svn ns))) kp ln sp wr le wh te dg) (rr f) fa (svf ns fv (rr f)) fn fx) H) (va_runV (rm := { frames := 0, cells := 0, slots := 0, locals := 0 }) (As := []) (rest := []) ⟨hx, hb, hml, hown, hts⟩ (m3_save l D cI o ps pa pv pn px f fa fv fn fx ns hn (nI 0) kp ln sp wr le wh te dg hD) (cwV 0 hts gX3_brew_X3_save rfl rfl rfl (by decide +kernel) ⟨Nat.le_of_ble_eq_true rfl, Nat.le_of_ble_eq_true rfl⟩) (q_pV (ci := 3) (q0 := 0) hP hK rfl rfl) rfl rfl hl.1 rfl (lv_room (Nat.le_of_ble_eq_true rfl)) dX3_brew_59 ⟨Nat.le_of_ble_eq_true rfl, Nat.le_of_ble_eq_true rfl⟩) (fun _ h => h) hS (fun _ h => h) (fun H locs hP hS => ?_)
  have hD := q_D2 (ws' := wR o ps pa pv pn px cI (oM ps pa pv pn px (nI 0) (nI ((svn ns))) kp ln sp wr le wh te dg) (rr f) fa (svf ns fv (rr f)) fn fx) hD rfl
  refine lv_aload_n hx hb dX3_brew_62 rfl (lv_at hl 0 rfl) ?_
  refine lv_iload_n hx hb dX3_brew_63 rfl (lv_at hl 1 rfl) ?_
  refine lv_iload_n hx hb dX3_brew_64 rfl (lv_at hl 2 rfl) ?_
  refine q_ci1 (i := 1) (ws' := wR o ps pa pv pn px cI (oM ps pa pv pn px (nI 0) (nI ((svn ns))) kp ln sp wr le wh te dg) (rr (g_brew f k xt)) fa (svf ns fv (rr f)) fn fx) (va_runV (rm := { frames := 1, cells := 0, slots := 0, locals := 21 }) (As := [.int (nI k), .int xt]) (rest := []) ⟨hx, hb, hml, hown, hts⟩ (m3_brews l D cI o ps k (oM ps pa pv pn px (nI 0) (nI ((svn ns))) kp ln sp wr le wh te dg) f rfl (by omega) xt hne) (cwV 2 hts gX3_brew_X3_brews rfl rfl rfl (by decide +kernel) ⟨Nat.le_of_ble_eq_true rfl, Nat.le_of_ble_eq_true rfl⟩) (q_pV (ci := 3) (q0 := 0) (hP.sub (ws' := wS o ps cI (oM ps pa pv pn px (nI 0) (nI ((svn ns))) kp ln sp wr le wh te dg) f) [0, 1] rfl) hK rfl rfl) rfl rfl hl.1 rfl (lv_room (Nat.le_of_ble_eq_true rfl)) dX3_brew_65 ⟨Nat.le_of_ble_eq_true rfl, Nat.le_of_ble_eq_true rfl⟩) hP hD hS rfl (Or.inr (Or.inl rfl)) rfl (fun x10 H locs e10 hP hD hS => ?_)
  obtain ⟨f10, hf10⟩ : ∃ z, z = g_brew f k xt := ⟨_, rfl⟩
  rw [← hf10] at hP hD
  have e10 : x10 = g_brew f k xt (75 + k) := e10
  have hE : f10 = g_brew f k xt := by (subst e10 hf10; rfl)
  rw [hE] at hP
  refine hret _ _ _ _ _ rfl ?_ (hP) hS dX3_brew_68
  subst e10 hf10
  rfl
set_option maxHeartbeats 4000000 in
set_option maxRecDepth 100000 in
theorem m3_brew_3 (l : Launch) (D : va_G) (cI : ClassId) (o ps pa pv pn px : Nat) (f fa fv fn fx : Nat → Int32) (B : Nat) (hI : Inv B f) (ns : Nat) (hn : ns ≤ 6) (th kp ln sp wr le wh te : Int32) (dg : Int64) (k : Nat) (hk : k < 3) (xt : Int32) (h1q : q_in (nI 1) (nI 200) xt = true) (ht : ¬ f (75 + k) + xt ≤ nI 200) (hD : va_D (fun _ => True) (wR o ps pa pv pn px cI (oM ps pa pv pn px th (nI ns) kp ln sp wr le wh te dg) (rr f) fa fv fn fx)) : q_I l yX3_brew wsX3_brew { frames := 2, cells := 0, slots := 0, locals := 42 } [.ref o, .int (nI k), .int xt] (q_bp D (wR o ps pa pv pn px cI (oM ps pa pv pn px th (nI ns) kp ln sp wr le wh te dg) (rr f) fa fv fn fx) [(cI, .int)]) (fun v => True) (fun H => va_P D vwCl (wR o ps pa pv pn px cI (oM ps pa pv pn px (nI 3) (nI ns) kp ln sp wr le wh te dg) (rr f) fa fv fn fx) H) (AM o ps pa pv pn px) 0 0 := by
  refine q_goI (cc := cX3_brew) (maxL := 3) (ty := .int) (lv0 := [(0, .ref o), (1, .int (nI k)), (2, .int xt)]) (by decide) rfl (Nat.le_of_ble_eq_true rfl) rfl ?_
  intro p e s m args below meth c Q ls hx hb hml hts hown hP hK hl hret
  have hi3 : ∀ w ∈ wsX30, w ∈ wsX3_brew := by decide +kernel
  have hfl7 := hts (.fieldLink RX3 7 "WhisperedPotsModel" "s" "[I") (by decide +kernel)
  have hS : va_S (AM o ps pa pv pn px) s.heap s.heap [] := va_S.rf
  have hne : o ≠ ps := fun h => absurd (hD.1 0 1 _ _ rfl rfl h) (by decide)
  refine lv_aload_n hx hb dX3_brew_0 rfl (lv_at hl 0 rfl) ?_
  refine lv_iload_n hx hb dX3_brew_1 rfl (lv_at hl 1 rfl) ?_
  refine q_ciR (va_runS (rm := { frames := 1, cells := 0, slots := 0, locals := 22 }) (As := [.int (nI k)]) (rest := [.ref o]) ⟨hx, hb, hml, hown, hts⟩ (m3_isPot l D (nI k)) (va_cwS 1 hts gX3_brew_X3_isPot rfl rfl rfl (by decide +kernel) ⟨Nat.le_of_ble_eq_true rfl, Nat.le_of_ble_eq_true rfl⟩) (q_pS (hP.sub [] rfl) (hK.sub [] rfl)) rfl rfl hl.1 rfl (lv_room (Nat.le_of_ble_eq_true rfl)) dX3_brew_2 ⟨Nat.le_of_ble_eq_true rfl, Nat.le_of_ble_eq_true rfl⟩) hP hS (fun x1 H locs e1 hP hS => ?_)
  have e1 : x1 = nI 1 := by
    have h9 : x1 = p_b (q_in (nI 0) (nI 2) (nI k)) := e1
    rw [h9, ((q_inN (Nat.zero_le _) (by omega) (by decide)) : q_in (nI 0) (nI 2) (nI k) = true)]
    rfl
  subst e1
  refine lv_if_ne (tgt := 12) hx hb dX3_brew_5 (by decide) (fun c2 => ?_) (fun c2 => absurd c2 (by decide))
  refine lv_iload_n hx hb dX3_brew_12 rfl (lv_at hl 2 rfl) ?_
  refine lv_iconst (v := nI 1) hx hb dX3_brew_13 (by decide) ?_
  refine lv_sipush (v := nI 200) hx hb dX3_brew_14 (by decide) ?_
  refine q_ciR (va_runS (rm := { frames := 0, cells := 0, slots := 0, locals := 0 }) (As := [.int xt, .int (nI 1), .int (nI 200)]) (rest := [.ref o]) ⟨hx, hb, hml, hown, hts⟩ (m3_in l D xt (nI 1) (nI 200)) (va_cwS 3 hts gX3_brew_X3_in rfl rfl rfl (by decide +kernel) ⟨Nat.le_of_ble_eq_true rfl, Nat.le_of_ble_eq_true rfl⟩) (q_pS (hP.sub [] rfl) (hK.sub [] rfl)) rfl rfl hl.1 rfl (lv_room (Nat.le_of_ble_eq_true rfl)) dX3_brew_17 ⟨Nat.le_of_ble_eq_true rfl, Nat.le_of_ble_eq_true rfl⟩) hP hS (fun x3 H locs e3 hP hS => ?_)
  have e3 : x3 = nI 1 := by
    have h9 : x3 = p_b (q_in (nI 1) (nI 200) xt) := e3
    rw [h9, (h1q : q_in (nI 1) (nI 200) xt = true)]
    rfl
  subst e3
  refine lv_if_ne (tgt := 27) hx hb dX3_brew_20 (by decide) (fun c4 => ?_) (fun c4 => absurd c4 (by decide))
  refine lv_aload_n hx hb dX3_brew_27 rfl (lv_at hl 0 rfl) ?_
  refine va_get (D := D) (ci := 3) (v := .ref ps) (C := RX3) (T := TX3) (N := 15) hx hb hts hi3 hown hK hP 0 rfl rfl 1 (by decide) hfl7 (fun _ h9 => h9) rfl dX3_brew_28 ?_
  refine lv_iload_n hx hb dX3_brew_31 rfl (lv_at hl 1 rfl) ?_
  refine lv_iconst (v := nI 1) hx hb dX3_brew_32 (by decide) ?_
  refine q_ciR (va_runS (rm := { frames := 0, cells := 0, slots := 0, locals := 0 }) (As := [.int (nI k), .int (nI 1)]) (rest := [.ref ps, .ref o]) ⟨hx, hb, hml, hown, hts⟩ (m3_ofPot l D k 1 (by omega) (by omega)) (va_cwS 2 hts gX3_brew_X3_ofPot rfl rfl rfl (by decide +kernel) ⟨Nat.le_of_ble_eq_true rfl, Nat.le_of_ble_eq_true rfl⟩) (q_pS (hP.sub [] rfl) (hK.sub [] rfl)) rfl rfl hl.1 rfl (lv_room (Nat.le_of_ble_eq_true rfl)) dX3_brew_33 ⟨Nat.le_of_ble_eq_true rfl, Nat.le_of_ble_eq_true rfl⟩) hP hS (fun x5 H locs e5 hP hS => ?_)
  have e5 : x5 = (nI (73 + 5 * k)) := Eq.trans e5 (congrArg nI (by omega))
  subst e5
  refine q_ld hx hb hK hP 1 0 rfl rfl (j := (73 + 5 * k)) (v := f (75 + k)) (by omega) (by omega) (rr_at (pm_p1 (by omega))) dX3_brew_36 ?_
  refine lv_iload_n hx hb dX3_brew_37 rfl (lv_at hl 2 rfl) ?_
  refine lv_iadd hx hb dX3_brew_38 ?_
  refine lv_sipush (v := nI 200) hx hb dX3_brew_39 (by decide) ?_
  refine lv_icmp_le (tgt := 49) hx hb dX3_brew_42 (by decide) (fun c6 => absurd c6 ht) (fun c6 => ?_)
  refine lv_iconst (v := nI 3) hx hb dX3_brew_45 (by decide) ?_
  refine lv_goto (tgt := 50) hx hb dX3_brew_46 (by decide) ?_
  refine q_ci1 (i := 0) (ws' := wR o ps pa pv pn px cI (oM ps pa pv pn px (nI 3) (nI ns) kp ln sp wr le wh te dg) (rr f) fa fv fn fx) (va_runV (rm := { frames := 0, cells := 0, slots := 0, locals := 0 }) (As := [.int (nI 3)]) (rest := []) ⟨hx, hb, hml, hown, hts⟩ (m3_holds3 l D cI o (oM ps pa pv pn px th (nI ns) kp ln sp wr le wh te dg) (Nat.le_of_ble_eq_true rfl)) (cwV 1 hts gX3_brew_X3_holds rfl rfl rfl (by decide +kernel) ⟨Nat.le_of_ble_eq_true rfl, Nat.le_of_ble_eq_true rfl⟩) (q_pV (ci := 3) (q0 := 0) (hP.sub [0] rfl) (hK.sub [] rfl) rfl rfl) rfl rfl hl.1 rfl (lv_room (Nat.le_of_ble_eq_true rfl)) dX3_brew_50 ⟨Nat.le_of_ble_eq_true rfl, Nat.le_of_ble_eq_true rfl⟩) hP hD hS rfl (Or.inl rfl) rfl (fun x7 H locs e7 hP hD hS => ?_)
  have e7 : x7 = nI 0 := e7
  subst e7
  refine lv_if_ne (tgt := 58) hx hb dX3_brew_53 (by decide) (fun c8 => absurd c8 (by decide)) (fun c8 => ?_)
  refine lv_iconst (v := nI 0) hx hb dX3_brew_56 (by decide) ?_
  refine hret _ _ _ _ _ rfl ?_ (hP) hS dX3_brew_57
  trivial
set_option maxHeartbeats 4000000 in
set_option maxRecDepth 100000 in
theorem m3_brew_2 (l : Launch) (D : va_G) (cI : ClassId) (o ps pa pv pn px : Nat) (f fa fv fn fx : Nat → Int32) (B : Nat) (hI : Inv B f) (ns : Nat) (hn : ns ≤ 6) (th kp ln sp wr le wh te : Int32) (dg : Int64) (k : Nat) (hk : k < 3) (xt : Int32) (h1q : q_in (nI 1) (nI 200) xt = false) (hD : va_D (fun _ => True) (wR o ps pa pv pn px cI (oM ps pa pv pn px th (nI ns) kp ln sp wr le wh te dg) (rr f) fa fv fn fx)) : q_I l yX3_brew wsX3_brew { frames := 2, cells := 0, slots := 0, locals := 42 } [.ref o, .int (nI k), .int xt] (q_bp D (wR o ps pa pv pn px cI (oM ps pa pv pn px th (nI ns) kp ln sp wr le wh te dg) (rr f) fa fv fn fx) [(cI, .int)]) (fun v => True) (fun H => va_P D vwCl (wR o ps pa pv pn px cI (oM ps pa pv pn px (nI 2) (nI ns) kp ln sp wr le wh te dg) (rr f) fa fv fn fx) H) (AM o ps pa pv pn px) 0 0 := by
  refine q_goI (cc := cX3_brew) (maxL := 3) (ty := .int) (lv0 := [(0, .ref o), (1, .int (nI k)), (2, .int xt)]) (by decide) rfl (Nat.le_of_ble_eq_true rfl) rfl ?_
  intro p e s m args below meth c Q ls hx hb hml hts hown hP hK hl hret
  have hi3 : ∀ w ∈ wsX30, w ∈ wsX3_brew := by decide +kernel
  have hfl7 := hts (.fieldLink RX3 7 "WhisperedPotsModel" "s" "[I") (by decide +kernel)
  have hS : va_S (AM o ps pa pv pn px) s.heap s.heap [] := va_S.rf
  have hne : o ≠ ps := fun h => absurd (hD.1 0 1 _ _ rfl rfl h) (by decide)
  refine lv_aload_n hx hb dX3_brew_0 rfl (lv_at hl 0 rfl) ?_
  refine lv_iload_n hx hb dX3_brew_1 rfl (lv_at hl 1 rfl) ?_
  refine q_ciR (va_runS (rm := { frames := 1, cells := 0, slots := 0, locals := 22 }) (As := [.int (nI k)]) (rest := [.ref o]) ⟨hx, hb, hml, hown, hts⟩ (m3_isPot l D (nI k)) (va_cwS 1 hts gX3_brew_X3_isPot rfl rfl rfl (by decide +kernel) ⟨Nat.le_of_ble_eq_true rfl, Nat.le_of_ble_eq_true rfl⟩) (q_pS (hP.sub [] rfl) (hK.sub [] rfl)) rfl rfl hl.1 rfl (lv_room (Nat.le_of_ble_eq_true rfl)) dX3_brew_2 ⟨Nat.le_of_ble_eq_true rfl, Nat.le_of_ble_eq_true rfl⟩) hP hS (fun x1 H locs e1 hP hS => ?_)
  have e1 : x1 = nI 1 := by
    have h9 : x1 = p_b (q_in (nI 0) (nI 2) (nI k)) := e1
    rw [h9, ((q_inN (Nat.zero_le _) (by omega) (by decide)) : q_in (nI 0) (nI 2) (nI k) = true)]
    rfl
  subst e1
  refine lv_if_ne (tgt := 12) hx hb dX3_brew_5 (by decide) (fun c2 => ?_) (fun c2 => absurd c2 (by decide))
  refine lv_iload_n hx hb dX3_brew_12 rfl (lv_at hl 2 rfl) ?_
  refine lv_iconst (v := nI 1) hx hb dX3_brew_13 (by decide) ?_
  refine lv_sipush (v := nI 200) hx hb dX3_brew_14 (by decide) ?_
  refine q_ciR (va_runS (rm := { frames := 0, cells := 0, slots := 0, locals := 0 }) (As := [.int xt, .int (nI 1), .int (nI 200)]) (rest := [.ref o]) ⟨hx, hb, hml, hown, hts⟩ (m3_in l D xt (nI 1) (nI 200)) (va_cwS 3 hts gX3_brew_X3_in rfl rfl rfl (by decide +kernel) ⟨Nat.le_of_ble_eq_true rfl, Nat.le_of_ble_eq_true rfl⟩) (q_pS (hP.sub [] rfl) (hK.sub [] rfl)) rfl rfl hl.1 rfl (lv_room (Nat.le_of_ble_eq_true rfl)) dX3_brew_17 ⟨Nat.le_of_ble_eq_true rfl, Nat.le_of_ble_eq_true rfl⟩) hP hS (fun x3 H locs e3 hP hS => ?_)
  have e3 : x3 = nI 0 := by
    have h9 : x3 = p_b (q_in (nI 1) (nI 200) xt) := e3
    rw [h9, (h1q : q_in (nI 1) (nI 200) xt = false)]
    rfl
  subst e3
  refine lv_if_ne (tgt := 27) hx hb dX3_brew_20 (by decide) (fun c4 => absurd c4 (by decide)) (fun c4 => ?_)
  refine lv_iconst (v := nI 2) hx hb dX3_brew_23 (by decide) ?_
  refine lv_goto (tgt := 50) hx hb dX3_brew_24 (by decide) ?_
  refine q_ci1 (i := 0) (ws' := wR o ps pa pv pn px cI (oM ps pa pv pn px (nI 2) (nI ns) kp ln sp wr le wh te dg) (rr f) fa fv fn fx) (va_runV (rm := { frames := 0, cells := 0, slots := 0, locals := 0 }) (As := [.int (nI 2)]) (rest := []) ⟨hx, hb, hml, hown, hts⟩ (m3_holds2 l D cI o (oM ps pa pv pn px th (nI ns) kp ln sp wr le wh te dg) (Nat.le_of_ble_eq_true rfl)) (cwV 1 hts gX3_brew_X3_holds rfl rfl rfl (by decide +kernel) ⟨Nat.le_of_ble_eq_true rfl, Nat.le_of_ble_eq_true rfl⟩) (q_pV (ci := 3) (q0 := 0) (hP.sub [0] rfl) (hK.sub [] rfl) rfl rfl) rfl rfl hl.1 rfl (lv_room (Nat.le_of_ble_eq_true rfl)) dX3_brew_50 ⟨Nat.le_of_ble_eq_true rfl, Nat.le_of_ble_eq_true rfl⟩) hP hD hS rfl (Or.inl rfl) rfl (fun x5 H locs e5 hP hD hS => ?_)
  have e5 : x5 = nI 0 := e5
  subst e5
  refine lv_if_ne (tgt := 58) hx hb dX3_brew_53 (by decide) (fun c6 => absurd c6 (by decide)) (fun c6 => ?_)
  refine lv_iconst (v := nI 0) hx hb dX3_brew_56 (by decide) ?_
  refine hret _ _ _ _ _ rfl ?_ (hP) hS dX3_brew_57
  trivial
set_option maxHeartbeats 4000000 in
set_option maxRecDepth 100000 in
theorem m3_brew_1 (l : Launch) (D : va_G) (cI : ClassId) (o ps pa pv pn px : Nat) (f fa fv fn fx : Nat → Int32) (B : Nat) (hI : Inv B f) (ns : Nat) (hn : ns ≤ 6) (th kp ln sp wr le wh te : Int32) (dg : Int64) (x0 xt : Int32) (h0q : q_in (nI 0) (nI 2) x0 = false) (hD : va_D (fun _ => True) (wR o ps pa pv pn px cI (oM ps pa pv pn px th (nI ns) kp ln sp wr le wh te dg) (rr f) fa fv fn fx)) : q_I l yX3_brew wsX3_brew { frames := 2, cells := 0, slots := 0, locals := 42 } [.ref o, .int x0, .int xt] (q_bp D (wR o ps pa pv pn px cI (oM ps pa pv pn px th (nI ns) kp ln sp wr le wh te dg) (rr f) fa fv fn fx) [(cI, .int)]) (fun v => True) (fun H => va_P D vwCl (wR o ps pa pv pn px cI (oM ps pa pv pn px (nI 1) (nI ns) kp ln sp wr le wh te dg) (rr f) fa fv fn fx) H) (AM o ps pa pv pn px) 0 0 := by
  refine q_goI (cc := cX3_brew) (maxL := 3) (ty := .int) (lv0 := [(0, .ref o), (1, .int x0), (2, .int xt)]) (by decide) rfl (Nat.le_of_ble_eq_true rfl) rfl ?_
  intro p e s m args below meth c Q ls hx hb hml hts hown hP hK hl hret
  have hi3 : ∀ w ∈ wsX30, w ∈ wsX3_brew := by decide +kernel
  have hfl7 := hts (.fieldLink RX3 7 "WhisperedPotsModel" "s" "[I") (by decide +kernel)
  have hS : va_S (AM o ps pa pv pn px) s.heap s.heap [] := va_S.rf
  have hne : o ≠ ps := fun h => absurd (hD.1 0 1 _ _ rfl rfl h) (by decide)
  refine lv_aload_n hx hb dX3_brew_0 rfl (lv_at hl 0 rfl) ?_
  refine lv_iload_n hx hb dX3_brew_1 rfl (lv_at hl 1 rfl) ?_
  refine q_ciR (va_runS (rm := { frames := 1, cells := 0, slots := 0, locals := 22 }) (As := [.int x0]) (rest := [.ref o]) ⟨hx, hb, hml, hown, hts⟩ (m3_isPot l D x0) (va_cwS 1 hts gX3_brew_X3_isPot rfl rfl rfl (by decide +kernel) ⟨Nat.le_of_ble_eq_true rfl, Nat.le_of_ble_eq_true rfl⟩) (q_pS (hP.sub [] rfl) (hK.sub [] rfl)) rfl rfl hl.1 rfl (lv_room (Nat.le_of_ble_eq_true rfl)) dX3_brew_2 ⟨Nat.le_of_ble_eq_true rfl, Nat.le_of_ble_eq_true rfl⟩) hP hS (fun x1 H locs e1 hP hS => ?_)
  have e1 : x1 = nI 0 := by
    have h9 : x1 = p_b (q_in (nI 0) (nI 2) x0) := e1
    rw [h9, (h0q : q_in (nI 0) (nI 2) x0 = false)]
    rfl
  subst e1
  refine lv_if_ne (tgt := 12) hx hb dX3_brew_5 (by decide) (fun c2 => absurd c2 (by decide)) (fun c2 => ?_)
  refine lv_iconst (v := nI 1) hx hb dX3_brew_8 (by decide) ?_
  refine lv_goto (tgt := 50) hx hb dX3_brew_9 (by decide) ?_
  refine q_ci1 (i := 0) (ws' := wR o ps pa pv pn px cI (oM ps pa pv pn px (nI 1) (nI ns) kp ln sp wr le wh te dg) (rr f) fa fv fn fx) (va_runV (rm := { frames := 0, cells := 0, slots := 0, locals := 0 }) (As := [.int (nI 1)]) (rest := []) ⟨hx, hb, hml, hown, hts⟩ (m3_holds1 l D cI o (oM ps pa pv pn px th (nI ns) kp ln sp wr le wh te dg) (Nat.le_of_ble_eq_true rfl)) (cwV 1 hts gX3_brew_X3_holds rfl rfl rfl (by decide +kernel) ⟨Nat.le_of_ble_eq_true rfl, Nat.le_of_ble_eq_true rfl⟩) (q_pV (ci := 3) (q0 := 0) (hP.sub [0] rfl) (hK.sub [] rfl) rfl rfl) rfl rfl hl.1 rfl (lv_room (Nat.le_of_ble_eq_true rfl)) dX3_brew_50 ⟨Nat.le_of_ble_eq_true rfl, Nat.le_of_ble_eq_true rfl⟩) hP hD hS rfl (Or.inl rfl) rfl (fun x3 H locs e3 hP hD hS => ?_)
  have e3 : x3 = nI 0 := e3
  subst e3
  refine lv_if_ne (tgt := 58) hx hb dX3_brew_53 (by decide) (fun c4 => absurd c4 (by decide)) (fun c4 => ?_)
  refine lv_iconst (v := nI 0) hx hb dX3_brew_56 (by decide) ?_
  refine hret _ _ _ _ _ rfl ?_ (hP) hS dX3_brew_57
  trivial
set_option maxHeartbeats 4000000 in
set_option maxRecDepth 100000 in
theorem m3_pour_ok (l : Launch) (D : va_G) (cI : ClassId) (o ps pa pv pn px : Nat) (f fa fv fn fx : Nat → Int32) (B : Nat) (hI : Inv B f) (ns : Nat) (hn : ns ≤ 6) (th kp ln sp wr le wh te : Int32) (dg : Int64) (k : Nat) (hk : k < 3) (hw : g_wy f k = 0) (hD : va_D (fun _ => True) (wR o ps pa pv pn px cI (oM ps pa pv pn px th (nI ns) kp ln sp wr le wh te dg) (rr f) fa fv fn fx)) : q_I l yX3_pour wsX3_pour { frames := 6, cells := 0, slots := 0, locals := 135 } [.ref o, .int (nI k)] (q_bp D (wR o ps pa pv pn px cI (oM ps pa pv pn px th (nI ns) kp ln sp wr le wh te dg) (rr f) fa fv fn fx) [(cI, .int)]) (fun v => v = g_ov f k) (fun H => va_P D vwCl (wR o ps pa pv pn px cI (oM ps pa pv pn px (nI 0) (nI ((svn ns))) kp ln sp wr le wh te dg) (rr (g_pour f k)) fa (svf ns fv (rr f)) fn fx) H) (AM o ps pa pv pn px) 0 0 := by
  refine q_goI (cc := cX3_pour) (maxL := 2) (ty := .int) (lv0 := [(0, .ref o), (1, .int (nI k))]) (by decide) rfl (Nat.le_of_ble_eq_true rfl) rfl ?_
  intro p e s m args below meth c Q ls hx hb hml hts hown hP hK hl hret
  have hS : va_S (AM o ps pa pv pn px) s.heap s.heap [] := va_S.rf
  have hne : o ≠ ps := fun h => absurd (hD.1 0 1 _ _ rfl rfl h) (by decide)
  refine lv_aload_n hx hb dX3_pour_0 rfl (lv_at hl 0 rfl) ?_
  refine lv_iload_n hx hb dX3_pour_1 rfl (lv_at hl 1 rfl) ?_
  refine q_ciR (va_runS (rm := { frames := 1, cells := 0, slots := 0, locals := 22 }) (As := [.int (nI k)]) (rest := [.ref o]) ⟨hx, hb, hml, hown, hts⟩ (m3_isPot l D (nI k)) (va_cwS 1 hts gX3_pour_X3_isPot rfl rfl rfl (by decide +kernel) ⟨Nat.le_of_ble_eq_true rfl, Nat.le_of_ble_eq_true rfl⟩) (q_pS (hP.sub [] rfl) (hK.sub [] rfl)) rfl rfl hl.1 rfl (lv_room (Nat.le_of_ble_eq_true rfl)) dX3_pour_2 ⟨Nat.le_of_ble_eq_true rfl, Nat.le_of_ble_eq_true rfl⟩) hP hS (fun x1 H locs e1 hP hS => ?_)
  have e1 : x1 = nI 1 := by
    have h9 : x1 = p_b (q_in (nI 0) (nI 2) (nI k)) := e1
    rw [h9, ((q_inN (Nat.zero_le _) (by omega) (by decide)) : q_in (nI 0) (nI 2) (nI k) = true)]
    rfl
  subst e1
  refine lv_if_ne (tgt := 12) hx hb dX3_pour_5 (by decide) (fun c2 => ?_) (fun c2 => absurd c2 (by decide))
  refine lv_aload_n hx hb dX3_pour_12 rfl (lv_at hl 0 rfl) ?_
  refine lv_iload_n hx hb dX3_pour_13 rfl (lv_at hl 1 rfl) ?_
  refine q_ciR (va_runV (rm := { frames := 2, cells := 0, slots := 0, locals := 42 }) (As := [.int (nI k)]) (rest := [.ref o]) ⟨hx, hb, hml, hown, hts⟩ (m3_hindrance l D cI o ps k (oM ps pa pv pn px th (nI ns) kp ln sp wr le wh te dg) f rfl B hI hk) (cwV 1 hts gX3_pour_X3_hindrance rfl rfl rfl (by decide +kernel) ⟨Nat.le_of_ble_eq_true rfl, Nat.le_of_ble_eq_true rfl⟩) (q_pV (ci := 3) (q0 := 0) (hP.sub (ws' := wS o ps cI (oM ps pa pv pn px th (nI ns) kp ln sp wr le wh te dg) f) [0, 1] rfl) hK rfl rfl) rfl rfl hl.1 rfl (lv_room (Nat.le_of_ble_eq_true rfl)) dX3_pour_14 ⟨Nat.le_of_ble_eq_true rfl, Nat.le_of_ble_eq_true rfl⟩) hP hS (fun x3 H locs e3 hP hS => ?_)
  have e3 : x3 = g_wy f k := e3
  refine lv_if_le (tgt := 24) hx hb dX3_pour_17 (by decide) (fun c4 => ?_) (fun c4 => absurd c4 (fun z => z (by rw [e3, hw]; decide)))
  refine lv_iconst (v := nI 0) hx hb dX3_pour_24 (by decide) ?_
  refine q_ci1 (i := 0) (ws' := wR o ps pa pv pn px cI (oM ps pa pv pn px (nI 0) (nI ns) kp ln sp wr le wh te dg) (rr f) fa fv fn fx) (va_runV (rm := { frames := 0, cells := 0, slots := 0, locals := 0 }) (As := [.int (nI 0)]) (rest := []) ⟨hx, hb, hml, hown, hts⟩ (m3_holds0 l D cI o (oM ps pa pv pn px th (nI ns) kp ln sp wr le wh te dg) (Nat.le_of_ble_eq_true rfl)) (cwV 1 hts gX3_pour_X3_holds rfl rfl rfl (by decide +kernel) ⟨Nat.le_of_ble_eq_true rfl, Nat.le_of_ble_eq_true rfl⟩) (q_pV (ci := 3) (q0 := 0) (hP.sub [0] rfl) (hK.sub [] rfl) rfl rfl) rfl rfl hl.1 rfl (lv_room (Nat.le_of_ble_eq_true rfl)) dX3_pour_25 ⟨Nat.le_of_ble_eq_true rfl, Nat.le_of_ble_eq_true rfl⟩) hP hD hS rfl (Or.inl rfl) rfl (fun x5 H locs e5 hP hD hS => ?_)
  have e5 : x5 = nI 1 := e5
  subst e5
  refine lv_if_ne (tgt := 33) hx hb dX3_pour_28 (by decide) (fun c6 => ?_) (fun c6 => absurd c6 (by decide))
  refine lv_aload_n hx hb dX3_pour_33 rfl (lv_at hl 0 rfl) ?_
  refine q_cvF (BH := fun H => va_P D vwCl (wR o ps pa pv pn px cI (oM ps pa pv pn px (nI 0) (nI ((svn ns))) kp ln sp wr le wh te dg) (rr f) fa (svf ns fv (rr f)) fn fx) H) (va_runV (rm := { frames := 0, cells := 0, slots := 0, locals := 0 }) (As := []) (rest := []) ⟨hx, hb, hml, hown, hts⟩ (m3_save l D cI o ps pa pv pn px f fa fv fn fx ns hn (nI 0) kp ln sp wr le wh te dg hD) (cwV 0 hts gX3_pour_X3_save rfl rfl rfl (by decide +kernel) ⟨Nat.le_of_ble_eq_true rfl, Nat.le_of_ble_eq_true rfl⟩) (q_pV (ci := 3) (q0 := 0) hP hK rfl rfl) rfl rfl hl.1 rfl (lv_room (Nat.le_of_ble_eq_true rfl)) dX3_pour_34 ⟨Nat.le_of_ble_eq_true rfl, Nat.le_of_ble_eq_true rfl⟩) (fun _ h => h) hS (fun _ h => h) (fun H locs hP hS => ?_)
  have hD := q_D2 (ws' := wR o ps pa pv pn px cI (oM ps pa pv pn px (nI 0) (nI ((svn ns))) kp ln sp wr le wh te dg) (rr f) fa (svf ns fv (rr f)) fn fx) hD rfl
  refine lv_aload_n hx hb dX3_pour_37 rfl (lv_at hl 0 rfl) ?_
  refine lv_iload_n hx hb dX3_pour_38 rfl (lv_at hl 1 rfl) ?_
  refine q_ci1 (i := 1) (ws' := wR o ps pa pv pn px cI (oM ps pa pv pn px (nI 0) (nI ((svn ns))) kp ln sp wr le wh te dg) (rr (g_pour f k)) fa (svf ns fv (rr f)) fn fx) (va_runV (rm := { frames := 5, cells := 0, slots := 0, locals := 110 }) (As := [.int (nI k)]) (rest := []) ⟨hx, hb, hml, hown, hts⟩ (m3_pours l D cI o ps k (oM ps pa pv pn px (nI 0) (nI ((svn ns))) kp ln sp wr le wh te dg) f rfl B hI hk hne) (cwV 1 hts gX3_pour_X3_pours rfl rfl rfl (by decide +kernel) ⟨Nat.le_of_ble_eq_true rfl, Nat.le_of_ble_eq_true rfl⟩) (q_pV (ci := 3) (q0 := 0) (hP.sub (ws' := wS o ps cI (oM ps pa pv pn px (nI 0) (nI ((svn ns))) kp ln sp wr le wh te dg) f) [0, 1] rfl) hK rfl rfl) rfl rfl hl.1 rfl (lv_room (Nat.le_of_ble_eq_true rfl)) dX3_pour_39 ⟨Nat.le_of_ble_eq_true rfl, Nat.le_of_ble_eq_true rfl⟩) hP hD hS rfl (Or.inr (Or.inl rfl)) rfl (fun x8 H locs e8 hP hD hS => ?_)
  obtain ⟨f8, hf8⟩ : ∃ z, z = g_pour f k := ⟨_, rfl⟩
  rw [← hf8] at hP hD
  have e8 : x8 = g_ov f k := e8
  have hE : f8 = g_pour f k := by (subst e8 hf8 e3; rfl)
  rw [hE] at hP
  refine hret _ _ _ _ _ rfl ?_ (hP) hS dX3_pour_42
  subst e8 hf8 e3
  rfl
set_option maxHeartbeats 4000000 in
set_option maxRecDepth 100000 in
theorem m3_pour_2 (l : Launch) (D : va_G) (cI : ClassId) (o ps pa pv pn px : Nat) (f fa fv fn fx : Nat → Int32) (B : Nat) (hI : Inv B f) (ns : Nat) (hn : ns ≤ 6) (th kp ln sp wr le wh te : Int32) (dg : Int64) (k : Nat) (hk : k < 3) (hw : ¬ g_wy f k = 0) (hD : va_D (fun _ => True) (wR o ps pa pv pn px cI (oM ps pa pv pn px th (nI ns) kp ln sp wr le wh te dg) (rr f) fa fv fn fx)) : q_I l yX3_pour wsX3_pour { frames := 3, cells := 0, slots := 0, locals := 63 } [.ref o, .int (nI k)] (q_bp D (wR o ps pa pv pn px cI (oM ps pa pv pn px th (nI ns) kp ln sp wr le wh te dg) (rr f) fa fv fn fx) [(cI, .int)]) (fun v => True) (fun H => va_P D vwCl (wR o ps pa pv pn px cI (oM ps pa pv pn px (nI 2) (nI ns) kp ln sp wr le wh te dg) (rr f) fa fv fn fx) H) (AM o ps pa pv pn px) 0 0 := by
  refine q_goI (cc := cX3_pour) (maxL := 2) (ty := .int) (lv0 := [(0, .ref o), (1, .int (nI k))]) (by decide) rfl (Nat.le_of_ble_eq_true rfl) rfl ?_
  intro p e s m args below meth c Q ls hx hb hml hts hown hP hK hl hret
  have hS : va_S (AM o ps pa pv pn px) s.heap s.heap [] := va_S.rf
  have hne : o ≠ ps := fun h => absurd (hD.1 0 1 _ _ rfl rfl h) (by decide)
  refine lv_aload_n hx hb dX3_pour_0 rfl (lv_at hl 0 rfl) ?_
  refine lv_iload_n hx hb dX3_pour_1 rfl (lv_at hl 1 rfl) ?_
  refine q_ciR (va_runS (rm := { frames := 1, cells := 0, slots := 0, locals := 22 }) (As := [.int (nI k)]) (rest := [.ref o]) ⟨hx, hb, hml, hown, hts⟩ (m3_isPot l D (nI k)) (va_cwS 1 hts gX3_pour_X3_isPot rfl rfl rfl (by decide +kernel) ⟨Nat.le_of_ble_eq_true rfl, Nat.le_of_ble_eq_true rfl⟩) (q_pS (hP.sub [] rfl) (hK.sub [] rfl)) rfl rfl hl.1 rfl (lv_room (Nat.le_of_ble_eq_true rfl)) dX3_pour_2 ⟨Nat.le_of_ble_eq_true rfl, Nat.le_of_ble_eq_true rfl⟩) hP hS (fun x1 H locs e1 hP hS => ?_)
  have e1 : x1 = nI 1 := by
    have h9 : x1 = p_b (q_in (nI 0) (nI 2) (nI k)) := e1
    rw [h9, ((q_inN (Nat.zero_le _) (by omega) (by decide)) : q_in (nI 0) (nI 2) (nI k) = true)]
    rfl
  subst e1
  refine lv_if_ne (tgt := 12) hx hb dX3_pour_5 (by decide) (fun c2 => ?_) (fun c2 => absurd c2 (by decide))
  refine lv_aload_n hx hb dX3_pour_12 rfl (lv_at hl 0 rfl) ?_
  refine lv_iload_n hx hb dX3_pour_13 rfl (lv_at hl 1 rfl) ?_
  refine q_ciR (va_runV (rm := { frames := 2, cells := 0, slots := 0, locals := 42 }) (As := [.int (nI k)]) (rest := [.ref o]) ⟨hx, hb, hml, hown, hts⟩ (m3_hindrance l D cI o ps k (oM ps pa pv pn px th (nI ns) kp ln sp wr le wh te dg) f rfl B hI hk) (cwV 1 hts gX3_pour_X3_hindrance rfl rfl rfl (by decide +kernel) ⟨Nat.le_of_ble_eq_true rfl, Nat.le_of_ble_eq_true rfl⟩) (q_pV (ci := 3) (q0 := 0) (hP.sub (ws' := wS o ps cI (oM ps pa pv pn px th (nI ns) kp ln sp wr le wh te dg) f) [0, 1] rfl) hK rfl rfl) rfl rfl hl.1 rfl (lv_room (Nat.le_of_ble_eq_true rfl)) dX3_pour_14 ⟨Nat.le_of_ble_eq_true rfl, Nat.le_of_ble_eq_true rfl⟩) hP hS (fun x3 H locs e3 hP hS => ?_)
  have e3 : x3 = g_wy f k := e3
  refine lv_if_le (tgt := 24) hx hb dX3_pour_17 (by decide) (fun c4 => absurd c4 (fun z => hw (wy_le (by rw [← e3]; exact z)))) (fun c4 => ?_)
  refine lv_iconst (v := nI 2) hx hb dX3_pour_20 (by decide) ?_
  refine lv_goto (tgt := 25) hx hb dX3_pour_21 (by decide) ?_
  refine q_ci1 (i := 0) (ws' := wR o ps pa pv pn px cI (oM ps pa pv pn px (nI 2) (nI ns) kp ln sp wr le wh te dg) (rr f) fa fv fn fx) (va_runV (rm := { frames := 0, cells := 0, slots := 0, locals := 0 }) (As := [.int (nI 2)]) (rest := []) ⟨hx, hb, hml, hown, hts⟩ (m3_holds2 l D cI o (oM ps pa pv pn px th (nI ns) kp ln sp wr le wh te dg) (Nat.le_of_ble_eq_true rfl)) (cwV 1 hts gX3_pour_X3_holds rfl rfl rfl (by decide +kernel) ⟨Nat.le_of_ble_eq_true rfl, Nat.le_of_ble_eq_true rfl⟩) (q_pV (ci := 3) (q0 := 0) (hP.sub [0] rfl) (hK.sub [] rfl) rfl rfl) rfl rfl hl.1 rfl (lv_room (Nat.le_of_ble_eq_true rfl)) dX3_pour_25 ⟨Nat.le_of_ble_eq_true rfl, Nat.le_of_ble_eq_true rfl⟩) hP hD hS rfl (Or.inl rfl) rfl (fun x5 H locs e5 hP hD hS => ?_)
  have e5 : x5 = nI 0 := e5
  subst e5
  refine lv_if_ne (tgt := 33) hx hb dX3_pour_28 (by decide) (fun c6 => absurd c6 (by decide)) (fun c6 => ?_)
  refine lv_iconst (v := nI 0) hx hb dX3_pour_31 (by decide) ?_
  refine hret _ _ _ _ _ rfl ?_ (hP) hS dX3_pour_32
  trivial
set_option maxHeartbeats 4000000 in
set_option maxRecDepth 100000 in
theorem m3_pour_1 (l : Launch) (D : va_G) (cI : ClassId) (o ps pa pv pn px : Nat) (f fa fv fn fx : Nat → Int32) (B : Nat) (hI : Inv B f) (ns : Nat) (hn : ns ≤ 6) (th kp ln sp wr le wh te : Int32) (dg : Int64) (x0 : Int32) (h0q : q_in (nI 0) (nI 2) x0 = false) (hD : va_D (fun _ => True) (wR o ps pa pv pn px cI (oM ps pa pv pn px th (nI ns) kp ln sp wr le wh te dg) (rr f) fa fv fn fx)) : q_I l yX3_pour wsX3_pour { frames := 2, cells := 0, slots := 0, locals := 42 } [.ref o, .int x0] (q_bp D (wR o ps pa pv pn px cI (oM ps pa pv pn px th (nI ns) kp ln sp wr le wh te dg) (rr f) fa fv fn fx) [(cI, .int)]) (fun v => True) (fun H => va_P D vwCl (wR o ps pa pv pn px cI (oM ps pa pv pn px (nI 1) (nI ns) kp ln sp wr le wh te dg) (rr f) fa fv fn fx) H) (AM o ps pa pv pn px) 0 0 := by
  refine q_goI (cc := cX3_pour) (maxL := 2) (ty := .int) (lv0 := [(0, .ref o), (1, .int x0)]) (by decide) rfl (Nat.le_of_ble_eq_true rfl) rfl ?_
  intro p e s m args below meth c Q ls hx hb hml hts hown hP hK hl hret
  have hS : va_S (AM o ps pa pv pn px) s.heap s.heap [] := va_S.rf
  have hne : o ≠ ps := fun h => absurd (hD.1 0 1 _ _ rfl rfl h) (by decide)
  refine lv_aload_n hx hb dX3_pour_0 rfl (lv_at hl 0 rfl) ?_
  refine lv_iload_n hx hb dX3_pour_1 rfl (lv_at hl 1 rfl) ?_
  refine q_ciR (va_runS (rm := { frames := 1, cells := 0, slots := 0, locals := 22 }) (As := [.int x0]) (rest := [.ref o]) ⟨hx, hb, hml, hown, hts⟩ (m3_isPot l D x0) (va_cwS 1 hts gX3_pour_X3_isPot rfl rfl rfl (by decide +kernel) ⟨Nat.le_of_ble_eq_true rfl, Nat.le_of_ble_eq_true rfl⟩) (q_pS (hP.sub [] rfl) (hK.sub [] rfl)) rfl rfl hl.1 rfl (lv_room (Nat.le_of_ble_eq_true rfl)) dX3_pour_2 ⟨Nat.le_of_ble_eq_true rfl, Nat.le_of_ble_eq_true rfl⟩) hP hS (fun x1 H locs e1 hP hS => ?_)
  have e1 : x1 = nI 0 := by
    have h9 : x1 = p_b (q_in (nI 0) (nI 2) x0) := e1
    rw [h9, (h0q : q_in (nI 0) (nI 2) x0 = false)]
    rfl
  subst e1
  refine lv_if_ne (tgt := 12) hx hb dX3_pour_5 (by decide) (fun c2 => absurd c2 (by decide)) (fun c2 => ?_)
  refine lv_iconst (v := nI 1) hx hb dX3_pour_8 (by decide) ?_
  refine lv_goto (tgt := 25) hx hb dX3_pour_9 (by decide) ?_
  refine q_ci1 (i := 0) (ws' := wR o ps pa pv pn px cI (oM ps pa pv pn px (nI 1) (nI ns) kp ln sp wr le wh te dg) (rr f) fa fv fn fx) (va_runV (rm := { frames := 0, cells := 0, slots := 0, locals := 0 }) (As := [.int (nI 1)]) (rest := []) ⟨hx, hb, hml, hown, hts⟩ (m3_holds1 l D cI o (oM ps pa pv pn px th (nI ns) kp ln sp wr le wh te dg) (Nat.le_of_ble_eq_true rfl)) (cwV 1 hts gX3_pour_X3_holds rfl rfl rfl (by decide +kernel) ⟨Nat.le_of_ble_eq_true rfl, Nat.le_of_ble_eq_true rfl⟩) (q_pV (ci := 3) (q0 := 0) (hP.sub [0] rfl) (hK.sub [] rfl) rfl rfl) rfl rfl hl.1 rfl (lv_room (Nat.le_of_ble_eq_true rfl)) dX3_pour_25 ⟨Nat.le_of_ble_eq_true rfl, Nat.le_of_ble_eq_true rfl⟩) hP hD hS rfl (Or.inl rfl) rfl (fun x3 H locs e3 hP hD hS => ?_)
  have e3 : x3 = nI 0 := e3
  subst e3
  refine lv_if_ne (tgt := 33) hx hb dX3_pour_28 (by decide) (fun c4 => absurd c4 (by decide)) (fun c4 => ?_)
  refine lv_iconst (v := nI 0) hx hb dX3_pour_31 (by decide) ?_
  refine hret _ _ _ _ _ rfl ?_ (hP) hS dX3_pour_32
  trivial
set_option maxHeartbeats 4000000 in
set_option maxRecDepth 100000 in
theorem m3_hand_ok1 (l : Launch) (D : va_G) (cI : ClassId) (o ps pa pv pn px : Nat) (f fa fv fn fx : Nat → Int32) (B : Nat) (hI : Inv B f) (ns : Nat) (hn : ns ≤ 6) (th kp ln sp wr le wh te : Int32) (dg : Int64) (k : Nat) (hk : k < 3)  (hD : va_D (fun _ => True) (wR o ps pa pv pn px cI (oM ps pa pv pn px th (nI ns) kp ln sp wr le wh te dg) (rr f) fa fv fn fx)) : q_I l yX3_hand wsX3_hand { frames := 4, cells := 0, slots := 0, locals := 89 } [.ref o, .int (nI k), .int (nI 1)] (q_bp D (wR o ps pa pv pn px cI (oM ps pa pv pn px th (nI ns) kp ln sp wr le wh te dg) (rr f) fa fv fn fx) [(cI, .int)]) (fun v => v = nI ((hN f k + 1) % 8)) (fun H => va_P D vwCl (wR o ps pa pv pn px cI (oM ps pa pv pn px (nI 0) (nI ((svn ns))) kp ln sp wr le wh te dg) (rr (g_hand f k 1)) fa (svf ns fv (rr f)) fn fx) H) (AM o ps pa pv pn px) 0 0 := by
  refine q_goI (cc := cX3_hand) (maxL := 3) (ty := .int) (lv0 := [(0, .ref o), (1, .int (nI k)), (2, .int (nI 1))]) (by decide) rfl (Nat.le_of_ble_eq_true rfl) rfl ?_
  intro p e s m args below meth c Q ls hx hb hml hts hown hP hK hl hret
  have hS : va_S (AM o ps pa pv pn px) s.heap s.heap [] := va_S.rf
  have hne : o ≠ ps := fun h => absurd (hD.1 0 1 _ _ rfl rfl h) (by decide)
  have h8 := hI.hN8 hk
  refine lv_aload_n hx hb dX3_hand_0 rfl (lv_at hl 0 rfl) ?_
  refine lv_iload_n hx hb dX3_hand_1 rfl (lv_at hl 1 rfl) ?_
  refine q_ciR (va_runS (rm := { frames := 1, cells := 0, slots := 0, locals := 22 }) (As := [.int (nI k)]) (rest := [.ref o]) ⟨hx, hb, hml, hown, hts⟩ (m3_isPot l D (nI k)) (va_cwS 1 hts gX3_hand_X3_isPot rfl rfl rfl (by decide +kernel) ⟨Nat.le_of_ble_eq_true rfl, Nat.le_of_ble_eq_true rfl⟩) (q_pS (hP.sub [] rfl) (hK.sub [] rfl)) rfl rfl hl.1 rfl (lv_room (Nat.le_of_ble_eq_true rfl)) dX3_hand_2 ⟨Nat.le_of_ble_eq_true rfl, Nat.le_of_ble_eq_true rfl⟩) hP hS (fun x1 H locs e1 hP hS => ?_)
  have e1 : x1 = nI 1 := by
    have h9 : x1 = p_b (q_in (nI 0) (nI 2) (nI k)) := e1
    rw [h9, ((q_inN (Nat.zero_le _) (by omega) (by decide)) : q_in (nI 0) (nI 2) (nI k) = true)]
    rfl
  subst e1
  refine lv_if_ne (tgt := 12) hx hb dX3_hand_5 (by decide) (fun c2 => ?_) (fun c2 => absurd c2 (by decide))
  refine lv_iload_n hx hb dX3_hand_12 rfl (lv_at hl 2 rfl) ?_
  refine lv_iconst (v := nI 0) hx hb dX3_hand_13 (by decide) ?_
  refine lv_iconst (v := nI 1) hx hb dX3_hand_14 (by decide) ?_
  refine q_ciR (va_runS (rm := { frames := 0, cells := 0, slots := 0, locals := 0 }) (As := [.int (nI 1), .int (nI 0), .int (nI 1)]) (rest := [.ref o]) ⟨hx, hb, hml, hown, hts⟩ (m3_in l D (nI 1) (nI 0) (nI 1)) (va_cwS 3 hts gX3_hand_X3_in rfl rfl rfl (by decide +kernel) ⟨Nat.le_of_ble_eq_true rfl, Nat.le_of_ble_eq_true rfl⟩) (q_pS (hP.sub [] rfl) (hK.sub [] rfl)) rfl rfl hl.1 rfl (lv_room (Nat.le_of_ble_eq_true rfl)) dX3_hand_15 ⟨Nat.le_of_ble_eq_true rfl, Nat.le_of_ble_eq_true rfl⟩) hP hS (fun x3 H locs e3 hP hS => ?_)
  have e3 : x3 = nI 1 := by
    have h9 : x3 = p_b (q_in (nI 0) (nI 1) (nI 1)) := e3
    rw [h9, ((by decide) : q_in (nI 0) (nI 1) (nI 1) = true)]
    rfl
  subst e3
  refine lv_if_eq (tgt := 25) hx hb dX3_hand_18 (by decide) (fun c4 => absurd c4 (by decide)) (fun c4 => ?_)
  refine lv_iconst (v := nI 0) hx hb dX3_hand_21 (by decide) ?_
  refine lv_goto (tgt := 26) hx hb dX3_hand_22 (by decide) ?_
  refine q_ci1 (i := 0) (ws' := wR o ps pa pv pn px cI (oM ps pa pv pn px (nI 0) (nI ns) kp ln sp wr le wh te dg) (rr f) fa fv fn fx) (va_runV (rm := { frames := 0, cells := 0, slots := 0, locals := 0 }) (As := [.int (nI 0)]) (rest := []) ⟨hx, hb, hml, hown, hts⟩ (m3_holds0 l D cI o (oM ps pa pv pn px th (nI ns) kp ln sp wr le wh te dg) (Nat.le_of_ble_eq_true rfl)) (cwV 1 hts gX3_hand_X3_holds rfl rfl rfl (by decide +kernel) ⟨Nat.le_of_ble_eq_true rfl, Nat.le_of_ble_eq_true rfl⟩) (q_pV (ci := 3) (q0 := 0) (hP.sub [0] rfl) (hK.sub [] rfl) rfl rfl) rfl rfl hl.1 rfl (lv_room (Nat.le_of_ble_eq_true rfl)) dX3_hand_26 ⟨Nat.le_of_ble_eq_true rfl, Nat.le_of_ble_eq_true rfl⟩) hP hD hS rfl (Or.inl rfl) rfl (fun x5 H locs e5 hP hD hS => ?_)
  have e5 : x5 = nI 1 := e5
  subst e5
  refine lv_if_ne (tgt := 34) hx hb dX3_hand_29 (by decide) (fun c6 => ?_) (fun c6 => absurd c6 (by decide))
  refine lv_aload_n hx hb dX3_hand_34 rfl (lv_at hl 0 rfl) ?_
  refine q_cvF (BH := fun H => va_P D vwCl (wR o ps pa pv pn px cI (oM ps pa pv pn px (nI 0) (nI ((svn ns))) kp ln sp wr le wh te dg) (rr f) fa (svf ns fv (rr f)) fn fx) H) (va_runV (rm := { frames := 0, cells := 0, slots := 0, locals := 0 }) (As := []) (rest := []) ⟨hx, hb, hml, hown, hts⟩ (m3_save l D cI o ps pa pv pn px f fa fv fn fx ns hn (nI 0) kp ln sp wr le wh te dg hD) (cwV 0 hts gX3_hand_X3_save rfl rfl rfl (by decide +kernel) ⟨Nat.le_of_ble_eq_true rfl, Nat.le_of_ble_eq_true rfl⟩) (q_pV (ci := 3) (q0 := 0) hP hK rfl rfl) rfl rfl hl.1 rfl (lv_room (Nat.le_of_ble_eq_true rfl)) dX3_hand_35 ⟨Nat.le_of_ble_eq_true rfl, Nat.le_of_ble_eq_true rfl⟩) (fun _ h => h) hS (fun _ h => h) (fun H locs hP hS => ?_)
  have hD := q_D2 (ws' := wR o ps pa pv pn px cI (oM ps pa pv pn px (nI 0) (nI ((svn ns))) kp ln sp wr le wh te dg) (rr f) fa (svf ns fv (rr f)) fn fx) hD rfl
  refine lv_aload_n hx hb dX3_hand_38 rfl (lv_at hl 0 rfl) ?_
  refine lv_iload_n hx hb dX3_hand_39 rfl (lv_at hl 1 rfl) ?_
  refine lv_iconst (v := nI 2) hx hb dX3_hand_40 (by decide) ?_
  refine lv_iload_n hx hb dX3_hand_41 rfl (lv_at hl 2 rfl) ?_
  refine q_mulN hx hb 2 (by omega) dX3_hand_42 ?_
  refine lv_iconst (v := nI 1) hx hb dX3_hand_43 (by decide) ?_
  refine q_subN hx hb 1 (by omega) dX3_hand_44 ?_
  refine q_ci1 (i := 1) (ws' := wR o ps pa pv pn px cI (oM ps pa pv pn px (nI 0) (nI ((svn ns))) kp ln sp wr le wh te dg) (rr (g_hand f k 1)) fa (svf ns fv (rr f)) fn fx) (va_runV (rm := { frames := 3, cells := 0, slots := 0, locals := 64 }) (As := [.int (nI k), .int (nI 1)]) (rest := []) ⟨hx, hb, hml, hown, hts⟩ (m3_hands l D cI o ps k (hN f k + 9) 1 (oM ps pa pv pn px (nI 0) (nI ((svn ns))) kp ln sp wr le wh te dg) f rfl B hI (nI 1) hk (bw_1 _) (by omega) (by omega) hne) (cwV 2 hts gX3_hand_X3_hands rfl rfl rfl (by decide +kernel) ⟨Nat.le_of_ble_eq_true rfl, Nat.le_of_ble_eq_true rfl⟩) (q_pV (ci := 3) (q0 := 0) (hP.sub (ws' := wS o ps cI (oM ps pa pv pn px (nI 0) (nI ((svn ns))) kp ln sp wr le wh te dg) f) [0, 1] rfl) hK rfl rfl) rfl rfl hl.1 rfl (lv_room (Nat.le_of_ble_eq_true rfl)) dX3_hand_45 ⟨Nat.le_of_ble_eq_true rfl, Nat.le_of_ble_eq_true rfl⟩) hP hD hS rfl (Or.inr (Or.inl rfl)) rfl (fun x8 H locs e8 hP hD hS => ?_)
  obtain ⟨f8, hf8⟩ : ∃ z, z = g_hand f k 1 := ⟨_, rfl⟩
  rw [← hf8] at hP hD
  have e8 : x8 = nI ((hN f k + 1) % 8) := e8
  have hE : f8 = g_hand f k 1 := by (subst e8 hf8; rfl)
  rw [hE] at hP
  refine hret _ _ _ _ _ rfl ?_ (hP) hS dX3_hand_48
  subst e8 hf8
  rfl
set_option maxHeartbeats 4000000 in
set_option maxRecDepth 100000 in
theorem m3_hand_ok0 (l : Launch) (D : va_G) (cI : ClassId) (o ps pa pv pn px : Nat) (f fa fv fn fx : Nat → Int32) (B : Nat) (hI : Inv B f) (ns : Nat) (hn : ns ≤ 6) (th kp ln sp wr le wh te : Int32) (dg : Int64) (k : Nat) (hk : k < 3)  (hD : va_D (fun _ => True) (wR o ps pa pv pn px cI (oM ps pa pv pn px th (nI ns) kp ln sp wr le wh te dg) (rr f) fa fv fn fx)) : q_I l yX3_hand wsX3_hand { frames := 4, cells := 0, slots := 0, locals := 89 } [.ref o, .int (nI k), .int (nI 0)] (q_bp D (wR o ps pa pv pn px cI (oM ps pa pv pn px th (nI ns) kp ln sp wr le wh te dg) (rr f) fa fv fn fx) [(cI, .int)]) (fun v => v = nI ((hN f k + 7) % 8)) (fun H => va_P D vwCl (wR o ps pa pv pn px cI (oM ps pa pv pn px (nI 0) (nI ((svn ns))) kp ln sp wr le wh te dg) (rr (g_hand f k 7)) fa (svf ns fv (rr f)) fn fx) H) (AM o ps pa pv pn px) 0 0 := by
  refine q_goI (cc := cX3_hand) (maxL := 3) (ty := .int) (lv0 := [(0, .ref o), (1, .int (nI k)), (2, .int (nI 0))]) (by decide) rfl (Nat.le_of_ble_eq_true rfl) rfl ?_
  intro p e s m args below meth c Q ls hx hb hml hts hown hP hK hl hret
  have hS : va_S (AM o ps pa pv pn px) s.heap s.heap [] := va_S.rf
  have hne : o ≠ ps := fun h => absurd (hD.1 0 1 _ _ rfl rfl h) (by decide)
  have h8 := hI.hN8 hk
  refine lv_aload_n hx hb dX3_hand_0 rfl (lv_at hl 0 rfl) ?_
  refine lv_iload_n hx hb dX3_hand_1 rfl (lv_at hl 1 rfl) ?_
  refine q_ciR (va_runS (rm := { frames := 1, cells := 0, slots := 0, locals := 22 }) (As := [.int (nI k)]) (rest := [.ref o]) ⟨hx, hb, hml, hown, hts⟩ (m3_isPot l D (nI k)) (va_cwS 1 hts gX3_hand_X3_isPot rfl rfl rfl (by decide +kernel) ⟨Nat.le_of_ble_eq_true rfl, Nat.le_of_ble_eq_true rfl⟩) (q_pS (hP.sub [] rfl) (hK.sub [] rfl)) rfl rfl hl.1 rfl (lv_room (Nat.le_of_ble_eq_true rfl)) dX3_hand_2 ⟨Nat.le_of_ble_eq_true rfl, Nat.le_of_ble_eq_true rfl⟩) hP hS (fun x1 H locs e1 hP hS => ?_)
  have e1 : x1 = nI 1 := by
    have h9 : x1 = p_b (q_in (nI 0) (nI 2) (nI k)) := e1
    rw [h9, ((q_inN (Nat.zero_le _) (by omega) (by decide)) : q_in (nI 0) (nI 2) (nI k) = true)]
    rfl
  subst e1
  refine lv_if_ne (tgt := 12) hx hb dX3_hand_5 (by decide) (fun c2 => ?_) (fun c2 => absurd c2 (by decide))
  refine lv_iload_n hx hb dX3_hand_12 rfl (lv_at hl 2 rfl) ?_
  refine lv_iconst (v := nI 0) hx hb dX3_hand_13 (by decide) ?_
  refine lv_iconst (v := nI 1) hx hb dX3_hand_14 (by decide) ?_
  refine q_ciR (va_runS (rm := { frames := 0, cells := 0, slots := 0, locals := 0 }) (As := [.int (nI 0), .int (nI 0), .int (nI 1)]) (rest := [.ref o]) ⟨hx, hb, hml, hown, hts⟩ (m3_in l D (nI 0) (nI 0) (nI 1)) (va_cwS 3 hts gX3_hand_X3_in rfl rfl rfl (by decide +kernel) ⟨Nat.le_of_ble_eq_true rfl, Nat.le_of_ble_eq_true rfl⟩) (q_pS (hP.sub [] rfl) (hK.sub [] rfl)) rfl rfl hl.1 rfl (lv_room (Nat.le_of_ble_eq_true rfl)) dX3_hand_15 ⟨Nat.le_of_ble_eq_true rfl, Nat.le_of_ble_eq_true rfl⟩) hP hS (fun x3 H locs e3 hP hS => ?_)
  have e3 : x3 = nI 1 := by
    have h9 : x3 = p_b (q_in (nI 0) (nI 1) (nI 0)) := e3
    rw [h9, ((by decide) : q_in (nI 0) (nI 1) (nI 0) = true)]
    rfl
  subst e3
  refine lv_if_eq (tgt := 25) hx hb dX3_hand_18 (by decide) (fun c4 => absurd c4 (by decide)) (fun c4 => ?_)
  refine lv_iconst (v := nI 0) hx hb dX3_hand_21 (by decide) ?_
  refine lv_goto (tgt := 26) hx hb dX3_hand_22 (by decide) ?_
  refine q_ci1 (i := 0) (ws' := wR o ps pa pv pn px cI (oM ps pa pv pn px (nI 0) (nI ns) kp ln sp wr le wh te dg) (rr f) fa fv fn fx) (va_runV (rm := { frames := 0, cells := 0, slots := 0, locals := 0 }) (As := [.int (nI 0)]) (rest := []) ⟨hx, hb, hml, hown, hts⟩ (m3_holds0 l D cI o (oM ps pa pv pn px th (nI ns) kp ln sp wr le wh te dg) (Nat.le_of_ble_eq_true rfl)) (cwV 1 hts gX3_hand_X3_holds rfl rfl rfl (by decide +kernel) ⟨Nat.le_of_ble_eq_true rfl, Nat.le_of_ble_eq_true rfl⟩) (q_pV (ci := 3) (q0 := 0) (hP.sub [0] rfl) (hK.sub [] rfl) rfl rfl) rfl rfl hl.1 rfl (lv_room (Nat.le_of_ble_eq_true rfl)) dX3_hand_26 ⟨Nat.le_of_ble_eq_true rfl, Nat.le_of_ble_eq_true rfl⟩) hP hD hS rfl (Or.inl rfl) rfl (fun x5 H locs e5 hP hD hS => ?_)
  have e5 : x5 = nI 1 := e5
  subst e5
  refine lv_if_ne (tgt := 34) hx hb dX3_hand_29 (by decide) (fun c6 => ?_) (fun c6 => absurd c6 (by decide))
  refine lv_aload_n hx hb dX3_hand_34 rfl (lv_at hl 0 rfl) ?_
  refine q_cvF (BH := fun H => va_P D vwCl (wR o ps pa pv pn px cI (oM ps pa pv pn px (nI 0) (nI ((svn ns))) kp ln sp wr le wh te dg) (rr f) fa (svf ns fv (rr f)) fn fx) H) (va_runV (rm := { frames := 0, cells := 0, slots := 0, locals := 0 }) (As := []) (rest := []) ⟨hx, hb, hml, hown, hts⟩ (m3_save l D cI o ps pa pv pn px f fa fv fn fx ns hn (nI 0) kp ln sp wr le wh te dg hD) (cwV 0 hts gX3_hand_X3_save rfl rfl rfl (by decide +kernel) ⟨Nat.le_of_ble_eq_true rfl, Nat.le_of_ble_eq_true rfl⟩) (q_pV (ci := 3) (q0 := 0) hP hK rfl rfl) rfl rfl hl.1 rfl (lv_room (Nat.le_of_ble_eq_true rfl)) dX3_hand_35 ⟨Nat.le_of_ble_eq_true rfl, Nat.le_of_ble_eq_true rfl⟩) (fun _ h => h) hS (fun _ h => h) (fun H locs hP hS => ?_)
  have hD := q_D2 (ws' := wR o ps pa pv pn px cI (oM ps pa pv pn px (nI 0) (nI ((svn ns))) kp ln sp wr le wh te dg) (rr f) fa (svf ns fv (rr f)) fn fx) hD rfl
  refine lv_aload_n hx hb dX3_hand_38 rfl (lv_at hl 0 rfl) ?_
  refine lv_iload_n hx hb dX3_hand_39 rfl (lv_at hl 1 rfl) ?_
  refine lv_iconst (v := nI 2) hx hb dX3_hand_40 (by decide) ?_
  refine lv_iload_n hx hb dX3_hand_41 rfl (lv_at hl 2 rfl) ?_
  refine q_mulN hx hb 0 (by omega) dX3_hand_42 ?_
  refine lv_iconst (v := nI 1) hx hb dX3_hand_43 (by decide) ?_
  refine lv_isub hx hb dX3_hand_44 ?_
  refine q_ci1 (i := 1) (ws' := wR o ps pa pv pn px cI (oM ps pa pv pn px (nI 0) (nI ((svn ns))) kp ln sp wr le wh te dg) (rr (g_hand f k 7)) fa (svf ns fv (rr f)) fn fx) (va_runV (rm := { frames := 3, cells := 0, slots := 0, locals := 64 }) (As := [.int (nI k), .int ((nI 0) - (nI 1))]) (rest := []) ⟨hx, hb, hml, hown, hts⟩ (m3_hands l D cI o ps k (hN f k + 7) 7 (oM ps pa pv pn px (nI 0) (nI ((svn ns))) kp ln sp wr le wh te dg) f rfl B hI (nI 0 - nI 1) hk (bw_0 _) rfl (by omega) hne) (cwV 2 hts gX3_hand_X3_hands rfl rfl rfl (by decide +kernel) ⟨Nat.le_of_ble_eq_true rfl, Nat.le_of_ble_eq_true rfl⟩) (q_pV (ci := 3) (q0 := 0) (hP.sub (ws' := wS o ps cI (oM ps pa pv pn px (nI 0) (nI ((svn ns))) kp ln sp wr le wh te dg) f) [0, 1] rfl) hK rfl rfl) rfl rfl hl.1 rfl (lv_room (Nat.le_of_ble_eq_true rfl)) dX3_hand_45 ⟨Nat.le_of_ble_eq_true rfl, Nat.le_of_ble_eq_true rfl⟩) hP hD hS rfl (Or.inr (Or.inl rfl)) rfl (fun x8 H locs e8 hP hD hS => ?_)
  obtain ⟨f8, hf8⟩ : ∃ z, z = g_hand f k 7 := ⟨_, rfl⟩
  rw [← hf8] at hP hD
  have e8 : x8 = nI ((hN f k + 7) % 8) := e8
  have hE : f8 = g_hand f k 7 := by (subst e8 hf8; rfl)
  rw [hE] at hP
  refine hret _ _ _ _ _ rfl ?_ (hP) hS dX3_hand_48
  subst e8 hf8
  rfl
set_option maxHeartbeats 4000000 in
set_option maxRecDepth 100000 in
theorem m3_hand_2 (l : Launch) (D : va_G) (cI : ClassId) (o ps pa pv pn px : Nat) (f fa fv fn fx : Nat → Int32) (B : Nat) (hI : Inv B f) (ns : Nat) (hn : ns ≤ 6) (th kp ln sp wr le wh te : Int32) (dg : Int64) (k : Nat) (hk : k < 3) (xn : Int32) (h1q : q_in (nI 0) (nI 1) xn = false) (hD : va_D (fun _ => True) (wR o ps pa pv pn px cI (oM ps pa pv pn px th (nI ns) kp ln sp wr le wh te dg) (rr f) fa fv fn fx)) : q_I l yX3_hand wsX3_hand { frames := 2, cells := 0, slots := 0, locals := 42 } [.ref o, .int (nI k), .int xn] (q_bp D (wR o ps pa pv pn px cI (oM ps pa pv pn px th (nI ns) kp ln sp wr le wh te dg) (rr f) fa fv fn fx) [(cI, .int)]) (fun v => True) (fun H => va_P D vwCl (wR o ps pa pv pn px cI (oM ps pa pv pn px (nI 2) (nI ns) kp ln sp wr le wh te dg) (rr f) fa fv fn fx) H) (AM o ps pa pv pn px) 0 0 := by
  refine q_goI (cc := cX3_hand) (maxL := 3) (ty := .int) (lv0 := [(0, .ref o), (1, .int (nI k)), (2, .int xn)]) (by decide) rfl (Nat.le_of_ble_eq_true rfl) rfl ?_
  intro p e s m args below meth c Q ls hx hb hml hts hown hP hK hl hret
  have hS : va_S (AM o ps pa pv pn px) s.heap s.heap [] := va_S.rf
  have hne : o ≠ ps := fun h => absurd (hD.1 0 1 _ _ rfl rfl h) (by decide)
  refine lv_aload_n hx hb dX3_hand_0 rfl (lv_at hl 0 rfl) ?_
  refine lv_iload_n hx hb dX3_hand_1 rfl (lv_at hl 1 rfl) ?_
  refine q_ciR (va_runS (rm := { frames := 1, cells := 0, slots := 0, locals := 22 }) (As := [.int (nI k)]) (rest := [.ref o]) ⟨hx, hb, hml, hown, hts⟩ (m3_isPot l D (nI k)) (va_cwS 1 hts gX3_hand_X3_isPot rfl rfl rfl (by decide +kernel) ⟨Nat.le_of_ble_eq_true rfl, Nat.le_of_ble_eq_true rfl⟩) (q_pS (hP.sub [] rfl) (hK.sub [] rfl)) rfl rfl hl.1 rfl (lv_room (Nat.le_of_ble_eq_true rfl)) dX3_hand_2 ⟨Nat.le_of_ble_eq_true rfl, Nat.le_of_ble_eq_true rfl⟩) hP hS (fun x1 H locs e1 hP hS => ?_)
  have e1 : x1 = nI 1 := by
    have h9 : x1 = p_b (q_in (nI 0) (nI 2) (nI k)) := e1
    rw [h9, ((q_inN (Nat.zero_le _) (by omega) (by decide)) : q_in (nI 0) (nI 2) (nI k) = true)]
    rfl
  subst e1
  refine lv_if_ne (tgt := 12) hx hb dX3_hand_5 (by decide) (fun c2 => ?_) (fun c2 => absurd c2 (by decide))
  refine lv_iload_n hx hb dX3_hand_12 rfl (lv_at hl 2 rfl) ?_
  refine lv_iconst (v := nI 0) hx hb dX3_hand_13 (by decide) ?_
  refine lv_iconst (v := nI 1) hx hb dX3_hand_14 (by decide) ?_
  refine q_ciR (va_runS (rm := { frames := 0, cells := 0, slots := 0, locals := 0 }) (As := [.int xn, .int (nI 0), .int (nI 1)]) (rest := [.ref o]) ⟨hx, hb, hml, hown, hts⟩ (m3_in l D xn (nI 0) (nI 1)) (va_cwS 3 hts gX3_hand_X3_in rfl rfl rfl (by decide +kernel) ⟨Nat.le_of_ble_eq_true rfl, Nat.le_of_ble_eq_true rfl⟩) (q_pS (hP.sub [] rfl) (hK.sub [] rfl)) rfl rfl hl.1 rfl (lv_room (Nat.le_of_ble_eq_true rfl)) dX3_hand_15 ⟨Nat.le_of_ble_eq_true rfl, Nat.le_of_ble_eq_true rfl⟩) hP hS (fun x3 H locs e3 hP hS => ?_)
  have e3 : x3 = nI 0 := by
    have h9 : x3 = p_b (q_in (nI 0) (nI 1) xn) := e3
    rw [h9, (h1q : q_in (nI 0) (nI 1) xn = false)]
    rfl
  subst e3
  refine lv_if_eq (tgt := 25) hx hb dX3_hand_18 (by decide) (fun c4 => ?_) (fun c4 => absurd c4 (by decide))
  refine lv_iconst (v := nI 2) hx hb dX3_hand_25 (by decide) ?_
  refine q_ci1 (i := 0) (ws' := wR o ps pa pv pn px cI (oM ps pa pv pn px (nI 2) (nI ns) kp ln sp wr le wh te dg) (rr f) fa fv fn fx) (va_runV (rm := { frames := 0, cells := 0, slots := 0, locals := 0 }) (As := [.int (nI 2)]) (rest := []) ⟨hx, hb, hml, hown, hts⟩ (m3_holds2 l D cI o (oM ps pa pv pn px th (nI ns) kp ln sp wr le wh te dg) (Nat.le_of_ble_eq_true rfl)) (cwV 1 hts gX3_hand_X3_holds rfl rfl rfl (by decide +kernel) ⟨Nat.le_of_ble_eq_true rfl, Nat.le_of_ble_eq_true rfl⟩) (q_pV (ci := 3) (q0 := 0) (hP.sub [0] rfl) (hK.sub [] rfl) rfl rfl) rfl rfl hl.1 rfl (lv_room (Nat.le_of_ble_eq_true rfl)) dX3_hand_26 ⟨Nat.le_of_ble_eq_true rfl, Nat.le_of_ble_eq_true rfl⟩) hP hD hS rfl (Or.inl rfl) rfl (fun x5 H locs e5 hP hD hS => ?_)
  have e5 : x5 = nI 0 := e5
  subst e5
  refine lv_if_ne (tgt := 34) hx hb dX3_hand_29 (by decide) (fun c6 => absurd c6 (by decide)) (fun c6 => ?_)
  refine lv_iconst (v := nI 0) hx hb dX3_hand_32 (by decide) ?_
  refine hret _ _ _ _ _ rfl ?_ (hP) hS dX3_hand_33
  trivial
set_option maxHeartbeats 4000000 in
set_option maxRecDepth 100000 in
theorem m3_hand_1 (l : Launch) (D : va_G) (cI : ClassId) (o ps pa pv pn px : Nat) (f fa fv fn fx : Nat → Int32) (B : Nat) (hI : Inv B f) (ns : Nat) (hn : ns ≤ 6) (th kp ln sp wr le wh te : Int32) (dg : Int64) (x0 xn : Int32) (h0q : q_in (nI 0) (nI 2) x0 = false) (hD : va_D (fun _ => True) (wR o ps pa pv pn px cI (oM ps pa pv pn px th (nI ns) kp ln sp wr le wh te dg) (rr f) fa fv fn fx)) : q_I l yX3_hand wsX3_hand { frames := 2, cells := 0, slots := 0, locals := 42 } [.ref o, .int x0, .int xn] (q_bp D (wR o ps pa pv pn px cI (oM ps pa pv pn px th (nI ns) kp ln sp wr le wh te dg) (rr f) fa fv fn fx) [(cI, .int)]) (fun v => True) (fun H => va_P D vwCl (wR o ps pa pv pn px cI (oM ps pa pv pn px (nI 1) (nI ns) kp ln sp wr le wh te dg) (rr f) fa fv fn fx) H) (AM o ps pa pv pn px) 0 0 := by
  refine q_goI (cc := cX3_hand) (maxL := 3) (ty := .int) (lv0 := [(0, .ref o), (1, .int x0), (2, .int xn)]) (by decide) rfl (Nat.le_of_ble_eq_true rfl) rfl ?_
  intro p e s m args below meth c Q ls hx hb hml hts hown hP hK hl hret
  have hS : va_S (AM o ps pa pv pn px) s.heap s.heap [] := va_S.rf
  have hne : o ≠ ps := fun h => absurd (hD.1 0 1 _ _ rfl rfl h) (by decide)
  refine lv_aload_n hx hb dX3_hand_0 rfl (lv_at hl 0 rfl) ?_
  refine lv_iload_n hx hb dX3_hand_1 rfl (lv_at hl 1 rfl) ?_
  refine q_ciR (va_runS (rm := { frames := 1, cells := 0, slots := 0, locals := 22 }) (As := [.int x0]) (rest := [.ref o]) ⟨hx, hb, hml, hown, hts⟩ (m3_isPot l D x0) (va_cwS 1 hts gX3_hand_X3_isPot rfl rfl rfl (by decide +kernel) ⟨Nat.le_of_ble_eq_true rfl, Nat.le_of_ble_eq_true rfl⟩) (q_pS (hP.sub [] rfl) (hK.sub [] rfl)) rfl rfl hl.1 rfl (lv_room (Nat.le_of_ble_eq_true rfl)) dX3_hand_2 ⟨Nat.le_of_ble_eq_true rfl, Nat.le_of_ble_eq_true rfl⟩) hP hS (fun x1 H locs e1 hP hS => ?_)
  have e1 : x1 = nI 0 := by
    have h9 : x1 = p_b (q_in (nI 0) (nI 2) x0) := e1
    rw [h9, (h0q : q_in (nI 0) (nI 2) x0 = false)]
    rfl
  subst e1
  refine lv_if_ne (tgt := 12) hx hb dX3_hand_5 (by decide) (fun c2 => absurd c2 (by decide)) (fun c2 => ?_)
  refine lv_iconst (v := nI 1) hx hb dX3_hand_8 (by decide) ?_
  refine lv_goto (tgt := 26) hx hb dX3_hand_9 (by decide) ?_
  refine q_ci1 (i := 0) (ws' := wR o ps pa pv pn px cI (oM ps pa pv pn px (nI 1) (nI ns) kp ln sp wr le wh te dg) (rr f) fa fv fn fx) (va_runV (rm := { frames := 0, cells := 0, slots := 0, locals := 0 }) (As := [.int (nI 1)]) (rest := []) ⟨hx, hb, hml, hown, hts⟩ (m3_holds1 l D cI o (oM ps pa pv pn px th (nI ns) kp ln sp wr le wh te dg) (Nat.le_of_ble_eq_true rfl)) (cwV 1 hts gX3_hand_X3_holds rfl rfl rfl (by decide +kernel) ⟨Nat.le_of_ble_eq_true rfl, Nat.le_of_ble_eq_true rfl⟩) (q_pV (ci := 3) (q0 := 0) (hP.sub [0] rfl) (hK.sub [] rfl) rfl rfl) rfl rfl hl.1 rfl (lv_room (Nat.le_of_ble_eq_true rfl)) dX3_hand_26 ⟨Nat.le_of_ble_eq_true rfl, Nat.le_of_ble_eq_true rfl⟩) hP hD hS rfl (Or.inl rfl) rfl (fun x3 H locs e3 hP hD hS => ?_)
  have e3 : x3 = nI 0 := e3
  subst e3
  refine lv_if_ne (tgt := 34) hx hb dX3_hand_29 (by decide) (fun c4 => absurd c4 (by decide)) (fun c4 => ?_)
  refine lv_iconst (v := nI 0) hx hb dX3_hand_32 (by decide) ?_
  refine hret _ _ _ _ _ rfl ?_ (hP) hS dX3_hand_33
  trivial
set_option maxHeartbeats 4000000 in
set_option maxRecDepth 100000 in
theorem m3_round_ok (l : Launch) (D : va_G) (cI : ClassId) (o ps pa pv pn px : Nat) (f fa fv fn fx : Nat → Int32) (B : Nat) (hI : Inv B f) (ns : Nat) (hn : ns ≤ 6) (th kp ln sp wr le wh te : Int32) (dg : Int64) (k : Nat) (hk : k < 3) (hB : B + 1600 < 2000000000) (hD : va_D (fun _ => True) (wR o ps pa pv pn px cI (oM ps pa pv pn px th (nI ns) kp ln sp wr le wh te dg) (rr f) fa fv fn fx)) : q_I l yX3_round wsX3_round { frames := 7, cells := 0, slots := 0, locals := 160 } [.ref o, .int (nI k)] (q_bp D (wR o ps pa pv pn px cI (oM ps pa pv pn px th (nI ns) kp ln sp wr le wh te dg) (rr f) fa fv fn fx) [(cI, .int)]) (fun v => v = nI (g_rc 8 f k)) (fun H => va_P D vwCl (wR o ps pa pv pn px cI (oM ps pa pv pn px (nI 0) (nI ((svn ns))) kp ln sp wr le wh te dg) (rr (g_rn 8 f k)) fa (svf ns fv (rr f)) fn fx) H) (AM o ps pa pv pn px) 0 0 := by
  refine q_goI (cc := cX3_round) (maxL := 2) (ty := .int) (lv0 := [(0, .ref o), (1, .int (nI k))]) (by decide) rfl (Nat.le_of_ble_eq_true rfl) rfl ?_
  intro p e s m args below meth c Q ls hx hb hml hts hown hP hK hl hret
  have hS : va_S (AM o ps pa pv pn px) s.heap s.heap [] := va_S.rf
  have hne : o ≠ ps := fun h => absurd (hD.1 0 1 _ _ rfl rfl h) (by decide)
  refine lv_aload_n hx hb dX3_round_0 rfl (lv_at hl 0 rfl) ?_
  refine lv_iload_n hx hb dX3_round_1 rfl (lv_at hl 1 rfl) ?_
  refine q_ciR (va_runS (rm := { frames := 1, cells := 0, slots := 0, locals := 22 }) (As := [.int (nI k)]) (rest := [.ref o]) ⟨hx, hb, hml, hown, hts⟩ (m3_isPot l D (nI k)) (va_cwS 1 hts gX3_round_X3_isPot rfl rfl rfl (by decide +kernel) ⟨Nat.le_of_ble_eq_true rfl, Nat.le_of_ble_eq_true rfl⟩) (q_pS (hP.sub [] rfl) (hK.sub [] rfl)) rfl rfl hl.1 rfl (lv_room (Nat.le_of_ble_eq_true rfl)) dX3_round_2 ⟨Nat.le_of_ble_eq_true rfl, Nat.le_of_ble_eq_true rfl⟩) hP hS (fun x1 H locs e1 hP hS => ?_)
  have e1 : x1 = nI 1 := by
    have h9 : x1 = p_b (q_in (nI 0) (nI 2) (nI k)) := e1
    rw [h9, ((q_inN (Nat.zero_le _) (by omega) (by decide)) : q_in (nI 0) (nI 2) (nI k) = true)]
    rfl
  subst e1
  refine lv_if_eq (tgt := 12) hx hb dX3_round_5 (by decide) (fun c2 => absurd c2 (by decide)) (fun c2 => ?_)
  refine lv_iconst (v := nI 0) hx hb dX3_round_8 (by decide) ?_
  refine lv_goto (tgt := 13) hx hb dX3_round_9 (by decide) ?_
  refine q_ci1 (i := 0) (ws' := wR o ps pa pv pn px cI (oM ps pa pv pn px (nI 0) (nI ns) kp ln sp wr le wh te dg) (rr f) fa fv fn fx) (va_runV (rm := { frames := 0, cells := 0, slots := 0, locals := 0 }) (As := [.int (nI 0)]) (rest := []) ⟨hx, hb, hml, hown, hts⟩ (m3_holds0 l D cI o (oM ps pa pv pn px th (nI ns) kp ln sp wr le wh te dg) (Nat.le_of_ble_eq_true rfl)) (cwV 1 hts gX3_round_X3_holds rfl rfl rfl (by decide +kernel) ⟨Nat.le_of_ble_eq_true rfl, Nat.le_of_ble_eq_true rfl⟩) (q_pV (ci := 3) (q0 := 0) (hP.sub [0] rfl) (hK.sub [] rfl) rfl rfl) rfl rfl hl.1 rfl (lv_room (Nat.le_of_ble_eq_true rfl)) dX3_round_13 ⟨Nat.le_of_ble_eq_true rfl, Nat.le_of_ble_eq_true rfl⟩) hP hD hS rfl (Or.inl rfl) rfl (fun x3 H locs e3 hP hD hS => ?_)
  have e3 : x3 = nI 1 := e3
  subst e3
  refine lv_if_ne (tgt := 21) hx hb dX3_round_16 (by decide) (fun c4 => ?_) (fun c4 => absurd c4 (by decide))
  refine lv_aload_n hx hb dX3_round_21 rfl (lv_at hl 0 rfl) ?_
  refine q_cvF (BH := fun H => va_P D vwCl (wR o ps pa pv pn px cI (oM ps pa pv pn px (nI 0) (nI ((svn ns))) kp ln sp wr le wh te dg) (rr f) fa (svf ns fv (rr f)) fn fx) H) (va_runV (rm := { frames := 0, cells := 0, slots := 0, locals := 0 }) (As := []) (rest := []) ⟨hx, hb, hml, hown, hts⟩ (m3_save l D cI o ps pa pv pn px f fa fv fn fx ns hn (nI 0) kp ln sp wr le wh te dg hD) (cwV 0 hts gX3_round_X3_save rfl rfl rfl (by decide +kernel) ⟨Nat.le_of_ble_eq_true rfl, Nat.le_of_ble_eq_true rfl⟩) (q_pV (ci := 3) (q0 := 0) hP hK rfl rfl) rfl rfl hl.1 rfl (lv_room (Nat.le_of_ble_eq_true rfl)) dX3_round_22 ⟨Nat.le_of_ble_eq_true rfl, Nat.le_of_ble_eq_true rfl⟩) (fun _ h => h) hS (fun _ h => h) (fun H locs hP hS => ?_)
  have hD := q_D2 (ws' := wR o ps pa pv pn px cI (oM ps pa pv pn px (nI 0) (nI ((svn ns))) kp ln sp wr le wh te dg) (rr f) fa (svf ns fv (rr f)) fn fx) hD rfl
  refine lv_aload_n hx hb dX3_round_25 rfl (lv_at hl 0 rfl) ?_
  refine lv_iload_n hx hb dX3_round_26 rfl (lv_at hl 1 rfl) ?_
  refine q_ci1 (i := 1) (ws' := wR o ps pa pv pn px cI (oM ps pa pv pn px (nI 0) (nI ((svn ns))) kp ln sp wr le wh te dg) (rr (g_rn 8 f k)) fa (svf ns fv (rr f)) fn fx) (va_runV (rm := { frames := 6, cells := 0, slots := 0, locals := 135 }) (As := [.int (nI k)]) (rest := []) ⟨hx, hb, hml, hown, hts⟩ (m3_goesRound l D cI o ps k (oM ps pa pv pn px (nI 0) (nI ((svn ns))) kp ln sp wr le wh te dg) f rfl B hI hk (by omega) hne) (cwV 1 hts gX3_round_X3_goesRound rfl rfl rfl (by decide +kernel) ⟨Nat.le_of_ble_eq_true rfl, Nat.le_of_ble_eq_true rfl⟩) (q_pV (ci := 3) (q0 := 0) (hP.sub (ws' := wS o ps cI (oM ps pa pv pn px (nI 0) (nI ((svn ns))) kp ln sp wr le wh te dg) f) [0, 1] rfl) hK rfl rfl) rfl rfl hl.1 rfl (lv_room (Nat.le_of_ble_eq_true rfl)) dX3_round_27 ⟨Nat.le_of_ble_eq_true rfl, Nat.le_of_ble_eq_true rfl⟩) hP hD hS rfl (Or.inr (Or.inl rfl)) rfl (fun x6 H locs e6 hP hD hS => ?_)
  obtain ⟨f6, hf6⟩ : ∃ z, z = g_rn 8 f k := ⟨_, rfl⟩
  rw [← hf6] at hP hD
  have e6 : x6 = nI (g_rc 8 f k) := e6
  have hE : f6 = g_rn 8 f k := by (subst e6 hf6; rfl)
  rw [hE] at hP
  refine hret _ _ _ _ _ rfl ?_ (hP) hS dX3_round_30
  subst e6 hf6
  rfl
set_option maxHeartbeats 4000000 in
set_option maxRecDepth 100000 in
theorem m3_round_1 (l : Launch) (D : va_G) (cI : ClassId) (o ps pa pv pn px : Nat) (f fa fv fn fx : Nat → Int32) (B : Nat) (hI : Inv B f) (ns : Nat) (hn : ns ≤ 6) (th kp ln sp wr le wh te : Int32) (dg : Int64) (x0 : Int32) (h0q : q_in (nI 0) (nI 2) x0 = false) (hD : va_D (fun _ => True) (wR o ps pa pv pn px cI (oM ps pa pv pn px th (nI ns) kp ln sp wr le wh te dg) (rr f) fa fv fn fx)) : q_I l yX3_round wsX3_round { frames := 2, cells := 0, slots := 0, locals := 42 } [.ref o, .int x0] (q_bp D (wR o ps pa pv pn px cI (oM ps pa pv pn px th (nI ns) kp ln sp wr le wh te dg) (rr f) fa fv fn fx) [(cI, .int)]) (fun v => True) (fun H => va_P D vwCl (wR o ps pa pv pn px cI (oM ps pa pv pn px (nI 1) (nI ns) kp ln sp wr le wh te dg) (rr f) fa fv fn fx) H) (AM o ps pa pv pn px) 0 0 := by
  refine q_goI (cc := cX3_round) (maxL := 2) (ty := .int) (lv0 := [(0, .ref o), (1, .int x0)]) (by decide) rfl (Nat.le_of_ble_eq_true rfl) rfl ?_
  intro p e s m args below meth c Q ls hx hb hml hts hown hP hK hl hret
  have hS : va_S (AM o ps pa pv pn px) s.heap s.heap [] := va_S.rf
  have hne : o ≠ ps := fun h => absurd (hD.1 0 1 _ _ rfl rfl h) (by decide)
  refine lv_aload_n hx hb dX3_round_0 rfl (lv_at hl 0 rfl) ?_
  refine lv_iload_n hx hb dX3_round_1 rfl (lv_at hl 1 rfl) ?_
  refine q_ciR (va_runS (rm := { frames := 1, cells := 0, slots := 0, locals := 22 }) (As := [.int x0]) (rest := [.ref o]) ⟨hx, hb, hml, hown, hts⟩ (m3_isPot l D x0) (va_cwS 1 hts gX3_round_X3_isPot rfl rfl rfl (by decide +kernel) ⟨Nat.le_of_ble_eq_true rfl, Nat.le_of_ble_eq_true rfl⟩) (q_pS (hP.sub [] rfl) (hK.sub [] rfl)) rfl rfl hl.1 rfl (lv_room (Nat.le_of_ble_eq_true rfl)) dX3_round_2 ⟨Nat.le_of_ble_eq_true rfl, Nat.le_of_ble_eq_true rfl⟩) hP hS (fun x1 H locs e1 hP hS => ?_)
  have e1 : x1 = nI 0 := by
    have h9 : x1 = p_b (q_in (nI 0) (nI 2) x0) := e1
    rw [h9, (h0q : q_in (nI 0) (nI 2) x0 = false)]
    rfl
  subst e1
  refine lv_if_eq (tgt := 12) hx hb dX3_round_5 (by decide) (fun c2 => ?_) (fun c2 => absurd c2 (by decide))
  refine lv_iconst (v := nI 1) hx hb dX3_round_12 (by decide) ?_
  refine q_ci1 (i := 0) (ws' := wR o ps pa pv pn px cI (oM ps pa pv pn px (nI 1) (nI ns) kp ln sp wr le wh te dg) (rr f) fa fv fn fx) (va_runV (rm := { frames := 0, cells := 0, slots := 0, locals := 0 }) (As := [.int (nI 1)]) (rest := []) ⟨hx, hb, hml, hown, hts⟩ (m3_holds1 l D cI o (oM ps pa pv pn px th (nI ns) kp ln sp wr le wh te dg) (Nat.le_of_ble_eq_true rfl)) (cwV 1 hts gX3_round_X3_holds rfl rfl rfl (by decide +kernel) ⟨Nat.le_of_ble_eq_true rfl, Nat.le_of_ble_eq_true rfl⟩) (q_pV (ci := 3) (q0 := 0) (hP.sub [0] rfl) (hK.sub [] rfl) rfl rfl) rfl rfl hl.1 rfl (lv_room (Nat.le_of_ble_eq_true rfl)) dX3_round_13 ⟨Nat.le_of_ble_eq_true rfl, Nat.le_of_ble_eq_true rfl⟩) hP hD hS rfl (Or.inl rfl) rfl (fun x3 H locs e3 hP hD hS => ?_)
  have e3 : x3 = nI 0 := e3
  subst e3
  refine lv_if_ne (tgt := 21) hx hb dX3_round_16 (by decide) (fun c4 => absurd c4 (by decide)) (fun c4 => ?_)
  refine lv_iconst (v := nI 0) hx hb dX3_round_19 (by decide) ?_
  refine hret _ _ _ _ _ rfl ?_ (hP) hS dX3_round_20
  trivial
