set_option maxHeartbeats 4000000 in
set_option maxRecDepth 100000 in
theorem m3_guest_ok (l : Launch) (D : va_G) (cI : ClassId) (o ps pa pv pn px : Nat) (f fa fv fn fx : Nat → Int32) (B : Nat) (hI : Inv B f) (ns : Nat) (hn : ns ≤ 6) (th kp ln sp wr le wh te : Int32) (dg : Int64) (g : Nat) (hg : g < 8) (w : Nat) (hw : w < 10) (hD : va_D (fun _ => True) (wR o ps pa pv pn px cI (oM ps pa pv pn px th (nI ns) kp ln sp wr le wh te dg) (rr f) fa fv fn fx)) : q_I l yX3_guest wsX3_guest { frames := 4, cells := 0, slots := 0, locals := 87 } [.ref o, .int (nI g), .int (nI w)] (q_bp D (wR o ps pa pv pn px cI (oM ps pa pv pn px th (nI ns) kp ln sp wr le wh te dg) (rr f) fa fv fn fx) [(cI, .int)]) (fun v => v = g_gu f g w) (fun H => va_P D vwCl (wR o ps pa pv pn px cI (oM ps pa pv pn px (nI 0) (nI ns) kp ln sp wr le wh te dg) (rr f) fa fv fn fx) H) (AM o ps pa pv pn px) 0 0 := by
  refine q_goI (cc := cX3_guest) (maxL := 3) (ty := .int) (lv0 := [(0, .ref o), (1, .int (nI g)), (2, .int (nI w))]) (by decide) rfl (Nat.le_of_ble_eq_true rfl) rfl ?_
  intro p e s m args below meth c Q ls hx hb hml hts hown hP hK hl hret
  have hS : va_S (AM o ps pa pv pn px) s.heap s.heap [] := va_S.rf
  have hne : o ≠ ps := fun h => absurd (hD.1 0 1 _ _ rfl rfl h) (by decide)
  refine lv_aload_n hx hb dX3_guest_0 rfl (lv_at hl 0 rfl) ?_
  refine lv_iload_n hx hb dX3_guest_1 rfl (lv_at hl 1 rfl) ?_
  refine q_ciR (va_runS (rm := { frames := 1, cells := 0, slots := 0, locals := 22 }) (As := [.int (nI g)]) (rest := [.ref o]) ⟨hx, hb, hml, hown, hts⟩ (m3_isGuest l D (nI g)) (va_cwS 1 hts gX3_guest_X3_isGuest rfl rfl rfl (by decide +kernel) ⟨Nat.le_of_ble_eq_true rfl, Nat.le_of_ble_eq_true rfl⟩) (q_pS (hP.sub [] rfl) (hK.sub [] rfl)) rfl rfl hl.1 rfl (lv_room (Nat.le_of_ble_eq_true rfl)) dX3_guest_2 ⟨Nat.le_of_ble_eq_true rfl, Nat.le_of_ble_eq_true rfl⟩) hP hS (fun x1 H locs e1 hP hS => ?_)
  have e1 : x1 = nI 1 := by
    have h9 : x1 = p_b (q_in (nI 0) (nI 7) (nI g)) := e1
    rw [h9, ((q_inN (Nat.zero_le _) (by omega) (by decide)) : q_in (nI 0) (nI 7) (nI g) = true)]
    rfl
  subst e1
  refine lv_if_ne (tgt := 12) hx hb dX3_guest_5 (by decide) (fun c2 => ?_) (fun c2 => absurd c2 (by decide))
  refine lv_iload_n hx hb dX3_guest_12 rfl (lv_at hl 2 rfl) ?_
  refine lv_iconst (v := nI 0) hx hb dX3_guest_13 (by decide) ?_
  refine lv_bipush (v := nI 9) hx hb dX3_guest_14 (by decide) ?_
  refine q_ciR (va_runS (rm := { frames := 0, cells := 0, slots := 0, locals := 0 }) (As := [.int (nI w), .int (nI 0), .int (nI 9)]) (rest := [.ref o]) ⟨hx, hb, hml, hown, hts⟩ (m3_in l D (nI w) (nI 0) (nI 9)) (va_cwS 3 hts gX3_guest_X3_in rfl rfl rfl (by decide +kernel) ⟨Nat.le_of_ble_eq_true rfl, Nat.le_of_ble_eq_true rfl⟩) (q_pS (hP.sub [] rfl) (hK.sub [] rfl)) rfl rfl hl.1 rfl (lv_room (Nat.le_of_ble_eq_true rfl)) dX3_guest_16 ⟨Nat.le_of_ble_eq_true rfl, Nat.le_of_ble_eq_true rfl⟩) hP hS (fun x3 H locs e3 hP hS => ?_)
  have e3 : x3 = nI 1 := by
    have h9 : x3 = p_b (q_in (nI 0) (nI 9) (nI w)) := e3
    rw [h9, ((q_inN (Nat.zero_le _) (by omega) (by decide)) : q_in (nI 0) (nI 9) (nI w) = true)]
    rfl
  subst e3
  refine lv_if_eq (tgt := 26) hx hb dX3_guest_19 (by decide) (fun c4 => absurd c4 (by decide)) (fun c4 => ?_)
  refine lv_iconst (v := nI 0) hx hb dX3_guest_22 (by decide) ?_
  refine lv_goto (tgt := 27) hx hb dX3_guest_23 (by decide) ?_
  refine q_ci1 (i := 0) (ws' := wR o ps pa pv pn px cI (oM ps pa pv pn px (nI 0) (nI ns) kp ln sp wr le wh te dg) (rr f) fa fv fn fx) (va_runV (rm := { frames := 0, cells := 0, slots := 0, locals := 0 }) (As := [.int (nI 0)]) (rest := []) ⟨hx, hb, hml, hown, hts⟩ (m3_holds0 l D cI o (oM ps pa pv pn px th (nI ns) kp ln sp wr le wh te dg) (Nat.le_of_ble_eq_true rfl)) (cwV 1 hts gX3_guest_X3_holds rfl rfl rfl (by decide +kernel) ⟨Nat.le_of_ble_eq_true rfl, Nat.le_of_ble_eq_true rfl⟩) (q_pV (ci := 3) (q0 := 0) (hP.sub [0] rfl) (hK.sub [] rfl) rfl rfl) rfl rfl hl.1 rfl (lv_room (Nat.le_of_ble_eq_true rfl)) dX3_guest_27 ⟨Nat.le_of_ble_eq_true rfl, Nat.le_of_ble_eq_true rfl⟩) hP hD hS rfl (Or.inl rfl) rfl (fun x5 H locs e5 hP hD hS => ?_)
  have e5 : x5 = nI 1 := e5
  subst e5
  refine lv_if_eq (tgt := 42) hx hb dX3_guest_30 (by decide) (fun c6 => absurd c6 (by decide)) (fun c6 => ?_)
  refine lv_aload_n hx hb dX3_guest_33 rfl (lv_at hl 0 rfl) ?_
  refine lv_iload_n hx hb dX3_guest_34 rfl (lv_at hl 1 rfl) ?_
  refine lv_iload_n hx hb dX3_guest_35 rfl (lv_at hl 2 rfl) ?_
  refine q_ciR (va_runV (rm := { frames := 3, cells := 0, slots := 0, locals := 65 }) (As := [.int (nI g), .int (nI w)]) (rest := []) ⟨hx, hb, hml, hown, hts⟩ (m3_ofGuest l D cI o ps g w (oM ps pa pv pn px (nI 0) (nI ns) kp ln sp wr le wh te dg) f rfl (by omega) B hI (by omega)) (cwV 2 hts gX3_guest_X3_ofGuest rfl rfl rfl (by decide +kernel) ⟨Nat.le_of_ble_eq_true rfl, Nat.le_of_ble_eq_true rfl⟩) (q_pV (ci := 3) (q0 := 0) (hP.sub (ws' := wS o ps cI (oM ps pa pv pn px (nI 0) (nI ns) kp ln sp wr le wh te dg) f) [0, 1] rfl) hK rfl rfl) rfl rfl hl.1 rfl (lv_room (Nat.le_of_ble_eq_true rfl)) dX3_guest_36 ⟨Nat.le_of_ble_eq_true rfl, Nat.le_of_ble_eq_true rfl⟩) hP hS (fun x7 H locs e7 hP hS => ?_)
  have e7 : x7 = g_gu f g w := e7
  refine lv_goto (tgt := 43) hx hb dX3_guest_39 (by decide) ?_
  refine hret _ _ _ _ _ rfl ?_ (hP) hS dX3_guest_43
  subst e7
  rfl
set_option maxHeartbeats 4000000 in
set_option maxRecDepth 100000 in
theorem m3_guest_2 (l : Launch) (D : va_G) (cI : ClassId) (o ps pa pv pn px : Nat) (f fa fv fn fx : Nat → Int32) (B : Nat) (hI : Inv B f) (ns : Nat) (hn : ns ≤ 6) (th kp ln sp wr le wh te : Int32) (dg : Int64) (g : Nat) (hg : g < 8) (xw : Int32) (h1q : q_in (nI 0) (nI 9) xw = false) (hD : va_D (fun _ => True) (wR o ps pa pv pn px cI (oM ps pa pv pn px th (nI ns) kp ln sp wr le wh te dg) (rr f) fa fv fn fx)) : q_I l yX3_guest wsX3_guest { frames := 2, cells := 0, slots := 0, locals := 42 } [.ref o, .int (nI g), .int xw] (q_bp D (wR o ps pa pv pn px cI (oM ps pa pv pn px th (nI ns) kp ln sp wr le wh te dg) (rr f) fa fv fn fx) [(cI, .int)]) (fun v => True) (fun H => va_P D vwCl (wR o ps pa pv pn px cI (oM ps pa pv pn px (nI 2) (nI ns) kp ln sp wr le wh te dg) (rr f) fa fv fn fx) H) (AM o ps pa pv pn px) 0 0 := by
  refine q_goI (cc := cX3_guest) (maxL := 3) (ty := .int) (lv0 := [(0, .ref o), (1, .int (nI g)), (2, .int xw)]) (by decide) rfl (Nat.le_of_ble_eq_true rfl) rfl ?_
  intro p e s m args below meth c Q ls hx hb hml hts hown hP hK hl hret
  have hS : va_S (AM o ps pa pv pn px) s.heap s.heap [] := va_S.rf
  have hne : o ≠ ps := fun h => absurd (hD.1 0 1 _ _ rfl rfl h) (by decide)
  refine lv_aload_n hx hb dX3_guest_0 rfl (lv_at hl 0 rfl) ?_
  refine lv_iload_n hx hb dX3_guest_1 rfl (lv_at hl 1 rfl) ?_
  refine q_ciR (va_runS (rm := { frames := 1, cells := 0, slots := 0, locals := 22 }) (As := [.int (nI g)]) (rest := [.ref o]) ⟨hx, hb, hml, hown, hts⟩ (m3_isGuest l D (nI g)) (va_cwS 1 hts gX3_guest_X3_isGuest rfl rfl rfl (by decide +kernel) ⟨Nat.le_of_ble_eq_true rfl, Nat.le_of_ble_eq_true rfl⟩) (q_pS (hP.sub [] rfl) (hK.sub [] rfl)) rfl rfl hl.1 rfl (lv_room (Nat.le_of_ble_eq_true rfl)) dX3_guest_2 ⟨Nat.le_of_ble_eq_true rfl, Nat.le_of_ble_eq_true rfl⟩) hP hS (fun x1 H locs e1 hP hS => ?_)
  have e1 : x1 = nI 1 := by
    have h9 : x1 = p_b (q_in (nI 0) (nI 7) (nI g)) := e1
    rw [h9, ((q_inN (Nat.zero_le _) (by omega) (by decide)) : q_in (nI 0) (nI 7) (nI g) = true)]
    rfl
  subst e1
  refine lv_if_ne (tgt := 12) hx hb dX3_guest_5 (by decide) (fun c2 => ?_) (fun c2 => absurd c2 (by decide))
  refine lv_iload_n hx hb dX3_guest_12 rfl (lv_at hl 2 rfl) ?_
  refine lv_iconst (v := nI 0) hx hb dX3_guest_13 (by decide) ?_
  refine lv_bipush (v := nI 9) hx hb dX3_guest_14 (by decide) ?_
  refine q_ciR (va_runS (rm := { frames := 0, cells := 0, slots := 0, locals := 0 }) (As := [.int xw, .int (nI 0), .int (nI 9)]) (rest := [.ref o]) ⟨hx, hb, hml, hown, hts⟩ (m3_in l D xw (nI 0) (nI 9)) (va_cwS 3 hts gX3_guest_X3_in rfl rfl rfl (by decide +kernel) ⟨Nat.le_of_ble_eq_true rfl, Nat.le_of_ble_eq_true rfl⟩) (q_pS (hP.sub [] rfl) (hK.sub [] rfl)) rfl rfl hl.1 rfl (lv_room (Nat.le_of_ble_eq_true rfl)) dX3_guest_16 ⟨Nat.le_of_ble_eq_true rfl, Nat.le_of_ble_eq_true rfl⟩) hP hS (fun x3 H locs e3 hP hS => ?_)
  have e3 : x3 = nI 0 := by
    have h9 : x3 = p_b (q_in (nI 0) (nI 9) xw) := e3
    rw [h9, (h1q : q_in (nI 0) (nI 9) xw = false)]
    rfl
  subst e3
  refine lv_if_eq (tgt := 26) hx hb dX3_guest_19 (by decide) (fun c4 => ?_) (fun c4 => absurd c4 (by decide))
  refine lv_iconst (v := nI 2) hx hb dX3_guest_26 (by decide) ?_
  refine q_ci1 (i := 0) (ws' := wR o ps pa pv pn px cI (oM ps pa pv pn px (nI 2) (nI ns) kp ln sp wr le wh te dg) (rr f) fa fv fn fx) (va_runV (rm := { frames := 0, cells := 0, slots := 0, locals := 0 }) (As := [.int (nI 2)]) (rest := []) ⟨hx, hb, hml, hown, hts⟩ (m3_holds2 l D cI o (oM ps pa pv pn px th (nI ns) kp ln sp wr le wh te dg) (Nat.le_of_ble_eq_true rfl)) (cwV 1 hts gX3_guest_X3_holds rfl rfl rfl (by decide +kernel) ⟨Nat.le_of_ble_eq_true rfl, Nat.le_of_ble_eq_true rfl⟩) (q_pV (ci := 3) (q0 := 0) (hP.sub [0] rfl) (hK.sub [] rfl) rfl rfl) rfl rfl hl.1 rfl (lv_room (Nat.le_of_ble_eq_true rfl)) dX3_guest_27 ⟨Nat.le_of_ble_eq_true rfl, Nat.le_of_ble_eq_true rfl⟩) hP hD hS rfl (Or.inl rfl) rfl (fun x5 H locs e5 hP hD hS => ?_)
  have e5 : x5 = nI 0 := e5
  subst e5
  refine lv_if_eq (tgt := 42) hx hb dX3_guest_30 (by decide) (fun c6 => ?_) (fun c6 => absurd c6 (by decide))
  refine lv_iconst (v := nI 0) hx hb dX3_guest_42 (by decide) ?_
  refine hret _ _ _ _ _ rfl ?_ (hP) hS dX3_guest_43
  trivial
set_option maxHeartbeats 4000000 in
set_option maxRecDepth 100000 in
theorem m3_guest_1 (l : Launch) (D : va_G) (cI : ClassId) (o ps pa pv pn px : Nat) (f fa fv fn fx : Nat → Int32) (B : Nat) (hI : Inv B f) (ns : Nat) (hn : ns ≤ 6) (th kp ln sp wr le wh te : Int32) (dg : Int64) (x0 xw : Int32) (h0q : q_in (nI 0) (nI 7) x0 = false) (hD : va_D (fun _ => True) (wR o ps pa pv pn px cI (oM ps pa pv pn px th (nI ns) kp ln sp wr le wh te dg) (rr f) fa fv fn fx)) : q_I l yX3_guest wsX3_guest { frames := 2, cells := 0, slots := 0, locals := 42 } [.ref o, .int x0, .int xw] (q_bp D (wR o ps pa pv pn px cI (oM ps pa pv pn px th (nI ns) kp ln sp wr le wh te dg) (rr f) fa fv fn fx) [(cI, .int)]) (fun v => True) (fun H => va_P D vwCl (wR o ps pa pv pn px cI (oM ps pa pv pn px (nI 1) (nI ns) kp ln sp wr le wh te dg) (rr f) fa fv fn fx) H) (AM o ps pa pv pn px) 0 0 := by
  refine q_goI (cc := cX3_guest) (maxL := 3) (ty := .int) (lv0 := [(0, .ref o), (1, .int x0), (2, .int xw)]) (by decide) rfl (Nat.le_of_ble_eq_true rfl) rfl ?_
  intro p e s m args below meth c Q ls hx hb hml hts hown hP hK hl hret
  have hS : va_S (AM o ps pa pv pn px) s.heap s.heap [] := va_S.rf
  have hne : o ≠ ps := fun h => absurd (hD.1 0 1 _ _ rfl rfl h) (by decide)
  refine lv_aload_n hx hb dX3_guest_0 rfl (lv_at hl 0 rfl) ?_
  refine lv_iload_n hx hb dX3_guest_1 rfl (lv_at hl 1 rfl) ?_
  refine q_ciR (va_runS (rm := { frames := 1, cells := 0, slots := 0, locals := 22 }) (As := [.int x0]) (rest := [.ref o]) ⟨hx, hb, hml, hown, hts⟩ (m3_isGuest l D x0) (va_cwS 1 hts gX3_guest_X3_isGuest rfl rfl rfl (by decide +kernel) ⟨Nat.le_of_ble_eq_true rfl, Nat.le_of_ble_eq_true rfl⟩) (q_pS (hP.sub [] rfl) (hK.sub [] rfl)) rfl rfl hl.1 rfl (lv_room (Nat.le_of_ble_eq_true rfl)) dX3_guest_2 ⟨Nat.le_of_ble_eq_true rfl, Nat.le_of_ble_eq_true rfl⟩) hP hS (fun x1 H locs e1 hP hS => ?_)
  have e1 : x1 = nI 0 := by
    have h9 : x1 = p_b (q_in (nI 0) (nI 7) x0) := e1
    rw [h9, (h0q : q_in (nI 0) (nI 7) x0 = false)]
    rfl
  subst e1
  refine lv_if_ne (tgt := 12) hx hb dX3_guest_5 (by decide) (fun c2 => absurd c2 (by decide)) (fun c2 => ?_)
  refine lv_iconst (v := nI 1) hx hb dX3_guest_8 (by decide) ?_
  refine lv_goto (tgt := 27) hx hb dX3_guest_9 (by decide) ?_
  refine q_ci1 (i := 0) (ws' := wR o ps pa pv pn px cI (oM ps pa pv pn px (nI 1) (nI ns) kp ln sp wr le wh te dg) (rr f) fa fv fn fx) (va_runV (rm := { frames := 0, cells := 0, slots := 0, locals := 0 }) (As := [.int (nI 1)]) (rest := []) ⟨hx, hb, hml, hown, hts⟩ (m3_holds1 l D cI o (oM ps pa pv pn px th (nI ns) kp ln sp wr le wh te dg) (Nat.le_of_ble_eq_true rfl)) (cwV 1 hts gX3_guest_X3_holds rfl rfl rfl (by decide +kernel) ⟨Nat.le_of_ble_eq_true rfl, Nat.le_of_ble_eq_true rfl⟩) (q_pV (ci := 3) (q0 := 0) (hP.sub [0] rfl) (hK.sub [] rfl) rfl rfl) rfl rfl hl.1 rfl (lv_room (Nat.le_of_ble_eq_true rfl)) dX3_guest_27 ⟨Nat.le_of_ble_eq_true rfl, Nat.le_of_ble_eq_true rfl⟩) hP hD hS rfl (Or.inl rfl) rfl (fun x3 H locs e3 hP hD hS => ?_)
  have e3 : x3 = nI 0 := e3
  subst e3
  refine lv_if_eq (tgt := 42) hx hb dX3_guest_30 (by decide) (fun c4 => ?_) (fun c4 => absurd c4 (by decide))
  refine lv_iconst (v := nI 0) hx hb dX3_guest_42 (by decide) ?_
  refine hret _ _ _ _ _ rfl ?_ (hP) hS dX3_guest_43
  trivial
set_option maxHeartbeats 4000000 in
set_option maxRecDepth 100000 in
theorem m3_pot_ok (l : Launch) (D : va_G) (cI : ClassId) (o ps pa pv pn px : Nat) (f fa fv fn fx : Nat → Int32) (B : Nat) (hI : Inv B f) (ns : Nat) (hn : ns ≤ 6) (th kp ln sp wr le wh te : Int32) (dg : Int64) (k : Nat) (hk : k < 3) (w : Nat) (hw : w < 8) (hD : va_D (fun _ => True) (wR o ps pa pv pn px cI (oM ps pa pv pn px th (nI ns) kp ln sp wr le wh te dg) (rr f) fa fv fn fx)) : q_I l yX3_pot wsX3_pot { frames := 4, cells := 0, slots := 0, locals := 86 } [.ref o, .int (nI k), .int (nI w)] (q_bp D (wR o ps pa pv pn px cI (oM ps pa pv pn px th (nI ns) kp ln sp wr le wh te dg) (rr f) fa fv fn fx) [(cI, .int)]) (fun v => v = g_po f k w) (fun H => va_P D vwCl (wR o ps pa pv pn px cI (oM ps pa pv pn px (nI 0) (nI ns) kp ln sp wr le wh te dg) (rr f) fa fv fn fx) H) (AM o ps pa pv pn px) 0 0 := by
  refine q_goI (cc := cX3_pot) (maxL := 3) (ty := .int) (lv0 := [(0, .ref o), (1, .int (nI k)), (2, .int (nI w))]) (by decide) rfl (Nat.le_of_ble_eq_true rfl) rfl ?_
  intro p e s m args below meth c Q ls hx hb hml hts hown hP hK hl hret
  have hS : va_S (AM o ps pa pv pn px) s.heap s.heap [] := va_S.rf
  have hne : o ≠ ps := fun h => absurd (hD.1 0 1 _ _ rfl rfl h) (by decide)
  refine lv_aload_n hx hb dX3_pot_0 rfl (lv_at hl 0 rfl) ?_
  refine lv_iload_n hx hb dX3_pot_1 rfl (lv_at hl 1 rfl) ?_
  refine q_ciR (va_runS (rm := { frames := 1, cells := 0, slots := 0, locals := 22 }) (As := [.int (nI k)]) (rest := [.ref o]) ⟨hx, hb, hml, hown, hts⟩ (m3_isPot l D (nI k)) (va_cwS 1 hts gX3_pot_X3_isPot rfl rfl rfl (by decide +kernel) ⟨Nat.le_of_ble_eq_true rfl, Nat.le_of_ble_eq_true rfl⟩) (q_pS (hP.sub [] rfl) (hK.sub [] rfl)) rfl rfl hl.1 rfl (lv_room (Nat.le_of_ble_eq_true rfl)) dX3_pot_2 ⟨Nat.le_of_ble_eq_true rfl, Nat.le_of_ble_eq_true rfl⟩) hP hS (fun x1 H locs e1 hP hS => ?_)
  have e1 : x1 = nI 1 := by
    have h9 : x1 = p_b (q_in (nI 0) (nI 2) (nI k)) := e1
    rw [h9, ((q_inN (Nat.zero_le _) (by omega) (by decide)) : q_in (nI 0) (nI 2) (nI k) = true)]
    rfl
  subst e1
  refine lv_if_ne (tgt := 12) hx hb dX3_pot_5 (by decide) (fun c2 => ?_) (fun c2 => absurd c2 (by decide))
  refine lv_iload_n hx hb dX3_pot_12 rfl (lv_at hl 2 rfl) ?_
  refine lv_iconst (v := nI 0) hx hb dX3_pot_13 (by decide) ?_
  refine lv_bipush (v := nI 7) hx hb dX3_pot_14 (by decide) ?_
  refine q_ciR (va_runS (rm := { frames := 0, cells := 0, slots := 0, locals := 0 }) (As := [.int (nI w), .int (nI 0), .int (nI 7)]) (rest := [.ref o]) ⟨hx, hb, hml, hown, hts⟩ (m3_in l D (nI w) (nI 0) (nI 7)) (va_cwS 3 hts gX3_pot_X3_in rfl rfl rfl (by decide +kernel) ⟨Nat.le_of_ble_eq_true rfl, Nat.le_of_ble_eq_true rfl⟩) (q_pS (hP.sub [] rfl) (hK.sub [] rfl)) rfl rfl hl.1 rfl (lv_room (Nat.le_of_ble_eq_true rfl)) dX3_pot_16 ⟨Nat.le_of_ble_eq_true rfl, Nat.le_of_ble_eq_true rfl⟩) hP hS (fun x3 H locs e3 hP hS => ?_)
  have e3 : x3 = nI 1 := by
    have h9 : x3 = p_b (q_in (nI 0) (nI 7) (nI w)) := e3
    rw [h9, ((q_inN (Nat.zero_le _) (by omega) (by decide)) : q_in (nI 0) (nI 7) (nI w) = true)]
    rfl
  subst e3
  refine lv_if_eq (tgt := 26) hx hb dX3_pot_19 (by decide) (fun c4 => absurd c4 (by decide)) (fun c4 => ?_)
  refine lv_iconst (v := nI 0) hx hb dX3_pot_22 (by decide) ?_
  refine lv_goto (tgt := 27) hx hb dX3_pot_23 (by decide) ?_
  refine q_ci1 (i := 0) (ws' := wR o ps pa pv pn px cI (oM ps pa pv pn px (nI 0) (nI ns) kp ln sp wr le wh te dg) (rr f) fa fv fn fx) (va_runV (rm := { frames := 0, cells := 0, slots := 0, locals := 0 }) (As := [.int (nI 0)]) (rest := []) ⟨hx, hb, hml, hown, hts⟩ (m3_holds0 l D cI o (oM ps pa pv pn px th (nI ns) kp ln sp wr le wh te dg) (Nat.le_of_ble_eq_true rfl)) (cwV 1 hts gX3_pot_X3_holds rfl rfl rfl (by decide +kernel) ⟨Nat.le_of_ble_eq_true rfl, Nat.le_of_ble_eq_true rfl⟩) (q_pV (ci := 3) (q0 := 0) (hP.sub [0] rfl) (hK.sub [] rfl) rfl rfl) rfl rfl hl.1 rfl (lv_room (Nat.le_of_ble_eq_true rfl)) dX3_pot_27 ⟨Nat.le_of_ble_eq_true rfl, Nat.le_of_ble_eq_true rfl⟩) hP hD hS rfl (Or.inl rfl) rfl (fun x5 H locs e5 hP hD hS => ?_)
  have e5 : x5 = nI 1 := e5
  subst e5
  refine lv_if_eq (tgt := 42) hx hb dX3_pot_30 (by decide) (fun c6 => absurd c6 (by decide)) (fun c6 => ?_)
  refine lv_aload_n hx hb dX3_pot_33 rfl (lv_at hl 0 rfl) ?_
  refine lv_iload_n hx hb dX3_pot_34 rfl (lv_at hl 1 rfl) ?_
  refine lv_iload_n hx hb dX3_pot_35 rfl (lv_at hl 2 rfl) ?_
  refine q_ciR (va_runV (rm := { frames := 3, cells := 0, slots := 0, locals := 64 }) (As := [.int (nI k), .int (nI w)]) (rest := []) ⟨hx, hb, hml, hown, hts⟩ (m3_ofOne l D cI o ps k w (oM ps pa pv pn px (nI 0) (nI ns) kp ln sp wr le wh te dg) f rfl B hI (by omega) (by omega)) (cwV 2 hts gX3_pot_X3_ofOne rfl rfl rfl (by decide +kernel) ⟨Nat.le_of_ble_eq_true rfl, Nat.le_of_ble_eq_true rfl⟩) (q_pV (ci := 3) (q0 := 0) (hP.sub (ws' := wS o ps cI (oM ps pa pv pn px (nI 0) (nI ns) kp ln sp wr le wh te dg) f) [0, 1] rfl) hK rfl rfl) rfl rfl hl.1 rfl (lv_room (Nat.le_of_ble_eq_true rfl)) dX3_pot_36 ⟨Nat.le_of_ble_eq_true rfl, Nat.le_of_ble_eq_true rfl⟩) hP hS (fun x7 H locs e7 hP hS => ?_)
  have e7 : x7 = g_po f k w := e7
  refine lv_goto (tgt := 43) hx hb dX3_pot_39 (by decide) ?_
  refine hret _ _ _ _ _ rfl ?_ (hP) hS dX3_pot_43
  subst e7
  rfl
set_option maxHeartbeats 4000000 in
set_option maxRecDepth 100000 in
theorem m3_pot_2 (l : Launch) (D : va_G) (cI : ClassId) (o ps pa pv pn px : Nat) (f fa fv fn fx : Nat → Int32) (B : Nat) (hI : Inv B f) (ns : Nat) (hn : ns ≤ 6) (th kp ln sp wr le wh te : Int32) (dg : Int64) (k : Nat) (hk : k < 3) (xw : Int32) (h1q : q_in (nI 0) (nI 7) xw = false) (hD : va_D (fun _ => True) (wR o ps pa pv pn px cI (oM ps pa pv pn px th (nI ns) kp ln sp wr le wh te dg) (rr f) fa fv fn fx)) : q_I l yX3_pot wsX3_pot { frames := 2, cells := 0, slots := 0, locals := 42 } [.ref o, .int (nI k), .int xw] (q_bp D (wR o ps pa pv pn px cI (oM ps pa pv pn px th (nI ns) kp ln sp wr le wh te dg) (rr f) fa fv fn fx) [(cI, .int)]) (fun v => True) (fun H => va_P D vwCl (wR o ps pa pv pn px cI (oM ps pa pv pn px (nI 2) (nI ns) kp ln sp wr le wh te dg) (rr f) fa fv fn fx) H) (AM o ps pa pv pn px) 0 0 := by
  refine q_goI (cc := cX3_pot) (maxL := 3) (ty := .int) (lv0 := [(0, .ref o), (1, .int (nI k)), (2, .int xw)]) (by decide) rfl (Nat.le_of_ble_eq_true rfl) rfl ?_
  intro p e s m args below meth c Q ls hx hb hml hts hown hP hK hl hret
  have hS : va_S (AM o ps pa pv pn px) s.heap s.heap [] := va_S.rf
  have hne : o ≠ ps := fun h => absurd (hD.1 0 1 _ _ rfl rfl h) (by decide)
  refine lv_aload_n hx hb dX3_pot_0 rfl (lv_at hl 0 rfl) ?_
  refine lv_iload_n hx hb dX3_pot_1 rfl (lv_at hl 1 rfl) ?_
  refine q_ciR (va_runS (rm := { frames := 1, cells := 0, slots := 0, locals := 22 }) (As := [.int (nI k)]) (rest := [.ref o]) ⟨hx, hb, hml, hown, hts⟩ (m3_isPot l D (nI k)) (va_cwS 1 hts gX3_pot_X3_isPot rfl rfl rfl (by decide +kernel) ⟨Nat.le_of_ble_eq_true rfl, Nat.le_of_ble_eq_true rfl⟩) (q_pS (hP.sub [] rfl) (hK.sub [] rfl)) rfl rfl hl.1 rfl (lv_room (Nat.le_of_ble_eq_true rfl)) dX3_pot_2 ⟨Nat.le_of_ble_eq_true rfl, Nat.le_of_ble_eq_true rfl⟩) hP hS (fun x1 H locs e1 hP hS => ?_)
  have e1 : x1 = nI 1 := by
    have h9 : x1 = p_b (q_in (nI 0) (nI 2) (nI k)) := e1
    rw [h9, ((q_inN (Nat.zero_le _) (by omega) (by decide)) : q_in (nI 0) (nI 2) (nI k) = true)]
    rfl
  subst e1
  refine lv_if_ne (tgt := 12) hx hb dX3_pot_5 (by decide) (fun c2 => ?_) (fun c2 => absurd c2 (by decide))
  refine lv_iload_n hx hb dX3_pot_12 rfl (lv_at hl 2 rfl) ?_
  refine lv_iconst (v := nI 0) hx hb dX3_pot_13 (by decide) ?_
  refine lv_bipush (v := nI 7) hx hb dX3_pot_14 (by decide) ?_
  refine q_ciR (va_runS (rm := { frames := 0, cells := 0, slots := 0, locals := 0 }) (As := [.int xw, .int (nI 0), .int (nI 7)]) (rest := [.ref o]) ⟨hx, hb, hml, hown, hts⟩ (m3_in l D xw (nI 0) (nI 7)) (va_cwS 3 hts gX3_pot_X3_in rfl rfl rfl (by decide +kernel) ⟨Nat.le_of_ble_eq_true rfl, Nat.le_of_ble_eq_true rfl⟩) (q_pS (hP.sub [] rfl) (hK.sub [] rfl)) rfl rfl hl.1 rfl (lv_room (Nat.le_of_ble_eq_true rfl)) dX3_pot_16 ⟨Nat.le_of_ble_eq_true rfl, Nat.le_of_ble_eq_true rfl⟩) hP hS (fun x3 H locs e3 hP hS => ?_)
  have e3 : x3 = nI 0 := by
    have h9 : x3 = p_b (q_in (nI 0) (nI 7) xw) := e3
    rw [h9, (h1q : q_in (nI 0) (nI 7) xw = false)]
    rfl
  subst e3
  refine lv_if_eq (tgt := 26) hx hb dX3_pot_19 (by decide) (fun c4 => ?_) (fun c4 => absurd c4 (by decide))
  refine lv_iconst (v := nI 2) hx hb dX3_pot_26 (by decide) ?_
  refine q_ci1 (i := 0) (ws' := wR o ps pa pv pn px cI (oM ps pa pv pn px (nI 2) (nI ns) kp ln sp wr le wh te dg) (rr f) fa fv fn fx) (va_runV (rm := { frames := 0, cells := 0, slots := 0, locals := 0 }) (As := [.int (nI 2)]) (rest := []) ⟨hx, hb, hml, hown, hts⟩ (m3_holds2 l D cI o (oM ps pa pv pn px th (nI ns) kp ln sp wr le wh te dg) (Nat.le_of_ble_eq_true rfl)) (cwV 1 hts gX3_pot_X3_holds rfl rfl rfl (by decide +kernel) ⟨Nat.le_of_ble_eq_true rfl, Nat.le_of_ble_eq_true rfl⟩) (q_pV (ci := 3) (q0 := 0) (hP.sub [0] rfl) (hK.sub [] rfl) rfl rfl) rfl rfl hl.1 rfl (lv_room (Nat.le_of_ble_eq_true rfl)) dX3_pot_27 ⟨Nat.le_of_ble_eq_true rfl, Nat.le_of_ble_eq_true rfl⟩) hP hD hS rfl (Or.inl rfl) rfl (fun x5 H locs e5 hP hD hS => ?_)
  have e5 : x5 = nI 0 := e5
  subst e5
  refine lv_if_eq (tgt := 42) hx hb dX3_pot_30 (by decide) (fun c6 => ?_) (fun c6 => absurd c6 (by decide))
  refine lv_iconst (v := nI 0) hx hb dX3_pot_42 (by decide) ?_
  refine hret _ _ _ _ _ rfl ?_ (hP) hS dX3_pot_43
  trivial
set_option maxHeartbeats 4000000 in
set_option maxRecDepth 100000 in
theorem m3_pot_1 (l : Launch) (D : va_G) (cI : ClassId) (o ps pa pv pn px : Nat) (f fa fv fn fx : Nat → Int32) (B : Nat) (hI : Inv B f) (ns : Nat) (hn : ns ≤ 6) (th kp ln sp wr le wh te : Int32) (dg : Int64) (x0 xw : Int32) (h0q : q_in (nI 0) (nI 2) x0 = false) (hD : va_D (fun _ => True) (wR o ps pa pv pn px cI (oM ps pa pv pn px th (nI ns) kp ln sp wr le wh te dg) (rr f) fa fv fn fx)) : q_I l yX3_pot wsX3_pot { frames := 2, cells := 0, slots := 0, locals := 42 } [.ref o, .int x0, .int xw] (q_bp D (wR o ps pa pv pn px cI (oM ps pa pv pn px th (nI ns) kp ln sp wr le wh te dg) (rr f) fa fv fn fx) [(cI, .int)]) (fun v => True) (fun H => va_P D vwCl (wR o ps pa pv pn px cI (oM ps pa pv pn px (nI 1) (nI ns) kp ln sp wr le wh te dg) (rr f) fa fv fn fx) H) (AM o ps pa pv pn px) 0 0 := by
  refine q_goI (cc := cX3_pot) (maxL := 3) (ty := .int) (lv0 := [(0, .ref o), (1, .int x0), (2, .int xw)]) (by decide) rfl (Nat.le_of_ble_eq_true rfl) rfl ?_
  intro p e s m args below meth c Q ls hx hb hml hts hown hP hK hl hret
  have hS : va_S (AM o ps pa pv pn px) s.heap s.heap [] := va_S.rf
  have hne : o ≠ ps := fun h => absurd (hD.1 0 1 _ _ rfl rfl h) (by decide)
  refine lv_aload_n hx hb dX3_pot_0 rfl (lv_at hl 0 rfl) ?_
  refine lv_iload_n hx hb dX3_pot_1 rfl (lv_at hl 1 rfl) ?_
  refine q_ciR (va_runS (rm := { frames := 1, cells := 0, slots := 0, locals := 22 }) (As := [.int x0]) (rest := [.ref o]) ⟨hx, hb, hml, hown, hts⟩ (m3_isPot l D x0) (va_cwS 1 hts gX3_pot_X3_isPot rfl rfl rfl (by decide +kernel) ⟨Nat.le_of_ble_eq_true rfl, Nat.le_of_ble_eq_true rfl⟩) (q_pS (hP.sub [] rfl) (hK.sub [] rfl)) rfl rfl hl.1 rfl (lv_room (Nat.le_of_ble_eq_true rfl)) dX3_pot_2 ⟨Nat.le_of_ble_eq_true rfl, Nat.le_of_ble_eq_true rfl⟩) hP hS (fun x1 H locs e1 hP hS => ?_)
  have e1 : x1 = nI 0 := by
    have h9 : x1 = p_b (q_in (nI 0) (nI 2) x0) := e1
    rw [h9, (h0q : q_in (nI 0) (nI 2) x0 = false)]
    rfl
  subst e1
  refine lv_if_ne (tgt := 12) hx hb dX3_pot_5 (by decide) (fun c2 => absurd c2 (by decide)) (fun c2 => ?_)
  refine lv_iconst (v := nI 1) hx hb dX3_pot_8 (by decide) ?_
  refine lv_goto (tgt := 27) hx hb dX3_pot_9 (by decide) ?_
  refine q_ci1 (i := 0) (ws' := wR o ps pa pv pn px cI (oM ps pa pv pn px (nI 1) (nI ns) kp ln sp wr le wh te dg) (rr f) fa fv fn fx) (va_runV (rm := { frames := 0, cells := 0, slots := 0, locals := 0 }) (As := [.int (nI 1)]) (rest := []) ⟨hx, hb, hml, hown, hts⟩ (m3_holds1 l D cI o (oM ps pa pv pn px th (nI ns) kp ln sp wr le wh te dg) (Nat.le_of_ble_eq_true rfl)) (cwV 1 hts gX3_pot_X3_holds rfl rfl rfl (by decide +kernel) ⟨Nat.le_of_ble_eq_true rfl, Nat.le_of_ble_eq_true rfl⟩) (q_pV (ci := 3) (q0 := 0) (hP.sub [0] rfl) (hK.sub [] rfl) rfl rfl) rfl rfl hl.1 rfl (lv_room (Nat.le_of_ble_eq_true rfl)) dX3_pot_27 ⟨Nat.le_of_ble_eq_true rfl, Nat.le_of_ble_eq_true rfl⟩) hP hD hS rfl (Or.inl rfl) rfl (fun x3 H locs e3 hP hD hS => ?_)
  have e3 : x3 = nI 0 := e3
  subst e3
  refine lv_if_eq (tgt := 42) hx hb dX3_pot_30 (by decide) (fun c4 => ?_) (fun c4 => absurd c4 (by decide))
  refine lv_iconst (v := nI 0) hx hb dX3_pot_42 (by decide) ?_
  refine hret _ _ _ _ _ rfl ?_ (hP) hS dX3_pot_43
  trivial
set_option maxHeartbeats 4000000 in
set_option maxRecDepth 100000 in
theorem m3_told_ok (l : Launch) (D : va_G) (cI : ClassId) (o ps pa pv pn px : Nat) (f fa fv fn fx : Nat → Int32) (B : Nat) (hI : Inv B f) (ns : Nat) (hn : ns ≤ 6) (th kp ln sp wr le wh te : Int32) (dg : Int64) (k : Nat) (hk : k < 3) (g : Nat) (hg : g < 8)  (hD : va_D (fun _ => True) (wR o ps pa pv pn px cI (oM ps pa pv pn px th (nI ns) kp ln sp wr le wh te dg) (rr f) fa fv fn fx)) : q_I l yX3_told wsX3_told { frames := 2, cells := 0, slots := 0, locals := 42 } [.ref o, .int (nI k), .int (nI g)] (q_bp D (wR o ps pa pv pn px cI (oM ps pa pv pn px th (nI ns) kp ln sp wr le wh te dg) (rr f) fa fv fn fx) [(cI, .int)]) (fun v => v = f (87 + 8 * k + g)) (fun H => va_P D vwCl (wR o ps pa pv pn px cI (oM ps pa pv pn px (nI 0) (nI ns) kp ln sp wr le wh te dg) (rr f) fa fv fn fx) H) (AM o ps pa pv pn px) 0 0 := by
  refine q_goI (cc := cX3_told) (maxL := 3) (ty := .int) (lv0 := [(0, .ref o), (1, .int (nI k)), (2, .int (nI g))]) (by decide) rfl (Nat.le_of_ble_eq_true rfl) rfl ?_
  intro p e s m args below meth c Q ls hx hb hml hts hown hP hK hl hret
  have hi3 : ∀ w ∈ wsX30, w ∈ wsX3_told := by decide +kernel
  have hfl7 := hts (.fieldLink RX3 7 "WhisperedPotsModel" "s" "[I") (by decide +kernel)
  have hS : va_S (AM o ps pa pv pn px) s.heap s.heap [] := va_S.rf
  have hne : o ≠ ps := fun h => absurd (hD.1 0 1 _ _ rfl rfl h) (by decide)
  refine lv_aload_n hx hb dX3_told_0 rfl (lv_at hl 0 rfl) ?_
  refine lv_iload_n hx hb dX3_told_1 rfl (lv_at hl 1 rfl) ?_
  refine q_ciR (va_runS (rm := { frames := 1, cells := 0, slots := 0, locals := 22 }) (As := [.int (nI k)]) (rest := [.ref o]) ⟨hx, hb, hml, hown, hts⟩ (m3_isPot l D (nI k)) (va_cwS 1 hts gX3_told_X3_isPot rfl rfl rfl (by decide +kernel) ⟨Nat.le_of_ble_eq_true rfl, Nat.le_of_ble_eq_true rfl⟩) (q_pS (hP.sub [] rfl) (hK.sub [] rfl)) rfl rfl hl.1 rfl (lv_room (Nat.le_of_ble_eq_true rfl)) dX3_told_2 ⟨Nat.le_of_ble_eq_true rfl, Nat.le_of_ble_eq_true rfl⟩) hP hS (fun x1 H locs e1 hP hS => ?_)
  have e1 : x1 = nI 1 := by
    have h9 : x1 = p_b (q_in (nI 0) (nI 2) (nI k)) := e1
    rw [h9, ((q_inN (Nat.zero_le _) (by omega) (by decide)) : q_in (nI 0) (nI 2) (nI k) = true)]
    rfl
  subst e1
  refine lv_if_eq (tgt := 19) hx hb dX3_told_5 (by decide) (fun c2 => absurd c2 (by decide)) (fun c2 => ?_)
  refine lv_iload_n hx hb dX3_told_8 rfl (lv_at hl 2 rfl) ?_
  refine q_ciR (va_runS (rm := { frames := 1, cells := 0, slots := 0, locals := 22 }) (As := [.int (nI g)]) (rest := [.ref o]) ⟨hx, hb, hml, hown, hts⟩ (m3_isGuest l D (nI g)) (va_cwS 1 hts gX3_told_X3_isGuest rfl rfl rfl (by decide +kernel) ⟨Nat.le_of_ble_eq_true rfl, Nat.le_of_ble_eq_true rfl⟩) (q_pS (hP.sub [] rfl) (hK.sub [] rfl)) rfl rfl hl.1 rfl (lv_room (Nat.le_of_ble_eq_true rfl)) dX3_told_9 ⟨Nat.le_of_ble_eq_true rfl, Nat.le_of_ble_eq_true rfl⟩) hP hS (fun x3 H locs e3 hP hS => ?_)
  have e3 : x3 = nI 1 := by
    have h9 : x3 = p_b (q_in (nI 0) (nI 7) (nI g)) := e3
    rw [h9, ((q_inN (Nat.zero_le _) (by omega) (by decide)) : q_in (nI 0) (nI 7) (nI g) = true)]
    rfl
  subst e3
  refine lv_if_eq (tgt := 19) hx hb dX3_told_12 (by decide) (fun c4 => absurd c4 (by decide)) (fun c4 => ?_)
  refine lv_iconst (v := nI 0) hx hb dX3_told_15 (by decide) ?_
  refine lv_goto (tgt := 20) hx hb dX3_told_16 (by decide) ?_
  refine q_ci1 (i := 0) (ws' := wR o ps pa pv pn px cI (oM ps pa pv pn px (nI 0) (nI ns) kp ln sp wr le wh te dg) (rr f) fa fv fn fx) (va_runV (rm := { frames := 0, cells := 0, slots := 0, locals := 0 }) (As := [.int (nI 0)]) (rest := []) ⟨hx, hb, hml, hown, hts⟩ (m3_holds0 l D cI o (oM ps pa pv pn px th (nI ns) kp ln sp wr le wh te dg) (Nat.le_of_ble_eq_true rfl)) (cwV 1 hts gX3_told_X3_holds rfl rfl rfl (by decide +kernel) ⟨Nat.le_of_ble_eq_true rfl, Nat.le_of_ble_eq_true rfl⟩) (q_pV (ci := 3) (q0 := 0) (hP.sub [0] rfl) (hK.sub [] rfl) rfl rfl) rfl rfl hl.1 rfl (lv_room (Nat.le_of_ble_eq_true rfl)) dX3_told_20 ⟨Nat.le_of_ble_eq_true rfl, Nat.le_of_ble_eq_true rfl⟩) hP hD hS rfl (Or.inl rfl) rfl (fun x5 H locs e5 hP hD hS => ?_)
  have e5 : x5 = nI 1 := e5
  subst e5
  refine lv_if_eq (tgt := 43) hx hb dX3_told_23 (by decide) (fun c6 => absurd c6 (by decide)) (fun c6 => ?_)
  refine lv_aload_n hx hb dX3_told_26 rfl (lv_at hl 0 rfl) ?_
  refine va_get (D := D) (ci := 3) (v := .ref ps) (C := RX3) (T := TX3) (N := 15) hx hb hts hi3 hown hK hP 0 rfl rfl 1 (by decide) hfl7 (fun _ h9 => h9) rfl dX3_told_27 ?_
  refine lv_bipush (v := nI 87) hx hb dX3_told_30 (by decide) ?_
  refine lv_bipush (v := nI 8) hx hb dX3_told_32 (by decide) ?_
  refine lv_iload_n hx hb dX3_told_34 rfl (lv_at hl 1 rfl) ?_
  refine q_mulN hx hb (8 * k) (by omega) dX3_told_35 ?_
  refine q_addN hx hb (87 + 8 * k) (by omega) dX3_told_36 ?_
  refine lv_iload_n hx hb dX3_told_37 rfl (lv_at hl 2 rfl) ?_
  refine q_addN hx hb (87 + 8 * k + g) (by omega) dX3_told_38 ?_
  refine q_ld hx hb hK hP 1 0 rfl rfl (j := (87 + 8 * k + g)) (v := f (87 + 8 * k + g)) (by omega) (by omega) (rr_at (pm_id (by omega))) dX3_told_39 ?_
  refine lv_goto (tgt := 44) hx hb dX3_told_40 (by decide) ?_
  refine hret _ _ _ _ _ rfl ?_ (hP) hS dX3_told_44
  rfl
set_option maxHeartbeats 4000000 in
set_option maxRecDepth 100000 in
theorem m3_told_1a (l : Launch) (D : va_G) (cI : ClassId) (o ps pa pv pn px : Nat) (f fa fv fn fx : Nat → Int32) (B : Nat) (hI : Inv B f) (ns : Nat) (hn : ns ≤ 6) (th kp ln sp wr le wh te : Int32) (dg : Int64) (x0 xg : Int32) (h0q : q_in (nI 0) (nI 2) x0 = false) (hD : va_D (fun _ => True) (wR o ps pa pv pn px cI (oM ps pa pv pn px th (nI ns) kp ln sp wr le wh te dg) (rr f) fa fv fn fx)) : q_I l yX3_told wsX3_told { frames := 2, cells := 0, slots := 0, locals := 42 } [.ref o, .int x0, .int xg] (q_bp D (wR o ps pa pv pn px cI (oM ps pa pv pn px th (nI ns) kp ln sp wr le wh te dg) (rr f) fa fv fn fx) [(cI, .int)]) (fun v => True) (fun H => va_P D vwCl (wR o ps pa pv pn px cI (oM ps pa pv pn px (nI 1) (nI ns) kp ln sp wr le wh te dg) (rr f) fa fv fn fx) H) (AM o ps pa pv pn px) 0 0 := by
  refine q_goI (cc := cX3_told) (maxL := 3) (ty := .int) (lv0 := [(0, .ref o), (1, .int x0), (2, .int xg)]) (by decide) rfl (Nat.le_of_ble_eq_true rfl) rfl ?_
  intro p e s m args below meth c Q ls hx hb hml hts hown hP hK hl hret
  have hi3 : ∀ w ∈ wsX30, w ∈ wsX3_told := by decide +kernel
  have hfl7 := hts (.fieldLink RX3 7 "WhisperedPotsModel" "s" "[I") (by decide +kernel)
  have hS : va_S (AM o ps pa pv pn px) s.heap s.heap [] := va_S.rf
  have hne : o ≠ ps := fun h => absurd (hD.1 0 1 _ _ rfl rfl h) (by decide)
  refine lv_aload_n hx hb dX3_told_0 rfl (lv_at hl 0 rfl) ?_
  refine lv_iload_n hx hb dX3_told_1 rfl (lv_at hl 1 rfl) ?_
  refine q_ciR (va_runS (rm := { frames := 1, cells := 0, slots := 0, locals := 22 }) (As := [.int x0]) (rest := [.ref o]) ⟨hx, hb, hml, hown, hts⟩ (m3_isPot l D x0) (va_cwS 1 hts gX3_told_X3_isPot rfl rfl rfl (by decide +kernel) ⟨Nat.le_of_ble_eq_true rfl, Nat.le_of_ble_eq_true rfl⟩) (q_pS (hP.sub [] rfl) (hK.sub [] rfl)) rfl rfl hl.1 rfl (lv_room (Nat.le_of_ble_eq_true rfl)) dX3_told_2 ⟨Nat.le_of_ble_eq_true rfl, Nat.le_of_ble_eq_true rfl⟩) hP hS (fun x1 H locs e1 hP hS => ?_)
  have e1 : x1 = nI 0 := by
    have h9 : x1 = p_b (q_in (nI 0) (nI 2) x0) := e1
    rw [h9, (h0q : q_in (nI 0) (nI 2) x0 = false)]
    rfl
  subst e1
  refine lv_if_eq (tgt := 19) hx hb dX3_told_5 (by decide) (fun c2 => ?_) (fun c2 => absurd c2 (by decide))
  refine lv_iconst (v := nI 1) hx hb dX3_told_19 (by decide) ?_
  refine q_ci1 (i := 0) (ws' := wR o ps pa pv pn px cI (oM ps pa pv pn px (nI 1) (nI ns) kp ln sp wr le wh te dg) (rr f) fa fv fn fx) (va_runV (rm := { frames := 0, cells := 0, slots := 0, locals := 0 }) (As := [.int (nI 1)]) (rest := []) ⟨hx, hb, hml, hown, hts⟩ (m3_holds1 l D cI o (oM ps pa pv pn px th (nI ns) kp ln sp wr le wh te dg) (Nat.le_of_ble_eq_true rfl)) (cwV 1 hts gX3_told_X3_holds rfl rfl rfl (by decide +kernel) ⟨Nat.le_of_ble_eq_true rfl, Nat.le_of_ble_eq_true rfl⟩) (q_pV (ci := 3) (q0 := 0) (hP.sub [0] rfl) (hK.sub [] rfl) rfl rfl) rfl rfl hl.1 rfl (lv_room (Nat.le_of_ble_eq_true rfl)) dX3_told_20 ⟨Nat.le_of_ble_eq_true rfl, Nat.le_of_ble_eq_true rfl⟩) hP hD hS rfl (Or.inl rfl) rfl (fun x3 H locs e3 hP hD hS => ?_)
  have e3 : x3 = nI 0 := e3
  subst e3
  refine lv_if_eq (tgt := 43) hx hb dX3_told_23 (by decide) (fun c4 => ?_) (fun c4 => absurd c4 (by decide))
  refine lv_iconst (v := nI 0) hx hb dX3_told_43 (by decide) ?_
  refine hret _ _ _ _ _ rfl ?_ (hP) hS dX3_told_44
  trivial
set_option maxHeartbeats 4000000 in
set_option maxRecDepth 100000 in
theorem m3_told_1b (l : Launch) (D : va_G) (cI : ClassId) (o ps pa pv pn px : Nat) (f fa fv fn fx : Nat → Int32) (B : Nat) (hI : Inv B f) (ns : Nat) (hn : ns ≤ 6) (th kp ln sp wr le wh te : Int32) (dg : Int64) (k : Nat) (hk : k < 3) (x0 : Int32) (h0q : q_in (nI 0) (nI 7) x0 = false) (hD : va_D (fun _ => True) (wR o ps pa pv pn px cI (oM ps pa pv pn px th (nI ns) kp ln sp wr le wh te dg) (rr f) fa fv fn fx)) : q_I l yX3_told wsX3_told { frames := 2, cells := 0, slots := 0, locals := 42 } [.ref o, .int (nI k), .int x0] (q_bp D (wR o ps pa pv pn px cI (oM ps pa pv pn px th (nI ns) kp ln sp wr le wh te dg) (rr f) fa fv fn fx) [(cI, .int)]) (fun v => True) (fun H => va_P D vwCl (wR o ps pa pv pn px cI (oM ps pa pv pn px (nI 1) (nI ns) kp ln sp wr le wh te dg) (rr f) fa fv fn fx) H) (AM o ps pa pv pn px) 0 0 := by
  refine q_goI (cc := cX3_told) (maxL := 3) (ty := .int) (lv0 := [(0, .ref o), (1, .int (nI k)), (2, .int x0)]) (by decide) rfl (Nat.le_of_ble_eq_true rfl) rfl ?_
  intro p e s m args below meth c Q ls hx hb hml hts hown hP hK hl hret
  have hi3 : ∀ w ∈ wsX30, w ∈ wsX3_told := by decide +kernel
  have hfl7 := hts (.fieldLink RX3 7 "WhisperedPotsModel" "s" "[I") (by decide +kernel)
  have hS : va_S (AM o ps pa pv pn px) s.heap s.heap [] := va_S.rf
  have hne : o ≠ ps := fun h => absurd (hD.1 0 1 _ _ rfl rfl h) (by decide)
  refine lv_aload_n hx hb dX3_told_0 rfl (lv_at hl 0 rfl) ?_
  refine lv_iload_n hx hb dX3_told_1 rfl (lv_at hl 1 rfl) ?_
  refine q_ciR (va_runS (rm := { frames := 1, cells := 0, slots := 0, locals := 22 }) (As := [.int (nI k)]) (rest := [.ref o]) ⟨hx, hb, hml, hown, hts⟩ (m3_isPot l D (nI k)) (va_cwS 1 hts gX3_told_X3_isPot rfl rfl rfl (by decide +kernel) ⟨Nat.le_of_ble_eq_true rfl, Nat.le_of_ble_eq_true rfl⟩) (q_pS (hP.sub [] rfl) (hK.sub [] rfl)) rfl rfl hl.1 rfl (lv_room (Nat.le_of_ble_eq_true rfl)) dX3_told_2 ⟨Nat.le_of_ble_eq_true rfl, Nat.le_of_ble_eq_true rfl⟩) hP hS (fun x1 H locs e1 hP hS => ?_)
  have e1 : x1 = nI 1 := by
    have h9 : x1 = p_b (q_in (nI 0) (nI 2) (nI k)) := e1
    rw [h9, ((q_inN (Nat.zero_le _) (by omega) (by decide)) : q_in (nI 0) (nI 2) (nI k) = true)]
    rfl
  subst e1
  refine lv_if_eq (tgt := 19) hx hb dX3_told_5 (by decide) (fun c2 => absurd c2 (by decide)) (fun c2 => ?_)
  refine lv_iload_n hx hb dX3_told_8 rfl (lv_at hl 2 rfl) ?_
  refine q_ciR (va_runS (rm := { frames := 1, cells := 0, slots := 0, locals := 22 }) (As := [.int x0]) (rest := [.ref o]) ⟨hx, hb, hml, hown, hts⟩ (m3_isGuest l D x0) (va_cwS 1 hts gX3_told_X3_isGuest rfl rfl rfl (by decide +kernel) ⟨Nat.le_of_ble_eq_true rfl, Nat.le_of_ble_eq_true rfl⟩) (q_pS (hP.sub [] rfl) (hK.sub [] rfl)) rfl rfl hl.1 rfl (lv_room (Nat.le_of_ble_eq_true rfl)) dX3_told_9 ⟨Nat.le_of_ble_eq_true rfl, Nat.le_of_ble_eq_true rfl⟩) hP hS (fun x3 H locs e3 hP hS => ?_)
  have e3 : x3 = nI 0 := by
    have h9 : x3 = p_b (q_in (nI 0) (nI 7) x0) := e3
    rw [h9, (h0q : q_in (nI 0) (nI 7) x0 = false)]
    rfl
  subst e3
  refine lv_if_eq (tgt := 19) hx hb dX3_told_12 (by decide) (fun c4 => ?_) (fun c4 => absurd c4 (by decide))
  refine lv_iconst (v := nI 1) hx hb dX3_told_19 (by decide) ?_
  refine q_ci1 (i := 0) (ws' := wR o ps pa pv pn px cI (oM ps pa pv pn px (nI 1) (nI ns) kp ln sp wr le wh te dg) (rr f) fa fv fn fx) (va_runV (rm := { frames := 0, cells := 0, slots := 0, locals := 0 }) (As := [.int (nI 1)]) (rest := []) ⟨hx, hb, hml, hown, hts⟩ (m3_holds1 l D cI o (oM ps pa pv pn px th (nI ns) kp ln sp wr le wh te dg) (Nat.le_of_ble_eq_true rfl)) (cwV 1 hts gX3_told_X3_holds rfl rfl rfl (by decide +kernel) ⟨Nat.le_of_ble_eq_true rfl, Nat.le_of_ble_eq_true rfl⟩) (q_pV (ci := 3) (q0 := 0) (hP.sub [0] rfl) (hK.sub [] rfl) rfl rfl) rfl rfl hl.1 rfl (lv_room (Nat.le_of_ble_eq_true rfl)) dX3_told_20 ⟨Nat.le_of_ble_eq_true rfl, Nat.le_of_ble_eq_true rfl⟩) hP hD hS rfl (Or.inl rfl) rfl (fun x5 H locs e5 hP hD hS => ?_)
  have e5 : x5 = nI 0 := e5
  subst e5
  refine lv_if_eq (tgt := 43) hx hb dX3_told_23 (by decide) (fun c6 => ?_) (fun c6 => absurd c6 (by decide))
  refine lv_iconst (v := nI 0) hx hb dX3_told_43 (by decide) ?_
  refine hret _ _ _ _ _ rfl ?_ (hP) hS dX3_told_44
  trivial
set_option maxHeartbeats 4000000 in
set_option maxRecDepth 100000 in
theorem m3_ifPoured_ok (l : Launch) (D : va_G) (cI : ClassId) (o ps pa pv pn px : Nat) (f fa fv fn fx : Nat → Int32) (B : Nat) (hI : Inv B f) (ns : Nat) (hn : ns ≤ 6) (th kp ln sp wr le wh te : Int32) (dg : Int64) (k : Nat) (hk : k < 3) (w : Nat) (hw : w < 3) (hD : va_D (fun _ => True) (wR o ps pa pv pn px cI (oM ps pa pv pn px th (nI ns) kp ln sp wr le wh te dg) (rr f) fa fv fn fx)) : q_I l yX3_ifPoured wsX3_ifPoured { frames := 6, cells := 0, slots := 0, locals := 132 } [.ref o, .int (nI k), .int (nI w)] (q_bp D (wR o ps pa pv pn px cI (oM ps pa pv pn px th (nI ns) kp ln sp wr le wh te dg) (rr f) fa fv fn fx) [(cI, .int)]) (fun v => v = g_br f k w) (fun H => va_P D vwCl (wR o ps pa pv pn px cI (oM ps pa pv pn px (nI 0) (nI ns) kp ln sp wr le wh te dg) (rr f) fa fv fn fx) H) (AM o ps pa pv pn px) 0 0 := by
  refine q_goI (cc := cX3_ifPoured) (maxL := 3) (ty := .int) (lv0 := [(0, .ref o), (1, .int (nI k)), (2, .int (nI w))]) (by decide) rfl (Nat.le_of_ble_eq_true rfl) rfl ?_
  intro p e s m args below meth c Q ls hx hb hml hts hown hP hK hl hret
  have hS : va_S (AM o ps pa pv pn px) s.heap s.heap [] := va_S.rf
  have hne : o ≠ ps := fun h => absurd (hD.1 0 1 _ _ rfl rfl h) (by decide)
  refine lv_aload_n hx hb dX3_ifPoured_0 rfl (lv_at hl 0 rfl) ?_
  refine lv_iload_n hx hb dX3_ifPoured_1 rfl (lv_at hl 1 rfl) ?_
  refine q_ciR (va_runS (rm := { frames := 1, cells := 0, slots := 0, locals := 22 }) (As := [.int (nI k)]) (rest := [.ref o]) ⟨hx, hb, hml, hown, hts⟩ (m3_isPot l D (nI k)) (va_cwS 1 hts gX3_ifPoured_X3_isPot rfl rfl rfl (by decide +kernel) ⟨Nat.le_of_ble_eq_true rfl, Nat.le_of_ble_eq_true rfl⟩) (q_pS (hP.sub [] rfl) (hK.sub [] rfl)) rfl rfl hl.1 rfl (lv_room (Nat.le_of_ble_eq_true rfl)) dX3_ifPoured_2 ⟨Nat.le_of_ble_eq_true rfl, Nat.le_of_ble_eq_true rfl⟩) hP hS (fun x1 H locs e1 hP hS => ?_)
  have e1 : x1 = nI 1 := by
    have h9 : x1 = p_b (q_in (nI 0) (nI 2) (nI k)) := e1
    rw [h9, ((q_inN (Nat.zero_le _) (by omega) (by decide)) : q_in (nI 0) (nI 2) (nI k) = true)]
    rfl
  subst e1
  refine lv_if_ne (tgt := 12) hx hb dX3_ifPoured_5 (by decide) (fun c2 => ?_) (fun c2 => absurd c2 (by decide))
  refine lv_iload_n hx hb dX3_ifPoured_12 rfl (lv_at hl 2 rfl) ?_
  refine lv_iconst (v := nI 0) hx hb dX3_ifPoured_13 (by decide) ?_
  refine lv_iconst (v := nI 2) hx hb dX3_ifPoured_14 (by decide) ?_
  refine q_ciR (va_runS (rm := { frames := 0, cells := 0, slots := 0, locals := 0 }) (As := [.int (nI w), .int (nI 0), .int (nI 2)]) (rest := [.ref o]) ⟨hx, hb, hml, hown, hts⟩ (m3_in l D (nI w) (nI 0) (nI 2)) (va_cwS 3 hts gX3_ifPoured_X3_in rfl rfl rfl (by decide +kernel) ⟨Nat.le_of_ble_eq_true rfl, Nat.le_of_ble_eq_true rfl⟩) (q_pS (hP.sub [] rfl) (hK.sub [] rfl)) rfl rfl hl.1 rfl (lv_room (Nat.le_of_ble_eq_true rfl)) dX3_ifPoured_15 ⟨Nat.le_of_ble_eq_true rfl, Nat.le_of_ble_eq_true rfl⟩) hP hS (fun x3 H locs e3 hP hS => ?_)
  have e3 : x3 = nI 1 := by
    have h9 : x3 = p_b (q_in (nI 0) (nI 2) (nI w)) := e3
    rw [h9, ((q_inN (Nat.zero_le _) (by omega) (by decide)) : q_in (nI 0) (nI 2) (nI w) = true)]
    rfl
  subst e3
  refine lv_if_eq (tgt := 25) hx hb dX3_ifPoured_18 (by decide) (fun c4 => absurd c4 (by decide)) (fun c4 => ?_)
  refine lv_iconst (v := nI 0) hx hb dX3_ifPoured_21 (by decide) ?_
  refine lv_goto (tgt := 26) hx hb dX3_ifPoured_22 (by decide) ?_
  refine q_ci1 (i := 0) (ws' := wR o ps pa pv pn px cI (oM ps pa pv pn px (nI 0) (nI ns) kp ln sp wr le wh te dg) (rr f) fa fv fn fx) (va_runV (rm := { frames := 0, cells := 0, slots := 0, locals := 0 }) (As := [.int (nI 0)]) (rest := []) ⟨hx, hb, hml, hown, hts⟩ (m3_holds0 l D cI o (oM ps pa pv pn px th (nI ns) kp ln sp wr le wh te dg) (Nat.le_of_ble_eq_true rfl)) (cwV 1 hts gX3_ifPoured_X3_holds rfl rfl rfl (by decide +kernel) ⟨Nat.le_of_ble_eq_true rfl, Nat.le_of_ble_eq_true rfl⟩) (q_pV (ci := 3) (q0 := 0) (hP.sub [0] rfl) (hK.sub [] rfl) rfl rfl) rfl rfl hl.1 rfl (lv_room (Nat.le_of_ble_eq_true rfl)) dX3_ifPoured_26 ⟨Nat.le_of_ble_eq_true rfl, Nat.le_of_ble_eq_true rfl⟩) hP hD hS rfl (Or.inl rfl) rfl (fun x5 H locs e5 hP hD hS => ?_)
  have e5 : x5 = nI 1 := e5
  subst e5
  refine lv_if_eq (tgt := 41) hx hb dX3_ifPoured_29 (by decide) (fun c6 => absurd c6 (by decide)) (fun c6 => ?_)
  refine lv_aload_n hx hb dX3_ifPoured_32 rfl (lv_at hl 0 rfl) ?_
  refine lv_iload_n hx hb dX3_ifPoured_33 rfl (lv_at hl 1 rfl) ?_
  refine lv_iload_n hx hb dX3_ifPoured_34 rfl (lv_at hl 2 rfl) ?_
  refine q_ciR (va_runV (rm := { frames := 5, cells := 0, slots := 0, locals := 110 }) (As := [.int (nI k), .int (nI w)]) (rest := []) ⟨hx, hb, hml, hown, hts⟩ (m3_wouldBring l D cI o ps k w (oM ps pa pv pn px (nI 0) (nI ns) kp ln sp wr le wh te dg) f rfl B hI (by omega) (by omega)) (cwV 2 hts gX3_ifPoured_X3_wouldBring rfl rfl rfl (by decide +kernel) ⟨Nat.le_of_ble_eq_true rfl, Nat.le_of_ble_eq_true rfl⟩) (q_pV (ci := 3) (q0 := 0) (hP.sub (ws' := wS o ps cI (oM ps pa pv pn px (nI 0) (nI ns) kp ln sp wr le wh te dg) f) [0, 1] rfl) hK rfl rfl) rfl rfl hl.1 rfl (lv_room (Nat.le_of_ble_eq_true rfl)) dX3_ifPoured_35 ⟨Nat.le_of_ble_eq_true rfl, Nat.le_of_ble_eq_true rfl⟩) hP hS (fun x7 H locs e7 hP hS => ?_)
  have e7 : x7 = g_br f k w := e7
  refine lv_goto (tgt := 42) hx hb dX3_ifPoured_38 (by decide) ?_
  refine hret _ _ _ _ _ rfl ?_ (hP) hS dX3_ifPoured_42
  subst e7
  rfl
set_option maxHeartbeats 4000000 in
set_option maxRecDepth 100000 in
theorem m3_ifPoured_2 (l : Launch) (D : va_G) (cI : ClassId) (o ps pa pv pn px : Nat) (f fa fv fn fx : Nat → Int32) (B : Nat) (hI : Inv B f) (ns : Nat) (hn : ns ≤ 6) (th kp ln sp wr le wh te : Int32) (dg : Int64) (k : Nat) (hk : k < 3) (xw : Int32) (h1q : q_in (nI 0) (nI 2) xw = false) (hD : va_D (fun _ => True) (wR o ps pa pv pn px cI (oM ps pa pv pn px th (nI ns) kp ln sp wr le wh te dg) (rr f) fa fv fn fx)) : q_I l yX3_ifPoured wsX3_ifPoured { frames := 2, cells := 0, slots := 0, locals := 42 } [.ref o, .int (nI k), .int xw] (q_bp D (wR o ps pa pv pn px cI (oM ps pa pv pn px th (nI ns) kp ln sp wr le wh te dg) (rr f) fa fv fn fx) [(cI, .int)]) (fun v => True) (fun H => va_P D vwCl (wR o ps pa pv pn px cI (oM ps pa pv pn px (nI 2) (nI ns) kp ln sp wr le wh te dg) (rr f) fa fv fn fx) H) (AM o ps pa pv pn px) 0 0 := by
  refine q_goI (cc := cX3_ifPoured) (maxL := 3) (ty := .int) (lv0 := [(0, .ref o), (1, .int (nI k)), (2, .int xw)]) (by decide) rfl (Nat.le_of_ble_eq_true rfl) rfl ?_
  intro p e s m args below meth c Q ls hx hb hml hts hown hP hK hl hret
  have hS : va_S (AM o ps pa pv pn px) s.heap s.heap [] := va_S.rf
  have hne : o ≠ ps := fun h => absurd (hD.1 0 1 _ _ rfl rfl h) (by decide)
  refine lv_aload_n hx hb dX3_ifPoured_0 rfl (lv_at hl 0 rfl) ?_
  refine lv_iload_n hx hb dX3_ifPoured_1 rfl (lv_at hl 1 rfl) ?_
  refine q_ciR (va_runS (rm := { frames := 1, cells := 0, slots := 0, locals := 22 }) (As := [.int (nI k)]) (rest := [.ref o]) ⟨hx, hb, hml, hown, hts⟩ (m3_isPot l D (nI k)) (va_cwS 1 hts gX3_ifPoured_X3_isPot rfl rfl rfl (by decide +kernel) ⟨Nat.le_of_ble_eq_true rfl, Nat.le_of_ble_eq_true rfl⟩) (q_pS (hP.sub [] rfl) (hK.sub [] rfl)) rfl rfl hl.1 rfl (lv_room (Nat.le_of_ble_eq_true rfl)) dX3_ifPoured_2 ⟨Nat.le_of_ble_eq_true rfl, Nat.le_of_ble_eq_true rfl⟩) hP hS (fun x1 H locs e1 hP hS => ?_)
  have e1 : x1 = nI 1 := by
    have h9 : x1 = p_b (q_in (nI 0) (nI 2) (nI k)) := e1
    rw [h9, ((q_inN (Nat.zero_le _) (by omega) (by decide)) : q_in (nI 0) (nI 2) (nI k) = true)]
    rfl
  subst e1
  refine lv_if_ne (tgt := 12) hx hb dX3_ifPoured_5 (by decide) (fun c2 => ?_) (fun c2 => absurd c2 (by decide))
  refine lv_iload_n hx hb dX3_ifPoured_12 rfl (lv_at hl 2 rfl) ?_
  refine lv_iconst (v := nI 0) hx hb dX3_ifPoured_13 (by decide) ?_
  refine lv_iconst (v := nI 2) hx hb dX3_ifPoured_14 (by decide) ?_
  refine q_ciR (va_runS (rm := { frames := 0, cells := 0, slots := 0, locals := 0 }) (As := [.int xw, .int (nI 0), .int (nI 2)]) (rest := [.ref o]) ⟨hx, hb, hml, hown, hts⟩ (m3_in l D xw (nI 0) (nI 2)) (va_cwS 3 hts gX3_ifPoured_X3_in rfl rfl rfl (by decide +kernel) ⟨Nat.le_of_ble_eq_true rfl, Nat.le_of_ble_eq_true rfl⟩) (q_pS (hP.sub [] rfl) (hK.sub [] rfl)) rfl rfl hl.1 rfl (lv_room (Nat.le_of_ble_eq_true rfl)) dX3_ifPoured_15 ⟨Nat.le_of_ble_eq_true rfl, Nat.le_of_ble_eq_true rfl⟩) hP hS (fun x3 H locs e3 hP hS => ?_)
  have e3 : x3 = nI 0 := by
    have h9 : x3 = p_b (q_in (nI 0) (nI 2) xw) := e3
    rw [h9, (h1q : q_in (nI 0) (nI 2) xw = false)]
    rfl
  subst e3
  refine lv_if_eq (tgt := 25) hx hb dX3_ifPoured_18 (by decide) (fun c4 => ?_) (fun c4 => absurd c4 (by decide))
  refine lv_iconst (v := nI 2) hx hb dX3_ifPoured_25 (by decide) ?_
  refine q_ci1 (i := 0) (ws' := wR o ps pa pv pn px cI (oM ps pa pv pn px (nI 2) (nI ns) kp ln sp wr le wh te dg) (rr f) fa fv fn fx) (va_runV (rm := { frames := 0, cells := 0, slots := 0, locals := 0 }) (As := [.int (nI 2)]) (rest := []) ⟨hx, hb, hml, hown, hts⟩ (m3_holds2 l D cI o (oM ps pa pv pn px th (nI ns) kp ln sp wr le wh te dg) (Nat.le_of_ble_eq_true rfl)) (cwV 1 hts gX3_ifPoured_X3_holds rfl rfl rfl (by decide +kernel) ⟨Nat.le_of_ble_eq_true rfl, Nat.le_of_ble_eq_true rfl⟩) (q_pV (ci := 3) (q0 := 0) (hP.sub [0] rfl) (hK.sub [] rfl) rfl rfl) rfl rfl hl.1 rfl (lv_room (Nat.le_of_ble_eq_true rfl)) dX3_ifPoured_26 ⟨Nat.le_of_ble_eq_true rfl, Nat.le_of_ble_eq_true rfl⟩) hP hD hS rfl (Or.inl rfl) rfl (fun x5 H locs e5 hP hD hS => ?_)
  have e5 : x5 = nI 0 := e5
  subst e5
  refine lv_if_eq (tgt := 41) hx hb dX3_ifPoured_29 (by decide) (fun c6 => ?_) (fun c6 => absurd c6 (by decide))
  refine lv_iconst (v := nI 0) hx hb dX3_ifPoured_41 (by decide) ?_
  refine hret _ _ _ _ _ rfl ?_ (hP) hS dX3_ifPoured_42
  trivial
set_option maxHeartbeats 4000000 in
set_option maxRecDepth 100000 in
theorem m3_ifPoured_1 (l : Launch) (D : va_G) (cI : ClassId) (o ps pa pv pn px : Nat) (f fa fv fn fx : Nat → Int32) (B : Nat) (hI : Inv B f) (ns : Nat) (hn : ns ≤ 6) (th kp ln sp wr le wh te : Int32) (dg : Int64) (x0 xw : Int32) (h0q : q_in (nI 0) (nI 2) x0 = false) (hD : va_D (fun _ => True) (wR o ps pa pv pn px cI (oM ps pa pv pn px th (nI ns) kp ln sp wr le wh te dg) (rr f) fa fv fn fx)) : q_I l yX3_ifPoured wsX3_ifPoured { frames := 2, cells := 0, slots := 0, locals := 42 } [.ref o, .int x0, .int xw] (q_bp D (wR o ps pa pv pn px cI (oM ps pa pv pn px th (nI ns) kp ln sp wr le wh te dg) (rr f) fa fv fn fx) [(cI, .int)]) (fun v => True) (fun H => va_P D vwCl (wR o ps pa pv pn px cI (oM ps pa pv pn px (nI 1) (nI ns) kp ln sp wr le wh te dg) (rr f) fa fv fn fx) H) (AM o ps pa pv pn px) 0 0 := by
  refine q_goI (cc := cX3_ifPoured) (maxL := 3) (ty := .int) (lv0 := [(0, .ref o), (1, .int x0), (2, .int xw)]) (by decide) rfl (Nat.le_of_ble_eq_true rfl) rfl ?_
  intro p e s m args below meth c Q ls hx hb hml hts hown hP hK hl hret
  have hS : va_S (AM o ps pa pv pn px) s.heap s.heap [] := va_S.rf
  have hne : o ≠ ps := fun h => absurd (hD.1 0 1 _ _ rfl rfl h) (by decide)
  refine lv_aload_n hx hb dX3_ifPoured_0 rfl (lv_at hl 0 rfl) ?_
  refine lv_iload_n hx hb dX3_ifPoured_1 rfl (lv_at hl 1 rfl) ?_
  refine q_ciR (va_runS (rm := { frames := 1, cells := 0, slots := 0, locals := 22 }) (As := [.int x0]) (rest := [.ref o]) ⟨hx, hb, hml, hown, hts⟩ (m3_isPot l D x0) (va_cwS 1 hts gX3_ifPoured_X3_isPot rfl rfl rfl (by decide +kernel) ⟨Nat.le_of_ble_eq_true rfl, Nat.le_of_ble_eq_true rfl⟩) (q_pS (hP.sub [] rfl) (hK.sub [] rfl)) rfl rfl hl.1 rfl (lv_room (Nat.le_of_ble_eq_true rfl)) dX3_ifPoured_2 ⟨Nat.le_of_ble_eq_true rfl, Nat.le_of_ble_eq_true rfl⟩) hP hS (fun x1 H locs e1 hP hS => ?_)
  have e1 : x1 = nI 0 := by
    have h9 : x1 = p_b (q_in (nI 0) (nI 2) x0) := e1
    rw [h9, (h0q : q_in (nI 0) (nI 2) x0 = false)]
    rfl
  subst e1
  refine lv_if_ne (tgt := 12) hx hb dX3_ifPoured_5 (by decide) (fun c2 => absurd c2 (by decide)) (fun c2 => ?_)
  refine lv_iconst (v := nI 1) hx hb dX3_ifPoured_8 (by decide) ?_
  refine lv_goto (tgt := 26) hx hb dX3_ifPoured_9 (by decide) ?_
  refine q_ci1 (i := 0) (ws' := wR o ps pa pv pn px cI (oM ps pa pv pn px (nI 1) (nI ns) kp ln sp wr le wh te dg) (rr f) fa fv fn fx) (va_runV (rm := { frames := 0, cells := 0, slots := 0, locals := 0 }) (As := [.int (nI 1)]) (rest := []) ⟨hx, hb, hml, hown, hts⟩ (m3_holds1 l D cI o (oM ps pa pv pn px th (nI ns) kp ln sp wr le wh te dg) (Nat.le_of_ble_eq_true rfl)) (cwV 1 hts gX3_ifPoured_X3_holds rfl rfl rfl (by decide +kernel) ⟨Nat.le_of_ble_eq_true rfl, Nat.le_of_ble_eq_true rfl⟩) (q_pV (ci := 3) (q0 := 0) (hP.sub [0] rfl) (hK.sub [] rfl) rfl rfl) rfl rfl hl.1 rfl (lv_room (Nat.le_of_ble_eq_true rfl)) dX3_ifPoured_26 ⟨Nat.le_of_ble_eq_true rfl, Nat.le_of_ble_eq_true rfl⟩) hP hD hS rfl (Or.inl rfl) rfl (fun x3 H locs e3 hP hD hS => ?_)
  have e3 : x3 = nI 0 := e3
  subst e3
  refine lv_if_eq (tgt := 41) hx hb dX3_ifPoured_29 (by decide) (fun c4 => ?_) (fun c4 => absurd c4 (by decide))
  refine lv_iconst (v := nI 0) hx hb dX3_ifPoured_41 (by decide) ?_
  refine hret _ _ _ _ _ rfl ?_ (hP) hS dX3_ifPoured_42
  trivial
set_option maxHeartbeats 4000000 in
set_option maxRecDepth 100000 in
theorem m3_counted (l : Launch) (D : va_G) (cI : ClassId) (o ps pa pv pn px : Nat) (f fa fv fn fx : Nat → Int32) (ns : Nat) (hn : ns ≤ 6) (th kp ln sp wr le wh te : Int32) (dg : Int64) (w : Nat) (hw : w < 10) (hD : va_D (fun _ => True) (wR o ps pa pv pn px cI (oM ps pa pv pn px th (nI ns) kp ln sp wr le wh te dg) (rr f) fa fv fn fx)) : q_I l yX3_counted wsX3_counted { frames := 2, cells := 0, slots := 0, locals := 44 } [.ref o, .int (nI w)] (q_bp D (wR o ps pa pv pn px cI (oM ps pa pv pn px th (nI ns) kp ln sp wr le wh te dg) (rr f) fa fv fn fx) [(cI, .int)]) (fun v => v = g_ct f ns w) (fun H => va_P D vwCl (wR o ps pa pv pn px cI (oM ps pa pv pn px th (nI ns) kp ln sp wr le wh te dg) (rr f) fa fv fn fx) H) (AM o ps pa pv pn px) 0 0 := by
  refine q_goI (cc := cX3_counted) (maxL := 2) (ty := .int) (lv0 := [(0, .ref o), (1, .int (nI w))]) (by decide) rfl (Nat.le_of_ble_eq_true rfl) rfl ?_
  intro p e s m args below meth c Q ls hx hb hml hts hown hP hK hl hret
  have hi3 : ∀ w ∈ wsX30, w ∈ wsX3_counted := by decide +kernel
  have hfl7 := hts (.fieldLink RX3 7 "WhisperedPotsModel" "s" "[I") (by decide +kernel)
  have hfl40 := hts (.fieldLink RX3 40 "WhisperedPotsModel" "savedMany" "I") (by decide +kernel)
  have hS : va_S (AM o ps pa pv pn px) s.heap s.heap [] := va_S.rf
  have hne : o ≠ ps := fun h => absurd (hD.1 0 1 _ _ rfl rfl h) (by decide)
  refine lv_iload_n hx hb dX3_counted_0 rfl (lv_at hl 1 rfl) ?_
  have hw9 : w = 0 ∨ w = 1 ∨ w = 2 ∨ w = 3 ∨ w = 4 ∨ w = 5 ∨ w = 6 ∨ w = 7 ∨ w = 8 ∨ w = 9 := by omega
  rcases hw9 with rfl | rfl | rfl | rfl | rfl | rfl | rfl | rfl | rfl | rfl
  ·
    refine q_ts (tgt := 52) (off := 51) hx hb (by omega) dX3_counted_1 rfl rfl (by decide) ?_
    refine lv_aload_n hx hb dX3_counted_52 rfl (lv_at hl 0 rfl) ?_
    refine lv_iconst (v := nI 3) hx hb dX3_counted_53 (by decide) ?_
    refine q_ciR (va_runV (rm := { frames := 1, cells := 0, slots := 0, locals := 21 }) (As := [.int (nI 3)]) (rest := []) ⟨hx, hb, hml, hown, hts⟩ (m3_sumOfPots l D cI o ps 3 (oM ps pa pv pn px th (nI ns) kp ln sp wr le wh te dg) f rfl (by omega)) (cwV 1 hts gX3_counted_X3_sumOfPots rfl rfl rfl (by decide +kernel) ⟨Nat.le_of_ble_eq_true rfl, Nat.le_of_ble_eq_true rfl⟩) (q_pV (ci := 3) (q0 := 0) (hP.sub (ws' := wS o ps cI (oM ps pa pv pn px th (nI ns) kp ln sp wr le wh te dg) f) [0, 1] rfl) hK rfl rfl) rfl rfl hl.1 rfl (lv_room (Nat.le_of_ble_eq_true rfl)) dX3_counted_54 ⟨Nat.le_of_ble_eq_true rfl, Nat.le_of_ble_eq_true rfl⟩) hP hS (fun x1 H locs e1 hP hS => ?_)
    have e1 : x1 = f 81 + f 82 + f 83 := e1
    rw [← g_sm3 f 81] at e1
    refine hret _ _ _ _ _ rfl ?_ (hP) hS dX3_counted_57
    subst e1
    rfl
  ·
    refine q_ts (tgt := 58) (off := 57) hx hb (by omega) dX3_counted_1 rfl rfl (by decide) ?_
    refine lv_aload_n hx hb dX3_counted_58 rfl (lv_at hl 0 rfl) ?_
    refine lv_bipush (v := nI 6) hx hb dX3_counted_59 (by decide) ?_
    refine q_ciR (va_runV (rm := { frames := 1, cells := 0, slots := 0, locals := 21 }) (As := [.int (nI 6)]) (rest := []) ⟨hx, hb, hml, hown, hts⟩ (m3_sumOf l D cI o ps 6 (oM ps pa pv pn px th (nI ns) kp ln sp wr le wh te dg) f rfl (by omega)) (cwV 1 hts gX3_counted_X3_sumOf rfl rfl rfl (by decide +kernel) ⟨Nat.le_of_ble_eq_true rfl, Nat.le_of_ble_eq_true rfl⟩) (q_pV (ci := 3) (q0 := 0) (hP.sub (ws' := wS o ps cI (oM ps pa pv pn px th (nI ns) kp ln sp wr le wh te dg) f) [0, 1] rfl) hK rfl rfl) rfl rfl hl.1 rfl (lv_room (Nat.le_of_ble_eq_true rfl)) dX3_counted_61 ⟨Nat.le_of_ble_eq_true rfl, Nat.le_of_ble_eq_true rfl⟩) hP hS (fun x2 H locs e2 hP hS => ?_)
    have e2 : x2 = g_sm f 48 8 := e2
    refine hret _ _ _ _ _ rfl ?_ (hP) hS dX3_counted_64
    subst e2
    rfl
  ·
    refine q_ts (tgt := 65) (off := 64) hx hb (by omega) dX3_counted_1 rfl rfl (by decide) ?_
    refine lv_aload_n hx hb dX3_counted_65 rfl (lv_at hl 0 rfl) ?_
    refine lv_bipush (v := nI 7) hx hb dX3_counted_66 (by decide) ?_
    refine q_ciR (va_runV (rm := { frames := 1, cells := 0, slots := 0, locals := 21 }) (As := [.int (nI 7)]) (rest := []) ⟨hx, hb, hml, hown, hts⟩ (m3_sumOf l D cI o ps 7 (oM ps pa pv pn px th (nI ns) kp ln sp wr le wh te dg) f rfl (by omega)) (cwV 1 hts gX3_counted_X3_sumOf rfl rfl rfl (by decide +kernel) ⟨Nat.le_of_ble_eq_true rfl, Nat.le_of_ble_eq_true rfl⟩) (q_pV (ci := 3) (q0 := 0) (hP.sub (ws' := wS o ps cI (oM ps pa pv pn px th (nI ns) kp ln sp wr le wh te dg) f) [0, 1] rfl) hK rfl rfl) rfl rfl hl.1 rfl (lv_room (Nat.le_of_ble_eq_true rfl)) dX3_counted_68 ⟨Nat.le_of_ble_eq_true rfl, Nat.le_of_ble_eq_true rfl⟩) hP hS (fun x3 H locs e3 hP hS => ?_)
    have e3 : x3 = g_sm f 56 8 := e3
    refine hret _ _ _ _ _ rfl ?_ (hP) hS dX3_counted_71
    subst e3
    rfl
  ·
    refine q_ts (tgt := 72) (off := 71) hx hb (by omega) dX3_counted_1 rfl rfl (by decide) ?_
    refine lv_aload_n hx hb dX3_counted_72 rfl (lv_at hl 0 rfl) ?_
    refine q_ciR (va_runV (rm := { frames := 1, cells := 0, slots := 0, locals := 21 }) (As := []) (rest := []) ⟨hx, hb, hml, hown, hts⟩ (m3_teaInPots l D cI o ps (oM ps pa pv pn px th (nI ns) kp ln sp wr le wh te dg) f rfl) (cwV 0 hts gX3_counted_X3_teaInPots rfl rfl rfl (by decide +kernel) ⟨Nat.le_of_ble_eq_true rfl, Nat.le_of_ble_eq_true rfl⟩) (q_pV (ci := 3) (q0 := 0) (hP.sub (ws' := wS o ps cI (oM ps pa pv pn px th (nI ns) kp ln sp wr le wh te dg) f) [0, 1] rfl) hK rfl rfl) rfl rfl hl.1 rfl (lv_room (Nat.le_of_ble_eq_true rfl)) dX3_counted_73 ⟨Nat.le_of_ble_eq_true rfl, Nat.le_of_ble_eq_true rfl⟩) hP hS (fun x4 H locs e4 hP hS => ?_)
    have e4 : x4 = g_sm f 75 3 := e4
    refine lv_aload_n hx hb dX3_counted_76 rfl (lv_at hl 0 rfl) ?_
    refine lv_iconst (v := nI 1) hx hb dX3_counted_77 (by decide) ?_
    refine q_ciR (va_runV (rm := { frames := 1, cells := 0, slots := 0, locals := 21 }) (As := [.int (nI 1)]) (rest := [.int x4]) ⟨hx, hb, hml, hown, hts⟩ (m3_sumOf l D cI o ps 1 (oM ps pa pv pn px th (nI ns) kp ln sp wr le wh te dg) f rfl (by omega)) (cwV 1 hts gX3_counted_X3_sumOf rfl rfl rfl (by decide +kernel) ⟨Nat.le_of_ble_eq_true rfl, Nat.le_of_ble_eq_true rfl⟩) (q_pV (ci := 3) (q0 := 0) (hP.sub (ws' := wS o ps cI (oM ps pa pv pn px th (nI ns) kp ln sp wr le wh te dg) f) [0, 1] rfl) hK rfl rfl) rfl rfl hl.1 rfl (lv_room (Nat.le_of_ble_eq_true rfl)) dX3_counted_78 ⟨Nat.le_of_ble_eq_true rfl, Nat.le_of_ble_eq_true rfl⟩) hP hS (fun x5 H locs e5 hP hS => ?_)
    have e5 : x5 = g_sm f 8 8 := e5
    refine lv_iadd hx hb dX3_counted_81 ?_
    refine hret _ _ _ _ _ rfl ?_ (hP) hS dX3_counted_82
    subst e5 e4
    rfl
  ·
    refine q_ts (tgt := 83) (off := 82) hx hb (by omega) dX3_counted_1 rfl rfl (by decide) ?_
    refine lv_aload_n hx hb dX3_counted_83 rfl (lv_at hl 0 rfl) ?_
    refine lv_iconst (v := nI 3) hx hb dX3_counted_84 (by decide) ?_
    refine q_ciR (va_runV (rm := { frames := 1, cells := 0, slots := 0, locals := 21 }) (As := [.int (nI 3)]) (rest := []) ⟨hx, hb, hml, hown, hts⟩ (m3_sumOfPots l D cI o ps 3 (oM ps pa pv pn px th (nI ns) kp ln sp wr le wh te dg) f rfl (by omega)) (cwV 1 hts gX3_counted_X3_sumOfPots rfl rfl rfl (by decide +kernel) ⟨Nat.le_of_ble_eq_true rfl, Nat.le_of_ble_eq_true rfl⟩) (q_pV (ci := 3) (q0 := 0) (hP.sub (ws' := wS o ps cI (oM ps pa pv pn px th (nI ns) kp ln sp wr le wh te dg) f) [0, 1] rfl) hK rfl rfl) rfl rfl hl.1 rfl (lv_room (Nat.le_of_ble_eq_true rfl)) dX3_counted_85 ⟨Nat.le_of_ble_eq_true rfl, Nat.le_of_ble_eq_true rfl⟩) hP hS (fun x6 H locs e6 hP hS => ?_)
    have e6 : x6 = f 81 + f 82 + f 83 := e6
    rw [← g_sm3 f 81] at e6
    refine lv_aload_n hx hb dX3_counted_88 rfl (lv_at hl 0 rfl) ?_
    refine lv_bipush (v := nI 6) hx hb dX3_counted_89 (by decide) ?_
    refine q_ciR (va_runV (rm := { frames := 1, cells := 0, slots := 0, locals := 21 }) (As := [.int (nI 6)]) (rest := [.int x6]) ⟨hx, hb, hml, hown, hts⟩ (m3_sumOf l D cI o ps 6 (oM ps pa pv pn px th (nI ns) kp ln sp wr le wh te dg) f rfl (by omega)) (cwV 1 hts gX3_counted_X3_sumOf rfl rfl rfl (by decide +kernel) ⟨Nat.le_of_ble_eq_true rfl, Nat.le_of_ble_eq_true rfl⟩) (q_pV (ci := 3) (q0 := 0) (hP.sub (ws' := wS o ps cI (oM ps pa pv pn px th (nI ns) kp ln sp wr le wh te dg) f) [0, 1] rfl) hK rfl rfl) rfl rfl hl.1 rfl (lv_room (Nat.le_of_ble_eq_true rfl)) dX3_counted_91 ⟨Nat.le_of_ble_eq_true rfl, Nat.le_of_ble_eq_true rfl⟩) hP hS (fun x7 H locs e7 hP hS => ?_)
    have e7 : x7 = g_sm f 48 8 := e7
    refine lv_isub hx hb dX3_counted_94 ?_
    refine lv_aload_n hx hb dX3_counted_95 rfl (lv_at hl 0 rfl) ?_
    refine lv_bipush (v := nI 7) hx hb dX3_counted_96 (by decide) ?_
    refine q_ciR (va_runV (rm := { frames := 1, cells := 0, slots := 0, locals := 21 }) (As := [.int (nI 7)]) (rest := [.int (x6 - x7)]) ⟨hx, hb, hml, hown, hts⟩ (m3_sumOf l D cI o ps 7 (oM ps pa pv pn px th (nI ns) kp ln sp wr le wh te dg) f rfl (by omega)) (cwV 1 hts gX3_counted_X3_sumOf rfl rfl rfl (by decide +kernel) ⟨Nat.le_of_ble_eq_true rfl, Nat.le_of_ble_eq_true rfl⟩) (q_pV (ci := 3) (q0 := 0) (hP.sub (ws' := wS o ps cI (oM ps pa pv pn px th (nI ns) kp ln sp wr le wh te dg) f) [0, 1] rfl) hK rfl rfl) rfl rfl hl.1 rfl (lv_room (Nat.le_of_ble_eq_true rfl)) dX3_counted_98 ⟨Nat.le_of_ble_eq_true rfl, Nat.le_of_ble_eq_true rfl⟩) hP hS (fun x8 H locs e8 hP hS => ?_)
    have e8 : x8 = g_sm f 56 8 := e8
    refine lv_isub hx hb dX3_counted_101 ?_
    refine hret _ _ _ _ _ rfl ?_ (hP) hS dX3_counted_102
    subst e8 e7 e6
    rfl
  ·
    refine q_ts (tgt := 103) (off := 102) hx hb (by omega) dX3_counted_1 rfl rfl (by decide) ?_
    refine lv_aload_n hx hb dX3_counted_103 rfl (lv_at hl 0 rfl) ?_
    refine va_get (D := D) (ci := 3) (v := .ref ps) (C := RX3) (T := TX3) (N := 15) hx hb hts hi3 hown hK hP 0 rfl rfl 1 (by decide) hfl7 (fun _ h9 => h9) rfl dX3_counted_104 ?_
    refine lv_sipush (v := nI 136) hx hb dX3_counted_107 (by decide) ?_
    refine q_ld hx hb hK hP 1 0 rfl rfl (j := 136) (v := f 136) (by omega) (by omega) (rr_at (pm_id (by omega))) dX3_counted_110 ?_
    refine hret _ _ _ _ _ rfl ?_ (hP) hS dX3_counted_111
    rfl
  ·
    refine q_ts (tgt := 112) (off := 111) hx hb (by omega) dX3_counted_1 rfl rfl (by decide) ?_
    refine lv_aload_n hx hb dX3_counted_112 rfl (lv_at hl 0 rfl) ?_
    refine va_get (D := D) (ci := 3) (v := .ref ps) (C := RX3) (T := TX3) (N := 15) hx hb hts hi3 hown hK hP 0 rfl rfl 1 (by decide) hfl7 (fun _ h9 => h9) rfl dX3_counted_113 ?_
    refine lv_sipush (v := nI 137) hx hb dX3_counted_116 (by decide) ?_
    refine q_ld hx hb hK hP 1 0 rfl rfl (j := 137) (v := f 137) (by omega) (by omega) (rr_at (pm_id (by omega))) dX3_counted_119 ?_
    refine hret _ _ _ _ _ rfl ?_ (hP) hS dX3_counted_120
    rfl
  ·
    refine q_ts (tgt := 121) (off := 120) hx hb (by omega) dX3_counted_1 rfl rfl (by decide) ?_
    refine lv_aload_n hx hb dX3_counted_121 rfl (lv_at hl 0 rfl) ?_
    refine lv_iconst (v := nI 4) hx hb dX3_counted_122 (by decide) ?_
    refine q_ciR (va_runV (rm := { frames := 1, cells := 0, slots := 0, locals := 21 }) (As := [.int (nI 4)]) (rest := []) ⟨hx, hb, hml, hown, hts⟩ (m3_sumOfPots l D cI o ps 4 (oM ps pa pv pn px th (nI ns) kp ln sp wr le wh te dg) f rfl (by omega)) (cwV 1 hts gX3_counted_X3_sumOfPots rfl rfl rfl (by decide +kernel) ⟨Nat.le_of_ble_eq_true rfl, Nat.le_of_ble_eq_true rfl⟩) (q_pV (ci := 3) (q0 := 0) (hP.sub (ws' := wS o ps cI (oM ps pa pv pn px th (nI ns) kp ln sp wr le wh te dg) f) [0, 1] rfl) hK rfl rfl) rfl rfl hl.1 rfl (lv_room (Nat.le_of_ble_eq_true rfl)) dX3_counted_123 ⟨Nat.le_of_ble_eq_true rfl, Nat.le_of_ble_eq_true rfl⟩) hP hS (fun x9 H locs e9 hP hS => ?_)
    have e9 : x9 = f 84 + f 85 + f 86 := e9
    rw [← g_sm3 f 84] at e9
    refine hret _ _ _ _ _ rfl ?_ (hP) hS dX3_counted_126
    subst e9
    rfl
  ·
    refine q_ts (tgt := 127) (off := 126) hx hb (by omega) dX3_counted_1 rfl rfl (by decide) ?_
    refine lv_aload_n hx hb dX3_counted_127 rfl (lv_at hl 0 rfl) ?_
    refine va_get (D := D) (ci := 3) (v := .ref ps) (C := RX3) (T := TX3) (N := 15) hx hb hts hi3 hown hK hP 0 rfl rfl 1 (by decide) hfl7 (fun _ h9 => h9) rfl dX3_counted_128 ?_
    refine lv_sipush (v := nI 135) hx hb dX3_counted_131 (by decide) ?_
    refine q_ld hx hb hK hP 1 0 rfl rfl (j := 135) (v := f 135) (by omega) (by omega) (rr_at (pm_id (by omega))) dX3_counted_134 ?_
    refine hret _ _ _ _ _ rfl ?_ (hP) hS dX3_counted_135
    rfl
  ·
    refine q_ts (tgt := 136) (off := 135) hx hb (by omega) dX3_counted_1 rfl rfl (by decide) ?_
    refine lv_aload_n hx hb dX3_counted_136 rfl (lv_at hl 0 rfl) ?_
    refine va_get (D := D) (ci := 3) (v := .int (nI ns)) (C := RX3) (T := TX3) (N := 15) hx hb hts hi3 hown hK hP 0 rfl rfl 4 (by decide) hfl40 (fun _ h9 => h9) rfl dX3_counted_137 ?_
    refine hret _ _ _ _ _ rfl ?_ (hP) hS dX3_counted_140
    rfl
set_option maxHeartbeats 4000000 in
set_option maxRecDepth 100000 in
theorem m3_count_ok (l : Launch) (D : va_G) (cI : ClassId) (o ps pa pv pn px : Nat) (f fa fv fn fx : Nat → Int32) (B : Nat) (hI : Inv B f) (ns : Nat) (hn : ns ≤ 6) (th kp ln sp wr le wh te : Int32) (dg : Int64) (w : Nat) (hw : w < 10) (hD : va_D (fun _ => True) (wR o ps pa pv pn px cI (oM ps pa pv pn px th (nI ns) kp ln sp wr le wh te dg) (rr f) fa fv fn fx)) : q_I l yX3_count wsX3_count { frames := 3, cells := 0, slots := 0, locals := 65 } [.ref o, .int (nI w)] (q_bp D (wR o ps pa pv pn px cI (oM ps pa pv pn px th (nI ns) kp ln sp wr le wh te dg) (rr f) fa fv fn fx) [(cI, .int)]) (fun v => v = g_ct f ns w) (fun H => va_P D vwCl (wR o ps pa pv pn px cI (oM ps pa pv pn px (nI 0) (nI ns) kp ln sp wr le wh te dg) (rr f) fa fv fn fx) H) (AM o ps pa pv pn px) 0 0 := by
  refine q_goI (cc := cX3_count) (maxL := 2) (ty := .int) (lv0 := [(0, .ref o), (1, .int (nI w))]) (by decide) rfl (Nat.le_of_ble_eq_true rfl) rfl ?_
  intro p e s m args below meth c Q ls hx hb hml hts hown hP hK hl hret
  have hS : va_S (AM o ps pa pv pn px) s.heap s.heap [] := va_S.rf
  have hne : o ≠ ps := fun h => absurd (hD.1 0 1 _ _ rfl rfl h) (by decide)
  refine lv_aload_n hx hb dX3_count_0 rfl (lv_at hl 0 rfl) ?_
  refine lv_iload_n hx hb dX3_count_1 rfl (lv_at hl 1 rfl) ?_
  refine lv_iconst (v := nI 0) hx hb dX3_count_2 (by decide) ?_
  refine lv_bipush (v := nI 9) hx hb dX3_count_3 (by decide) ?_
  refine q_ciR (va_runS (rm := { frames := 0, cells := 0, slots := 0, locals := 0 }) (As := [.int (nI w), .int (nI 0), .int (nI 9)]) (rest := [.ref o]) ⟨hx, hb, hml, hown, hts⟩ (m3_in l D (nI w) (nI 0) (nI 9)) (va_cwS 3 hts gX3_count_X3_in rfl rfl rfl (by decide +kernel) ⟨Nat.le_of_ble_eq_true rfl, Nat.le_of_ble_eq_true rfl⟩) (q_pS (hP.sub [] rfl) (hK.sub [] rfl)) rfl rfl hl.1 rfl (lv_room (Nat.le_of_ble_eq_true rfl)) dX3_count_5 ⟨Nat.le_of_ble_eq_true rfl, Nat.le_of_ble_eq_true rfl⟩) hP hS (fun x1 H locs e1 hP hS => ?_)
  have e1 : x1 = nI 1 := by
    have h9 : x1 = p_b (q_in (nI 0) (nI 9) (nI w)) := e1
    rw [h9, ((q_inN (Nat.zero_le _) (by omega) (by decide)) : q_in (nI 0) (nI 9) (nI w) = true)]
    rfl
  subst e1
  refine lv_if_eq (tgt := 15) hx hb dX3_count_8 (by decide) (fun c2 => absurd c2 (by decide)) (fun c2 => ?_)
  refine lv_iconst (v := nI 0) hx hb dX3_count_11 (by decide) ?_
  refine lv_goto (tgt := 16) hx hb dX3_count_12 (by decide) ?_
  refine q_ci1 (i := 0) (ws' := wR o ps pa pv pn px cI (oM ps pa pv pn px (nI 0) (nI ns) kp ln sp wr le wh te dg) (rr f) fa fv fn fx) (va_runV (rm := { frames := 0, cells := 0, slots := 0, locals := 0 }) (As := [.int (nI 0)]) (rest := []) ⟨hx, hb, hml, hown, hts⟩ (m3_holds0 l D cI o (oM ps pa pv pn px th (nI ns) kp ln sp wr le wh te dg) (Nat.le_of_ble_eq_true rfl)) (cwV 1 hts gX3_count_X3_holds rfl rfl rfl (by decide +kernel) ⟨Nat.le_of_ble_eq_true rfl, Nat.le_of_ble_eq_true rfl⟩) (q_pV (ci := 3) (q0 := 0) (hP.sub [0] rfl) (hK.sub [] rfl) rfl rfl) rfl rfl hl.1 rfl (lv_room (Nat.le_of_ble_eq_true rfl)) dX3_count_16 ⟨Nat.le_of_ble_eq_true rfl, Nat.le_of_ble_eq_true rfl⟩) hP hD hS rfl (Or.inl rfl) rfl (fun x3 H locs e3 hP hD hS => ?_)
  have e3 : x3 = nI 1 := e3
  subst e3
  refine lv_if_eq (tgt := 30) hx hb dX3_count_19 (by decide) (fun c4 => absurd c4 (by decide)) (fun c4 => ?_)
  refine lv_aload_n hx hb dX3_count_22 rfl (lv_at hl 0 rfl) ?_
  refine lv_iload_n hx hb dX3_count_23 rfl (lv_at hl 1 rfl) ?_
  refine q_ciF (BH := fun H => va_P D vwCl (wR o ps pa pv pn px cI (oM ps pa pv pn px (nI 0) (nI ns) kp ln sp wr le wh te dg) (rr f) fa fv fn fx) H) (va_runV (rm := { frames := 2, cells := 0, slots := 0, locals := 44 }) (As := [.int (nI w)]) (rest := []) ⟨hx, hb, hml, hown, hts⟩ (m3_counted l D cI o ps pa pv pn px f fa fv fn fx ns hn (nI 0) kp ln sp wr le wh te dg w (by omega) hD) (cwV 1 hts gX3_count_X3_counted rfl rfl rfl (by decide +kernel) ⟨Nat.le_of_ble_eq_true rfl, Nat.le_of_ble_eq_true rfl⟩) (q_pV (ci := 3) (q0 := 0) hP hK rfl rfl) rfl rfl hl.1 rfl (lv_room (Nat.le_of_ble_eq_true rfl)) dX3_count_24 ⟨Nat.le_of_ble_eq_true rfl, Nat.le_of_ble_eq_true rfl⟩) (fun _ h => h) hS (fun _ h => h) (fun x5 H locs e5 hP hS => ?_)
  have e5 : x5 = g_ct f ns w := e5
  refine lv_goto (tgt := 31) hx hb dX3_count_27 (by decide) ?_
  refine hret _ _ _ _ _ rfl ?_ (hP) hS dX3_count_31
  subst e5
  rfl
set_option maxHeartbeats 4000000 in
set_option maxRecDepth 100000 in
theorem m3_count_1 (l : Launch) (D : va_G) (cI : ClassId) (o ps pa pv pn px : Nat) (f fa fv fn fx : Nat → Int32) (B : Nat) (hI : Inv B f) (ns : Nat) (hn : ns ≤ 6) (th kp ln sp wr le wh te : Int32) (dg : Int64) (xw : Int32) (h1q : q_in (nI 0) (nI 9) xw = false) (hD : va_D (fun _ => True) (wR o ps pa pv pn px cI (oM ps pa pv pn px th (nI ns) kp ln sp wr le wh te dg) (rr f) fa fv fn fx)) : q_I l yX3_count wsX3_count { frames := 1, cells := 0, slots := 0, locals := 22 } [.ref o, .int xw] (q_bp D (wR o ps pa pv pn px cI (oM ps pa pv pn px th (nI ns) kp ln sp wr le wh te dg) (rr f) fa fv fn fx) [(cI, .int)]) (fun v => True) (fun H => va_P D vwCl (wR o ps pa pv pn px cI (oM ps pa pv pn px (nI 1) (nI ns) kp ln sp wr le wh te dg) (rr f) fa fv fn fx) H) (AM o ps pa pv pn px) 0 0 := by
  refine q_goI (cc := cX3_count) (maxL := 2) (ty := .int) (lv0 := [(0, .ref o), (1, .int xw)]) (by decide) rfl (Nat.le_of_ble_eq_true rfl) rfl ?_
  intro p e s m args below meth c Q ls hx hb hml hts hown hP hK hl hret
  have hS : va_S (AM o ps pa pv pn px) s.heap s.heap [] := va_S.rf
  have hne : o ≠ ps := fun h => absurd (hD.1 0 1 _ _ rfl rfl h) (by decide)
  refine lv_aload_n hx hb dX3_count_0 rfl (lv_at hl 0 rfl) ?_
  refine lv_iload_n hx hb dX3_count_1 rfl (lv_at hl 1 rfl) ?_
  refine lv_iconst (v := nI 0) hx hb dX3_count_2 (by decide) ?_
  refine lv_bipush (v := nI 9) hx hb dX3_count_3 (by decide) ?_
  refine q_ciR (va_runS (rm := { frames := 0, cells := 0, slots := 0, locals := 0 }) (As := [.int xw, .int (nI 0), .int (nI 9)]) (rest := [.ref o]) ⟨hx, hb, hml, hown, hts⟩ (m3_in l D xw (nI 0) (nI 9)) (va_cwS 3 hts gX3_count_X3_in rfl rfl rfl (by decide +kernel) ⟨Nat.le_of_ble_eq_true rfl, Nat.le_of_ble_eq_true rfl⟩) (q_pS (hP.sub [] rfl) (hK.sub [] rfl)) rfl rfl hl.1 rfl (lv_room (Nat.le_of_ble_eq_true rfl)) dX3_count_5 ⟨Nat.le_of_ble_eq_true rfl, Nat.le_of_ble_eq_true rfl⟩) hP hS (fun x1 H locs e1 hP hS => ?_)
  have e1 : x1 = nI 0 := by
    have h9 : x1 = p_b (q_in (nI 0) (nI 9) xw) := e1
    rw [h9, (h1q : q_in (nI 0) (nI 9) xw = false)]
    rfl
  subst e1
  refine lv_if_eq (tgt := 15) hx hb dX3_count_8 (by decide) (fun c2 => ?_) (fun c2 => absurd c2 (by decide))
  refine lv_iconst (v := nI 1) hx hb dX3_count_15 (by decide) ?_
  refine q_ci1 (i := 0) (ws' := wR o ps pa pv pn px cI (oM ps pa pv pn px (nI 1) (nI ns) kp ln sp wr le wh te dg) (rr f) fa fv fn fx) (va_runV (rm := { frames := 0, cells := 0, slots := 0, locals := 0 }) (As := [.int (nI 1)]) (rest := []) ⟨hx, hb, hml, hown, hts⟩ (m3_holds1 l D cI o (oM ps pa pv pn px th (nI ns) kp ln sp wr le wh te dg) (Nat.le_of_ble_eq_true rfl)) (cwV 1 hts gX3_count_X3_holds rfl rfl rfl (by decide +kernel) ⟨Nat.le_of_ble_eq_true rfl, Nat.le_of_ble_eq_true rfl⟩) (q_pV (ci := 3) (q0 := 0) (hP.sub [0] rfl) (hK.sub [] rfl) rfl rfl) rfl rfl hl.1 rfl (lv_room (Nat.le_of_ble_eq_true rfl)) dX3_count_16 ⟨Nat.le_of_ble_eq_true rfl, Nat.le_of_ble_eq_true rfl⟩) hP hD hS rfl (Or.inl rfl) rfl (fun x3 H locs e3 hP hD hS => ?_)
  have e3 : x3 = nI 0 := e3
  subst e3
  refine lv_if_eq (tgt := 30) hx hb dX3_count_19 (by decide) (fun c4 => ?_) (fun c4 => absurd c4 (by decide))
  refine lv_iconst (v := nI 0) hx hb dX3_count_30 (by decide) ?_
  refine hret _ _ _ _ _ rfl ?_ (hP) hS dX3_count_31
  trivial
set_option maxHeartbeats 4000000 in
set_option maxRecDepth 100000 in
theorem m3_tale_ok0 (l : Launch) (D : va_G) (cI : ClassId) (o ps pa pv pn px : Nat) (f fa fv fn fx : Nat → Int32) (B : Nat) (hI : Inv B f) (ns : Nat) (hn : ns ≤ 6) (th kp ln sp wr le wh te : Int32) (dg : Int64) (r : Nat) (hr : r < tN f)  (hD : va_D (fun _ => True) (wR o ps pa pv pn px cI (oM ps pa pv pn px th (nI ns) kp ln sp wr le wh te dg) (rr f) fa fv fn fx)) : q_I l yX3_tale wsX3_tale { frames := 1, cells := 0, slots := 0, locals := 22 } [.ref o, .int (nI r), .int (nI 0)] (q_bp D (wR o ps pa pv pn px cI (oM ps pa pv pn px th (nI ns) kp ln sp wr le wh te dg) (rr f) fa fv fn fx) [(cI, .int)]) (fun v => v = f (111 + r)) (fun H => va_P D vwCl (wR o ps pa pv pn px cI (oM ps pa pv pn px (nI 0) (nI ns) kp ln sp wr le wh te dg) (rr f) fa fv fn fx) H) (AM o ps pa pv pn px) 0 0 := by
  refine q_goI (cc := cX3_tale) (maxL := 3) (ty := .int) (lv0 := [(0, .ref o), (1, .int (nI r)), (2, .int (nI 0))]) (by decide) rfl (Nat.le_of_ble_eq_true rfl) rfl ?_
  intro p e s m args below meth c Q ls hx hb hml hts hown hP hK hl hret
  have hi3 : ∀ w ∈ wsX30, w ∈ wsX3_tale := by decide +kernel
  have hfl7 := hts (.fieldLink RX3 7 "WhisperedPotsModel" "s" "[I") (by decide +kernel)
  have hS : va_S (AM o ps pa pv pn px) s.heap s.heap [] := va_S.rf
  have hne : o ≠ ps := fun h => absurd (hD.1 0 1 _ _ rfl rfl h) (by decide)
  have ht24 : tN f ≤ 24 := by rw [hI.tale.2]; exact cnt_le f 24
  refine lv_aload_n hx hb dX3_tale_0 rfl (lv_at hl 0 rfl) ?_
  refine lv_iload_n hx hb dX3_tale_1 rfl (lv_at hl 1 rfl) ?_
  refine lv_if_ge (tgt := 9) hx hb dX3_tale_2 (by decide) (fun c1 => ?_) (fun c1 => absurd c1 (fun z => z (nI_pos' (by omega))))
  refine lv_iload_n hx hb dX3_tale_9 rfl (lv_at hl 2 rfl) ?_
  refine lv_iconst (v := nI 0) hx hb dX3_tale_10 (by decide) ?_
  refine lv_iconst (v := nI 1) hx hb dX3_tale_11 (by decide) ?_
  refine q_ciR (va_runS (rm := { frames := 0, cells := 0, slots := 0, locals := 0 }) (As := [.int (nI 0), .int (nI 0), .int (nI 1)]) (rest := [.ref o]) ⟨hx, hb, hml, hown, hts⟩ (m3_in l D (nI 0) (nI 0) (nI 1)) (va_cwS 3 hts gX3_tale_X3_in rfl rfl rfl (by decide +kernel) ⟨Nat.le_of_ble_eq_true rfl, Nat.le_of_ble_eq_true rfl⟩) (q_pS (hP.sub [] rfl) (hK.sub [] rfl)) rfl rfl hl.1 rfl (lv_room (Nat.le_of_ble_eq_true rfl)) dX3_tale_12 ⟨Nat.le_of_ble_eq_true rfl, Nat.le_of_ble_eq_true rfl⟩) hP hS (fun x2 H locs e2 hP hS => ?_)
  have e2 : x2 = nI 1 := by
    have h9 : x2 = p_b (q_in (nI 0) (nI 1) (nI 0)) := e2
    rw [h9, ((q_inN (Nat.zero_le _) (by omega) (by decide)) : q_in (nI 0) (nI 1) (nI 0) = true)]
    rfl
  subst e2
  refine lv_if_eq (tgt := 22) hx hb dX3_tale_15 (by decide) (fun c3 => absurd c3 (by decide)) (fun c3 => ?_)
  refine lv_iconst (v := nI 0) hx hb dX3_tale_18 (by decide) ?_
  refine lv_goto (tgt := 23) hx hb dX3_tale_19 (by decide) ?_
  refine q_ci1 (i := 0) (ws' := wR o ps pa pv pn px cI (oM ps pa pv pn px (nI 0) (nI ns) kp ln sp wr le wh te dg) (rr f) fa fv fn fx) (va_runV (rm := { frames := 0, cells := 0, slots := 0, locals := 0 }) (As := [.int (nI 0)]) (rest := []) ⟨hx, hb, hml, hown, hts⟩ (m3_holds0 l D cI o (oM ps pa pv pn px th (nI ns) kp ln sp wr le wh te dg) (Nat.le_of_ble_eq_true rfl)) (cwV 1 hts gX3_tale_X3_holds rfl rfl rfl (by decide +kernel) ⟨Nat.le_of_ble_eq_true rfl, Nat.le_of_ble_eq_true rfl⟩) (q_pV (ci := 3) (q0 := 0) (hP.sub [0] rfl) (hK.sub [] rfl) rfl rfl) rfl rfl hl.1 rfl (lv_room (Nat.le_of_ble_eq_true rfl)) dX3_tale_23 ⟨Nat.le_of_ble_eq_true rfl, Nat.le_of_ble_eq_true rfl⟩) hP hD hS rfl (Or.inl rfl) rfl (fun x4 H locs e4 hP hD hS => ?_)
  have e4 : x4 = nI 1 := e4
  subst e4
  refine lv_if_ne (tgt := 31) hx hb dX3_tale_26 (by decide) (fun c5 => ?_) (fun c5 => absurd c5 (by decide))
  refine lv_iload_n hx hb dX3_tale_31 rfl (lv_at hl 1 rfl) ?_
  refine lv_aload_n hx hb dX3_tale_32 rfl (lv_at hl 0 rfl) ?_
  refine va_get (D := D) (ci := 3) (v := .ref ps) (C := RX3) (T := TX3) (N := 15) hx hb hts hi3 hown hK hP 0 rfl rfl 1 (by decide) hfl7 (fun _ h9 => h9) rfl dX3_tale_33 ?_
  refine lv_sipush (v := nI 135) hx hb dX3_tale_36 (by decide) ?_
  refine q_ld hx hb hK hP 1 0 rfl rfl (j := 135) (v := (nI ((tN f)))) (by omega) (by omega) ((rr_at (pm_id (by omega))).trans hI.tale.1) dX3_tale_39 ?_
  refine q_ltN (tgt := 45) hx hb (by omega) (by omega) dX3_tale_40 (by decide) (fun c6 => ?_) (fun c6 => absurd c6 (by omega))
  refine lv_iload_n hx hb dX3_tale_45 rfl (lv_at hl 2 rfl) ?_
  refine lv_if_ne (tgt := 61) hx hb dX3_tale_46 (by decide) (fun c7 => absurd c7 (by decide)) (fun c7 => ?_)
  refine lv_aload_n hx hb dX3_tale_49 rfl (lv_at hl 0 rfl) ?_
  refine va_get (D := D) (ci := 3) (v := .ref ps) (C := RX3) (T := TX3) (N := 15) hx hb hts hi3 hown hK hP 0 rfl rfl 1 (by decide) hfl7 (fun _ h9 => h9) rfl dX3_tale_50 ?_
  refine lv_bipush (v := nI 111) hx hb dX3_tale_53 (by decide) ?_
  refine lv_iload_n hx hb dX3_tale_55 rfl (lv_at hl 1 rfl) ?_
  refine q_addN hx hb (111 + r) (by omega) dX3_tale_56 ?_
  refine q_ld hx hb hK hP 1 0 rfl rfl (j := (111 + r)) (v := f (111 + r)) (by omega) (by omega) (rr_at (pm_id (by omega))) dX3_tale_57 ?_
  refine lv_goto (tgt := 78) hx hb dX3_tale_58 (by decide) ?_
  refine hret _ _ _ _ _ rfl ?_ (hP) hS dX3_tale_78
  rfl
set_option maxHeartbeats 4000000 in
set_option maxRecDepth 100000 in
theorem m3_tale_ok1 (l : Launch) (D : va_G) (cI : ClassId) (o ps pa pv pn px : Nat) (f fa fv fn fx : Nat → Int32) (B : Nat) (hI : Inv B f) (ns : Nat) (hn : ns ≤ 6) (th kp ln sp wr le wh te : Int32) (dg : Int64) (r : Nat) (hr : r < tN f)  (hD : va_D (fun _ => True) (wR o ps pa pv pn px cI (oM ps pa pv pn px th (nI ns) kp ln sp wr le wh te dg) (rr f) fa fv fn fx)) : q_I l yX3_tale wsX3_tale { frames := 1, cells := 0, slots := 0, locals := 22 } [.ref o, .int (nI r), .int (nI 1)] (q_bp D (wR o ps pa pv pn px cI (oM ps pa pv pn px th (nI ns) kp ln sp wr le wh te dg) (rr f) fa fv fn fx) [(cI, .int)]) (fun v => v = f (87 + (f (111 + r)).toNatClampNeg)) (fun H => va_P D vwCl (wR o ps pa pv pn px cI (oM ps pa pv pn px (nI 0) (nI ns) kp ln sp wr le wh te dg) (rr f) fa fv fn fx) H) (AM o ps pa pv pn px) 0 0 := by
  refine q_goI (cc := cX3_tale) (maxL := 3) (ty := .int) (lv0 := [(0, .ref o), (1, .int (nI r)), (2, .int (nI 1))]) (by decide) rfl (Nat.le_of_ble_eq_true rfl) rfl ?_
  intro p e s m args below meth c Q ls hx hb hml hts hown hP hK hl hret
  have hi3 : ∀ w ∈ wsX30, w ∈ wsX3_tale := by decide +kernel
  have hfl7 := hts (.fieldLink RX3 7 "WhisperedPotsModel" "s" "[I") (by decide +kernel)
  have hS : va_S (AM o ps pa pv pn px) s.heap s.heap [] := va_S.rf
  have hne : o ≠ ps := fun h => absurd (hD.1 0 1 _ _ rfl rfl h) (by decide)
  have ht24 : tN f ≤ 24 := by rw [hI.tale.2]; exact cnt_le f 24
  have hq24 := (hI.pair hr).2
  refine lv_aload_n hx hb dX3_tale_0 rfl (lv_at hl 0 rfl) ?_
  refine lv_iload_n hx hb dX3_tale_1 rfl (lv_at hl 1 rfl) ?_
  refine lv_if_ge (tgt := 9) hx hb dX3_tale_2 (by decide) (fun c1 => ?_) (fun c1 => absurd c1 (fun z => z (nI_pos' (by omega))))
  refine lv_iload_n hx hb dX3_tale_9 rfl (lv_at hl 2 rfl) ?_
  refine lv_iconst (v := nI 0) hx hb dX3_tale_10 (by decide) ?_
  refine lv_iconst (v := nI 1) hx hb dX3_tale_11 (by decide) ?_
  refine q_ciR (va_runS (rm := { frames := 0, cells := 0, slots := 0, locals := 0 }) (As := [.int (nI 1), .int (nI 0), .int (nI 1)]) (rest := [.ref o]) ⟨hx, hb, hml, hown, hts⟩ (m3_in l D (nI 1) (nI 0) (nI 1)) (va_cwS 3 hts gX3_tale_X3_in rfl rfl rfl (by decide +kernel) ⟨Nat.le_of_ble_eq_true rfl, Nat.le_of_ble_eq_true rfl⟩) (q_pS (hP.sub [] rfl) (hK.sub [] rfl)) rfl rfl hl.1 rfl (lv_room (Nat.le_of_ble_eq_true rfl)) dX3_tale_12 ⟨Nat.le_of_ble_eq_true rfl, Nat.le_of_ble_eq_true rfl⟩) hP hS (fun x2 H locs e2 hP hS => ?_)
  have e2 : x2 = nI 1 := by
    have h9 : x2 = p_b (q_in (nI 0) (nI 1) (nI 1)) := e2
    rw [h9, ((q_inN (Nat.zero_le _) (by omega) (by decide)) : q_in (nI 0) (nI 1) (nI 1) = true)]
    rfl
  subst e2
  refine lv_if_eq (tgt := 22) hx hb dX3_tale_15 (by decide) (fun c3 => absurd c3 (by decide)) (fun c3 => ?_)
  refine lv_iconst (v := nI 0) hx hb dX3_tale_18 (by decide) ?_
  refine lv_goto (tgt := 23) hx hb dX3_tale_19 (by decide) ?_
  refine q_ci1 (i := 0) (ws' := wR o ps pa pv pn px cI (oM ps pa pv pn px (nI 0) (nI ns) kp ln sp wr le wh te dg) (rr f) fa fv fn fx) (va_runV (rm := { frames := 0, cells := 0, slots := 0, locals := 0 }) (As := [.int (nI 0)]) (rest := []) ⟨hx, hb, hml, hown, hts⟩ (m3_holds0 l D cI o (oM ps pa pv pn px th (nI ns) kp ln sp wr le wh te dg) (Nat.le_of_ble_eq_true rfl)) (cwV 1 hts gX3_tale_X3_holds rfl rfl rfl (by decide +kernel) ⟨Nat.le_of_ble_eq_true rfl, Nat.le_of_ble_eq_true rfl⟩) (q_pV (ci := 3) (q0 := 0) (hP.sub [0] rfl) (hK.sub [] rfl) rfl rfl) rfl rfl hl.1 rfl (lv_room (Nat.le_of_ble_eq_true rfl)) dX3_tale_23 ⟨Nat.le_of_ble_eq_true rfl, Nat.le_of_ble_eq_true rfl⟩) hP hD hS rfl (Or.inl rfl) rfl (fun x4 H locs e4 hP hD hS => ?_)
  have e4 : x4 = nI 1 := e4
  subst e4
  refine lv_if_ne (tgt := 31) hx hb dX3_tale_26 (by decide) (fun c5 => ?_) (fun c5 => absurd c5 (by decide))
  refine lv_iload_n hx hb dX3_tale_31 rfl (lv_at hl 1 rfl) ?_
  refine lv_aload_n hx hb dX3_tale_32 rfl (lv_at hl 0 rfl) ?_
  refine va_get (D := D) (ci := 3) (v := .ref ps) (C := RX3) (T := TX3) (N := 15) hx hb hts hi3 hown hK hP 0 rfl rfl 1 (by decide) hfl7 (fun _ h9 => h9) rfl dX3_tale_33 ?_
  refine lv_sipush (v := nI 135) hx hb dX3_tale_36 (by decide) ?_
  refine q_ld hx hb hK hP 1 0 rfl rfl (j := 135) (v := (nI ((tN f)))) (by omega) (by omega) ((rr_at (pm_id (by omega))).trans hI.tale.1) dX3_tale_39 ?_
  refine q_ltN (tgt := 45) hx hb (by omega) (by omega) dX3_tale_40 (by decide) (fun c6 => ?_) (fun c6 => absurd c6 (by omega))
  refine lv_iload_n hx hb dX3_tale_45 rfl (lv_at hl 2 rfl) ?_
  refine lv_if_ne (tgt := 61) hx hb dX3_tale_46 (by decide) (fun c7 => ?_) (fun c7 => absurd c7 (by decide))
  refine lv_aload_n hx hb dX3_tale_61 rfl (lv_at hl 0 rfl) ?_
  refine va_get (D := D) (ci := 3) (v := .ref ps) (C := RX3) (T := TX3) (N := 15) hx hb hts hi3 hown hK hP 0 rfl rfl 1 (by decide) hfl7 (fun _ h9 => h9) rfl dX3_tale_62 ?_
  refine lv_bipush (v := nI 87) hx hb dX3_tale_65 (by decide) ?_
  refine lv_aload_n hx hb dX3_tale_67 rfl (lv_at hl 0 rfl) ?_
  refine va_get (D := D) (ci := 3) (v := .ref ps) (C := RX3) (T := TX3) (N := 15) hx hb hts hi3 hown hK hP 0 rfl rfl 1 (by decide) hfl7 (fun _ h9 => h9) rfl dX3_tale_68 ?_
  refine lv_bipush (v := nI 111) hx hb dX3_tale_71 (by decide) ?_
  refine lv_iload_n hx hb dX3_tale_73 rfl (lv_at hl 1 rfl) ?_
  refine q_addN hx hb (111 + r) (by omega) dX3_tale_74 ?_
  refine q_ld hx hb hK hP 1 0 rfl rfl (j := (111 + r)) (v := (nI ((f (111 + r)).toNatClampNeg))) (by omega) (by omega) ((rr_at (pm_id (by omega))).trans (hI.pair hr).1) dX3_tale_75 ?_
  refine q_addN hx hb (87 + (f (111 + r)).toNatClampNeg) (by omega) dX3_tale_76 ?_
  refine q_ld hx hb hK hP 1 0 rfl rfl (j := (87 + (f (111 + r)).toNatClampNeg)) (v := f (87 + (f (111 + r)).toNatClampNeg)) (by omega) (by omega) (rr_at (pm_id (by omega))) dX3_tale_77 ?_
  refine hret _ _ _ _ _ rfl ?_ (hP) hS dX3_tale_78
  rfl
set_option maxHeartbeats 4000000 in
set_option maxRecDepth 100000 in
theorem m3_tale_no0 (l : Launch) (D : va_G) (cI : ClassId) (o ps pa pv pn px : Nat) (f fa fv fn fx : Nat → Int32) (B : Nat) (hI : Inv B f) (ns : Nat) (hn : ns ≤ 6) (th kp ln sp wr le wh te : Int32) (dg : Int64) (xr : Int32) (h0 : ¬ xr < 0) (hr : ¬ xr < nI (tN f)) (hD : va_D (fun _ => True) (wR o ps pa pv pn px cI (oM ps pa pv pn px th (nI ns) kp ln sp wr le wh te dg) (rr f) fa fv fn fx)) : q_I l yX3_tale wsX3_tale { frames := 1, cells := 0, slots := 0, locals := 22 } [.ref o, .int xr, .int (nI 0)] (q_bp D (wR o ps pa pv pn px cI (oM ps pa pv pn px th (nI ns) kp ln sp wr le wh te dg) (rr f) fa fv fn fx) [(cI, .int)]) (fun v => v = -1) (fun H => va_P D vwCl (wR o ps pa pv pn px cI (oM ps pa pv pn px (nI 0) (nI ns) kp ln sp wr le wh te dg) (rr f) fa fv fn fx) H) (AM o ps pa pv pn px) 0 0 := by
  refine q_goI (cc := cX3_tale) (maxL := 3) (ty := .int) (lv0 := [(0, .ref o), (1, .int xr), (2, .int (nI 0))]) (by decide) rfl (Nat.le_of_ble_eq_true rfl) rfl ?_
  intro p e s m args below meth c Q ls hx hb hml hts hown hP hK hl hret
  have hi3 : ∀ w ∈ wsX30, w ∈ wsX3_tale := by decide +kernel
  have hfl7 := hts (.fieldLink RX3 7 "WhisperedPotsModel" "s" "[I") (by decide +kernel)
  have hS : va_S (AM o ps pa pv pn px) s.heap s.heap [] := va_S.rf
  have hne : o ≠ ps := fun h => absurd (hD.1 0 1 _ _ rfl rfl h) (by decide)
  have ht24 : tN f ≤ 24 := by rw [hI.tale.2]; exact cnt_le f 24
  refine lv_aload_n hx hb dX3_tale_0 rfl (lv_at hl 0 rfl) ?_
  refine lv_iload_n hx hb dX3_tale_1 rfl (lv_at hl 1 rfl) ?_
  refine lv_if_ge (tgt := 9) hx hb dX3_tale_2 (by decide) (fun c1 => ?_) (fun c1 => absurd c1 (fun z => z (q_ge0 h0)))
  refine lv_iload_n hx hb dX3_tale_9 rfl (lv_at hl 2 rfl) ?_
  refine lv_iconst (v := nI 0) hx hb dX3_tale_10 (by decide) ?_
  refine lv_iconst (v := nI 1) hx hb dX3_tale_11 (by decide) ?_
  refine q_ciR (va_runS (rm := { frames := 0, cells := 0, slots := 0, locals := 0 }) (As := [.int (nI 0), .int (nI 0), .int (nI 1)]) (rest := [.ref o]) ⟨hx, hb, hml, hown, hts⟩ (m3_in l D (nI 0) (nI 0) (nI 1)) (va_cwS 3 hts gX3_tale_X3_in rfl rfl rfl (by decide +kernel) ⟨Nat.le_of_ble_eq_true rfl, Nat.le_of_ble_eq_true rfl⟩) (q_pS (hP.sub [] rfl) (hK.sub [] rfl)) rfl rfl hl.1 rfl (lv_room (Nat.le_of_ble_eq_true rfl)) dX3_tale_12 ⟨Nat.le_of_ble_eq_true rfl, Nat.le_of_ble_eq_true rfl⟩) hP hS (fun x2 H locs e2 hP hS => ?_)
  have e2 : x2 = nI 1 := by
    have h9 : x2 = p_b (q_in (nI 0) (nI 1) (nI 0)) := e2
    rw [h9, ((q_inN (Nat.zero_le _) (by omega) (by decide)) : q_in (nI 0) (nI 1) (nI 0) = true)]
    rfl
  subst e2
  refine lv_if_eq (tgt := 22) hx hb dX3_tale_15 (by decide) (fun c3 => absurd c3 (by decide)) (fun c3 => ?_)
  refine lv_iconst (v := nI 0) hx hb dX3_tale_18 (by decide) ?_
  refine lv_goto (tgt := 23) hx hb dX3_tale_19 (by decide) ?_
  refine q_ci1 (i := 0) (ws' := wR o ps pa pv pn px cI (oM ps pa pv pn px (nI 0) (nI ns) kp ln sp wr le wh te dg) (rr f) fa fv fn fx) (va_runV (rm := { frames := 0, cells := 0, slots := 0, locals := 0 }) (As := [.int (nI 0)]) (rest := []) ⟨hx, hb, hml, hown, hts⟩ (m3_holds0 l D cI o (oM ps pa pv pn px th (nI ns) kp ln sp wr le wh te dg) (Nat.le_of_ble_eq_true rfl)) (cwV 1 hts gX3_tale_X3_holds rfl rfl rfl (by decide +kernel) ⟨Nat.le_of_ble_eq_true rfl, Nat.le_of_ble_eq_true rfl⟩) (q_pV (ci := 3) (q0 := 0) (hP.sub [0] rfl) (hK.sub [] rfl) rfl rfl) rfl rfl hl.1 rfl (lv_room (Nat.le_of_ble_eq_true rfl)) dX3_tale_23 ⟨Nat.le_of_ble_eq_true rfl, Nat.le_of_ble_eq_true rfl⟩) hP hD hS rfl (Or.inl rfl) rfl (fun x4 H locs e4 hP hD hS => ?_)
  have e4 : x4 = nI 1 := e4
  subst e4
  refine lv_if_ne (tgt := 31) hx hb dX3_tale_26 (by decide) (fun c5 => ?_) (fun c5 => absurd c5 (by decide))
  refine lv_iload_n hx hb dX3_tale_31 rfl (lv_at hl 1 rfl) ?_
  refine lv_aload_n hx hb dX3_tale_32 rfl (lv_at hl 0 rfl) ?_
  refine va_get (D := D) (ci := 3) (v := .ref ps) (C := RX3) (T := TX3) (N := 15) hx hb hts hi3 hown hK hP 0 rfl rfl 1 (by decide) hfl7 (fun _ h9 => h9) rfl dX3_tale_33 ?_
  refine lv_sipush (v := nI 135) hx hb dX3_tale_36 (by decide) ?_
  refine q_ld hx hb hK hP 1 0 rfl rfl (j := 135) (v := (nI ((tN f)))) (by omega) (by omega) ((rr_at (pm_id (by omega))).trans hI.tale.1) dX3_tale_39 ?_
  refine lv_icmp_lt (tgt := 45) hx hb dX3_tale_40 (by decide) (fun c6 => absurd c6 hr) (fun c6 => ?_)
  refine lv_iconst (v := (-1)) hx hb dX3_tale_43 (by decide) ?_
  refine hret _ _ _ _ _ rfl ?_ (hP) hS dX3_tale_44
  rfl
set_option maxHeartbeats 4000000 in
set_option maxRecDepth 100000 in
theorem m3_tale_no1 (l : Launch) (D : va_G) (cI : ClassId) (o ps pa pv pn px : Nat) (f fa fv fn fx : Nat → Int32) (B : Nat) (hI : Inv B f) (ns : Nat) (hn : ns ≤ 6) (th kp ln sp wr le wh te : Int32) (dg : Int64) (xr : Int32) (h0 : ¬ xr < 0) (hr : ¬ xr < nI (tN f)) (hD : va_D (fun _ => True) (wR o ps pa pv pn px cI (oM ps pa pv pn px th (nI ns) kp ln sp wr le wh te dg) (rr f) fa fv fn fx)) : q_I l yX3_tale wsX3_tale { frames := 1, cells := 0, slots := 0, locals := 22 } [.ref o, .int xr, .int (nI 1)] (q_bp D (wR o ps pa pv pn px cI (oM ps pa pv pn px th (nI ns) kp ln sp wr le wh te dg) (rr f) fa fv fn fx) [(cI, .int)]) (fun v => v = -1) (fun H => va_P D vwCl (wR o ps pa pv pn px cI (oM ps pa pv pn px (nI 0) (nI ns) kp ln sp wr le wh te dg) (rr f) fa fv fn fx) H) (AM o ps pa pv pn px) 0 0 := by
  refine q_goI (cc := cX3_tale) (maxL := 3) (ty := .int) (lv0 := [(0, .ref o), (1, .int xr), (2, .int (nI 1))]) (by decide) rfl (Nat.le_of_ble_eq_true rfl) rfl ?_
  intro p e s m args below meth c Q ls hx hb hml hts hown hP hK hl hret
  have hi3 : ∀ w ∈ wsX30, w ∈ wsX3_tale := by decide +kernel
  have hfl7 := hts (.fieldLink RX3 7 "WhisperedPotsModel" "s" "[I") (by decide +kernel)
  have hS : va_S (AM o ps pa pv pn px) s.heap s.heap [] := va_S.rf
  have hne : o ≠ ps := fun h => absurd (hD.1 0 1 _ _ rfl rfl h) (by decide)
  have ht24 : tN f ≤ 24 := by rw [hI.tale.2]; exact cnt_le f 24
  refine lv_aload_n hx hb dX3_tale_0 rfl (lv_at hl 0 rfl) ?_
  refine lv_iload_n hx hb dX3_tale_1 rfl (lv_at hl 1 rfl) ?_
  refine lv_if_ge (tgt := 9) hx hb dX3_tale_2 (by decide) (fun c1 => ?_) (fun c1 => absurd c1 (fun z => z (q_ge0 h0)))
  refine lv_iload_n hx hb dX3_tale_9 rfl (lv_at hl 2 rfl) ?_
  refine lv_iconst (v := nI 0) hx hb dX3_tale_10 (by decide) ?_
  refine lv_iconst (v := nI 1) hx hb dX3_tale_11 (by decide) ?_
  refine q_ciR (va_runS (rm := { frames := 0, cells := 0, slots := 0, locals := 0 }) (As := [.int (nI 1), .int (nI 0), .int (nI 1)]) (rest := [.ref o]) ⟨hx, hb, hml, hown, hts⟩ (m3_in l D (nI 1) (nI 0) (nI 1)) (va_cwS 3 hts gX3_tale_X3_in rfl rfl rfl (by decide +kernel) ⟨Nat.le_of_ble_eq_true rfl, Nat.le_of_ble_eq_true rfl⟩) (q_pS (hP.sub [] rfl) (hK.sub [] rfl)) rfl rfl hl.1 rfl (lv_room (Nat.le_of_ble_eq_true rfl)) dX3_tale_12 ⟨Nat.le_of_ble_eq_true rfl, Nat.le_of_ble_eq_true rfl⟩) hP hS (fun x2 H locs e2 hP hS => ?_)
  have e2 : x2 = nI 1 := by
    have h9 : x2 = p_b (q_in (nI 0) (nI 1) (nI 1)) := e2
    rw [h9, ((q_inN (Nat.zero_le _) (by omega) (by decide)) : q_in (nI 0) (nI 1) (nI 1) = true)]
    rfl
  subst e2
  refine lv_if_eq (tgt := 22) hx hb dX3_tale_15 (by decide) (fun c3 => absurd c3 (by decide)) (fun c3 => ?_)
  refine lv_iconst (v := nI 0) hx hb dX3_tale_18 (by decide) ?_
  refine lv_goto (tgt := 23) hx hb dX3_tale_19 (by decide) ?_
  refine q_ci1 (i := 0) (ws' := wR o ps pa pv pn px cI (oM ps pa pv pn px (nI 0) (nI ns) kp ln sp wr le wh te dg) (rr f) fa fv fn fx) (va_runV (rm := { frames := 0, cells := 0, slots := 0, locals := 0 }) (As := [.int (nI 0)]) (rest := []) ⟨hx, hb, hml, hown, hts⟩ (m3_holds0 l D cI o (oM ps pa pv pn px th (nI ns) kp ln sp wr le wh te dg) (Nat.le_of_ble_eq_true rfl)) (cwV 1 hts gX3_tale_X3_holds rfl rfl rfl (by decide +kernel) ⟨Nat.le_of_ble_eq_true rfl, Nat.le_of_ble_eq_true rfl⟩) (q_pV (ci := 3) (q0 := 0) (hP.sub [0] rfl) (hK.sub [] rfl) rfl rfl) rfl rfl hl.1 rfl (lv_room (Nat.le_of_ble_eq_true rfl)) dX3_tale_23 ⟨Nat.le_of_ble_eq_true rfl, Nat.le_of_ble_eq_true rfl⟩) hP hD hS rfl (Or.inl rfl) rfl (fun x4 H locs e4 hP hD hS => ?_)
  have e4 : x4 = nI 1 := e4
  subst e4
  refine lv_if_ne (tgt := 31) hx hb dX3_tale_26 (by decide) (fun c5 => ?_) (fun c5 => absurd c5 (by decide))
  refine lv_iload_n hx hb dX3_tale_31 rfl (lv_at hl 1 rfl) ?_
  refine lv_aload_n hx hb dX3_tale_32 rfl (lv_at hl 0 rfl) ?_
  refine va_get (D := D) (ci := 3) (v := .ref ps) (C := RX3) (T := TX3) (N := 15) hx hb hts hi3 hown hK hP 0 rfl rfl 1 (by decide) hfl7 (fun _ h9 => h9) rfl dX3_tale_33 ?_
  refine lv_sipush (v := nI 135) hx hb dX3_tale_36 (by decide) ?_
  refine q_ld hx hb hK hP 1 0 rfl rfl (j := 135) (v := (nI ((tN f)))) (by omega) (by omega) ((rr_at (pm_id (by omega))).trans hI.tale.1) dX3_tale_39 ?_
  refine lv_icmp_lt (tgt := 45) hx hb dX3_tale_40 (by decide) (fun c6 => absurd c6 hr) (fun c6 => ?_)
  refine lv_iconst (v := (-1)) hx hb dX3_tale_43 (by decide) ?_
  refine hret _ _ _ _ _ rfl ?_ (hP) hS dX3_tale_44
  rfl
set_option maxHeartbeats 4000000 in
set_option maxRecDepth 100000 in
theorem m3_tale_2 (l : Launch) (D : va_G) (cI : ClassId) (o ps pa pv pn px : Nat) (f fa fv fn fx : Nat → Int32) (B : Nat) (hI : Inv B f) (ns : Nat) (hn : ns ≤ 6) (th kp ln sp wr le wh te : Int32) (dg : Int64) (xr xw : Int32) (h0 : ¬ xr < 0) (h1q : q_in (nI 0) (nI 1) xw = false) (hD : va_D (fun _ => True) (wR o ps pa pv pn px cI (oM ps pa pv pn px th (nI ns) kp ln sp wr le wh te dg) (rr f) fa fv fn fx)) : q_I l yX3_tale wsX3_tale { frames := 1, cells := 0, slots := 0, locals := 22 } [.ref o, .int xr, .int xw] (q_bp D (wR o ps pa pv pn px cI (oM ps pa pv pn px th (nI ns) kp ln sp wr le wh te dg) (rr f) fa fv fn fx) [(cI, .int)]) (fun v => True) (fun H => va_P D vwCl (wR o ps pa pv pn px cI (oM ps pa pv pn px (nI 2) (nI ns) kp ln sp wr le wh te dg) (rr f) fa fv fn fx) H) (AM o ps pa pv pn px) 0 0 := by
  refine q_goI (cc := cX3_tale) (maxL := 3) (ty := .int) (lv0 := [(0, .ref o), (1, .int xr), (2, .int xw)]) (by decide) rfl (Nat.le_of_ble_eq_true rfl) rfl ?_
  intro p e s m args below meth c Q ls hx hb hml hts hown hP hK hl hret
  have hi3 : ∀ w ∈ wsX30, w ∈ wsX3_tale := by decide +kernel
  have hfl7 := hts (.fieldLink RX3 7 "WhisperedPotsModel" "s" "[I") (by decide +kernel)
  have hS : va_S (AM o ps pa pv pn px) s.heap s.heap [] := va_S.rf
  have hne : o ≠ ps := fun h => absurd (hD.1 0 1 _ _ rfl rfl h) (by decide)
  refine lv_aload_n hx hb dX3_tale_0 rfl (lv_at hl 0 rfl) ?_
  refine lv_iload_n hx hb dX3_tale_1 rfl (lv_at hl 1 rfl) ?_
  refine lv_if_ge (tgt := 9) hx hb dX3_tale_2 (by decide) (fun c1 => ?_) (fun c1 => absurd c1 (fun z => z (q_ge0 h0)))
  refine lv_iload_n hx hb dX3_tale_9 rfl (lv_at hl 2 rfl) ?_
  refine lv_iconst (v := nI 0) hx hb dX3_tale_10 (by decide) ?_
  refine lv_iconst (v := nI 1) hx hb dX3_tale_11 (by decide) ?_
  refine q_ciR (va_runS (rm := { frames := 0, cells := 0, slots := 0, locals := 0 }) (As := [.int xw, .int (nI 0), .int (nI 1)]) (rest := [.ref o]) ⟨hx, hb, hml, hown, hts⟩ (m3_in l D xw (nI 0) (nI 1)) (va_cwS 3 hts gX3_tale_X3_in rfl rfl rfl (by decide +kernel) ⟨Nat.le_of_ble_eq_true rfl, Nat.le_of_ble_eq_true rfl⟩) (q_pS (hP.sub [] rfl) (hK.sub [] rfl)) rfl rfl hl.1 rfl (lv_room (Nat.le_of_ble_eq_true rfl)) dX3_tale_12 ⟨Nat.le_of_ble_eq_true rfl, Nat.le_of_ble_eq_true rfl⟩) hP hS (fun x2 H locs e2 hP hS => ?_)
  have e2 : x2 = nI 0 := by
    have h9 : x2 = p_b (q_in (nI 0) (nI 1) xw) := e2
    rw [h9, (h1q : q_in (nI 0) (nI 1) xw = false)]
    rfl
  subst e2
  refine lv_if_eq (tgt := 22) hx hb dX3_tale_15 (by decide) (fun c3 => ?_) (fun c3 => absurd c3 (by decide))
  refine lv_iconst (v := nI 2) hx hb dX3_tale_22 (by decide) ?_
  refine q_ci1 (i := 0) (ws' := wR o ps pa pv pn px cI (oM ps pa pv pn px (nI 2) (nI ns) kp ln sp wr le wh te dg) (rr f) fa fv fn fx) (va_runV (rm := { frames := 0, cells := 0, slots := 0, locals := 0 }) (As := [.int (nI 2)]) (rest := []) ⟨hx, hb, hml, hown, hts⟩ (m3_holds2 l D cI o (oM ps pa pv pn px th (nI ns) kp ln sp wr le wh te dg) (Nat.le_of_ble_eq_true rfl)) (cwV 1 hts gX3_tale_X3_holds rfl rfl rfl (by decide +kernel) ⟨Nat.le_of_ble_eq_true rfl, Nat.le_of_ble_eq_true rfl⟩) (q_pV (ci := 3) (q0 := 0) (hP.sub [0] rfl) (hK.sub [] rfl) rfl rfl) rfl rfl hl.1 rfl (lv_room (Nat.le_of_ble_eq_true rfl)) dX3_tale_23 ⟨Nat.le_of_ble_eq_true rfl, Nat.le_of_ble_eq_true rfl⟩) hP hD hS rfl (Or.inl rfl) rfl (fun x4 H locs e4 hP hD hS => ?_)
  have e4 : x4 = nI 0 := e4
  subst e4
  refine lv_if_ne (tgt := 31) hx hb dX3_tale_26 (by decide) (fun c5 => absurd c5 (by decide)) (fun c5 => ?_)
  refine lv_iconst (v := nI 0) hx hb dX3_tale_29 (by decide) ?_
  refine hret _ _ _ _ _ rfl ?_ (hP) hS dX3_tale_30
  trivial
set_option maxHeartbeats 4000000 in
set_option maxRecDepth 100000 in
theorem m3_tale_1 (l : Launch) (D : va_G) (cI : ClassId) (o ps pa pv pn px : Nat) (f fa fv fn fx : Nat → Int32) (B : Nat) (hI : Inv B f) (ns : Nat) (hn : ns ≤ 6) (th kp ln sp wr le wh te : Int32) (dg : Int64) (xr xw : Int32) (h0 : xr < 0) (hD : va_D (fun _ => True) (wR o ps pa pv pn px cI (oM ps pa pv pn px th (nI ns) kp ln sp wr le wh te dg) (rr f) fa fv fn fx)) : q_I l yX3_tale wsX3_tale { frames := 1, cells := 0, slots := 0, locals := 22 } [.ref o, .int xr, .int xw] (q_bp D (wR o ps pa pv pn px cI (oM ps pa pv pn px th (nI ns) kp ln sp wr le wh te dg) (rr f) fa fv fn fx) [(cI, .int)]) (fun v => True) (fun H => va_P D vwCl (wR o ps pa pv pn px cI (oM ps pa pv pn px (nI 1) (nI ns) kp ln sp wr le wh te dg) (rr f) fa fv fn fx) H) (AM o ps pa pv pn px) 0 0 := by
  refine q_goI (cc := cX3_tale) (maxL := 3) (ty := .int) (lv0 := [(0, .ref o), (1, .int xr), (2, .int xw)]) (by decide) rfl (Nat.le_of_ble_eq_true rfl) rfl ?_
  intro p e s m args below meth c Q ls hx hb hml hts hown hP hK hl hret
  have hi3 : ∀ w ∈ wsX30, w ∈ wsX3_tale := by decide +kernel
  have hfl7 := hts (.fieldLink RX3 7 "WhisperedPotsModel" "s" "[I") (by decide +kernel)
  have hS : va_S (AM o ps pa pv pn px) s.heap s.heap [] := va_S.rf
  have hne : o ≠ ps := fun h => absurd (hD.1 0 1 _ _ rfl rfl h) (by decide)
  refine lv_aload_n hx hb dX3_tale_0 rfl (lv_at hl 0 rfl) ?_
  refine lv_iload_n hx hb dX3_tale_1 rfl (lv_at hl 1 rfl) ?_
  refine lv_if_ge (tgt := 9) hx hb dX3_tale_2 (by decide) (fun c1 => absurd c1 (fun z => q_ge1 z h0)) (fun c1 => ?_)
  refine lv_iconst (v := nI 1) hx hb dX3_tale_5 (by decide) ?_
  refine lv_goto (tgt := 23) hx hb dX3_tale_6 (by decide) ?_
  refine q_ci1 (i := 0) (ws' := wR o ps pa pv pn px cI (oM ps pa pv pn px (nI 1) (nI ns) kp ln sp wr le wh te dg) (rr f) fa fv fn fx) (va_runV (rm := { frames := 0, cells := 0, slots := 0, locals := 0 }) (As := [.int (nI 1)]) (rest := []) ⟨hx, hb, hml, hown, hts⟩ (m3_holds1 l D cI o (oM ps pa pv pn px th (nI ns) kp ln sp wr le wh te dg) (Nat.le_of_ble_eq_true rfl)) (cwV 1 hts gX3_tale_X3_holds rfl rfl rfl (by decide +kernel) ⟨Nat.le_of_ble_eq_true rfl, Nat.le_of_ble_eq_true rfl⟩) (q_pV (ci := 3) (q0 := 0) (hP.sub [0] rfl) (hK.sub [] rfl) rfl rfl) rfl rfl hl.1 rfl (lv_room (Nat.le_of_ble_eq_true rfl)) dX3_tale_23 ⟨Nat.le_of_ble_eq_true rfl, Nat.le_of_ble_eq_true rfl⟩) hP hD hS rfl (Or.inl rfl) rfl (fun x2 H locs e2 hP hD hS => ?_)
  have e2 : x2 = nI 0 := e2
  subst e2
  refine lv_if_ne (tgt := 31) hx hb dX3_tale_26 (by decide) (fun c3 => absurd c3 (by decide)) (fun c3 => ?_)
  refine lv_iconst (v := nI 0) hx hb dX3_tale_29 (by decide) ?_
  refine hret _ _ _ _ _ rfl ?_ (hP) hS dX3_tale_30
  trivial
set_option maxHeartbeats 4000000 in
set_option maxRecDepth 100000 in
theorem m3_keep_ok (l : Launch) (D : va_G) (cI : ClassId) (o ps pa pv pn px : Nat) (f fa fv fn fx : Nat → Int32) (B : Nat) (hI : Inv B f) (ns : Nat) (hn : ns ≤ 6) (th kp ln sp wr le wh te : Int32) (dg : Int64)  (hD : va_D (fun _ => True) (wR o ps pa pv pn px cI (oM ps pa pv pn px th (nI ns) kp ln sp wr le wh te dg) (rr f) fa fv fn fx)) : q_I l yX3_keep wsX3_keep { frames := 2, cells := 0, slots := 0, locals := 41 } [.ref o] (q_bp D (wR o ps pa pv pn px cI (oM ps pa pv pn px th (nI ns) kp ln sp wr le wh te dg) (rr f) fa fv fn fx) [(cI, .int)]) (fun v => v = g_sm f 75 3) (fun H => va_P D vwCl (wR o ps pa pv pn px cI (oM ps pa pv pn px (nI 0) (nI ns) (nI 1) ln sp wr le wh te dg) (rr f) fa fv (rr f) fx) H) (AM o ps pa pv pn px) 0 0 := by
  refine q_goI (cc := cX3_keep) (maxL := 2) (ty := .int) (lv0 := [(0, .ref o)]) (by decide) rfl (Nat.le_of_ble_eq_true rfl) rfl ?_
  intro p e s m args below meth c Q ls hx hb hml hts hown hP hK hl hret
  have hi3 : ∀ w ∈ wsX30, w ∈ wsX3_keep := by decide +kernel
  have hfl32 := hts (.fieldLink RX3 32 "WhisperedPotsModel" "thrown" "I") (by decide +kernel)
  have hfl19 := hts (.fieldLink RX3 19 "WhisperedPotsModel" "snapshot" "[I") (by decide +kernel)
  have hfl7 := hts (.fieldLink RX3 7 "WhisperedPotsModel" "s" "[I") (by decide +kernel)
  have hfl136 := hts (.fieldLink RX3 136 "WhisperedPotsModel" "isKept" "Z") (by decide +kernel)
  have hS : va_S (AM o ps pa pv pn px) s.heap s.heap [] := va_S.rf
  have hne : o ≠ ps := fun h => absurd (hD.1 0 1 _ _ rfl rfl h) (by decide)
  refine lv_aload_n hx hb dX3_keep_0 rfl (lv_at hl 0 rfl) ?_
  refine lv_iconst (v := nI 0) hx hb dX3_keep_1 (by decide) ?_
  refine q_pt (D := D) (ci := 3) (v := .int (nI 0)) (ty := .int) (C := RX3) (T := TX3) (N := 15) hx hb hts hi3 tyX3 tyX3_ok nmX3 hown hK hP hD hS (Or.inl rfl) 0 rfl rfl 0 (by decide) hfl32 (fun _ h9 => h9) rfl (by decide +kernel) rfl rfl (Nat.le_of_ble_eq_true rfl) (ws' := wR o ps pa pv pn px cI (oM ps pa pv pn px (nI 0) (nI ns) kp ln sp wr le wh te dg) (rr f) fa fv fn fx) rfl dX3_keep_2 (fun H locs hP hD hS => ?_)
  refine lv_iconst (v := nI 0) hx hb dX3_keep_5 (by decide) ?_
  refine lv_istore_n (lv' := [(1, .int (nI 0)), (0, .ref o)]) hx hb dX3_keep_6 rfl hl (by decide) rfl (fun ls hl => ?_)
  have LP : ∀ (n i : Nat)  (H : Heap) (locs : List Loc) (ls : Array Slot), i + n = 138 → va_P D vwCl (wR o ps pa pv pn px cI (oM ps pa pv pn px (nI 0) (nI ns) kp ln sp wr le wh te dg) (rr f) fa fv (cp 0 i (rr f) fn) fx) H → va_D (fun _ => True) (wR o ps pa pv pn px cI (oM ps pa pv pn px (nI 0) (nI ns) kp ln sp wr le wh te dg) (rr f) fa fv (cp 0 i (rr f) fn) fx) → va_S (AM o ps pa pv pn px) s.heap H locs → lv_has ls 2 [(1, .int (nI i)), (0, .ref o)] → W p l e { frames := 2, cells := 0, slots := 0, locals := 41 } s m args below meth c H locs 0 0 Q (F0 m 7 ls []) := by
    intro n
    induction n with
    | zero =>
      intro i  H locs ls hi  hP hD hS hl
      obtain rfl : 138 = i := by omega
      refine lv_iload_n hx hb dX3_keep_7 rfl (lv_at hl 0 rfl) ?_
      refine lv_sipush (v := nI 138) hx hb dX3_keep_8 (by decide) ?_
      refine q_geN (tgt := 32) hx hb (by omega) (by omega) dX3_keep_11 (by decide) (fun c1 => ?_) (fun c1 => absurd c1 (by omega))
      have hP := q_norm (ws' := wR o ps pa pv pn px cI (oM ps pa pv pn px (nI 0) (nI ns) kp ln sp wr le wh te dg) (rr f) fa fv (rr f) fx) hP 4 rfl (fun j hj => cp_full hj) rfl
      have hD := q_D2 (ws' := wR o ps pa pv pn px cI (oM ps pa pv pn px (nI 0) (nI ns) kp ln sp wr le wh te dg) (rr f) fa fv (rr f) fx) hD rfl
      refine lv_aload_n hx hb dX3_keep_32 rfl (lv_at hl 1 rfl) ?_
      refine lv_iconst (v := nI 1) hx hb dX3_keep_33 (by decide) ?_
      refine q_pt (D := D) (ci := 3) (v := .int (nI 1)) (ty := .boolean) (C := RX3) (T := TX3) (N := 15) hx hb hts hi3 tyX3 tyX3_ok nmX3 hown hK hP hD hS (Or.inl rfl) 0 rfl rfl 6 (by decide) hfl136 (fun _ h9 => h9) rfl (by decide +kernel) rfl rfl (Nat.le_of_ble_eq_true rfl) (ws' := wR o ps pa pv pn px cI (oM ps pa pv pn px (nI 0) (nI ns) (nI 1) ln sp wr le wh te dg) (rr f) fa fv (rr f) fx) rfl dX3_keep_34 (fun H locs hP hD hS => ?_)
      refine lv_aload_n hx hb dX3_keep_37 rfl (lv_at hl 1 rfl) ?_
      refine q_ciR (va_runV (rm := { frames := 1, cells := 0, slots := 0, locals := 21 }) (As := []) (rest := []) ⟨hx, hb, hml, hown, hts⟩ (m3_teaInPots l D cI o ps (oM ps pa pv pn px (nI 0) (nI ns) (nI 1) ln sp wr le wh te dg) f rfl) (cwV 0 hts gX3_keep_X3_teaInPots rfl rfl rfl (by decide +kernel) ⟨Nat.le_of_ble_eq_true rfl, Nat.le_of_ble_eq_true rfl⟩) (q_pV (ci := 3) (q0 := 0) (hP.sub (ws' := wS o ps cI (oM ps pa pv pn px (nI 0) (nI ns) (nI 1) ln sp wr le wh te dg) f) [0, 1] rfl) hK rfl rfl) rfl rfl hl.1 rfl (lv_room (Nat.le_of_ble_eq_true rfl)) dX3_keep_38 ⟨Nat.le_of_ble_eq_true rfl, Nat.le_of_ble_eq_true rfl⟩) hP hS (fun x2 H locs e2 hP hS => ?_)
      have e2 : x2 = g_sm f 75 3 := e2
      refine hret _ _ _ _ _ rfl ?_ (hP) hS dX3_keep_41
      subst e2
      rfl
    | succ n ih =>
      intro i  H locs ls hi  hP hD hS hl
      refine lv_iload_n hx hb dX3_keep_7 rfl (lv_at hl 0 rfl) ?_
      refine lv_sipush (v := nI 138) hx hb dX3_keep_8 (by decide) ?_
      refine q_geN (tgt := 32) hx hb (by omega) (by omega) dX3_keep_11 (by decide) (fun c3 => absurd c3 (by omega)) (fun c3 => ?_)
      refine lv_aload_n hx hb dX3_keep_14 rfl (lv_at hl 1 rfl) ?_
      refine va_get (D := D) (ci := 3) (v := .ref pn) (C := RX3) (T := TX3) (N := 15) hx hb hts hi3 hown hK hP 0 rfl rfl 5 (by decide) hfl19 (fun _ h9 => h9) rfl dX3_keep_15 ?_
      refine lv_iload_n hx hb dX3_keep_18 rfl (lv_at hl 0 rfl) ?_
      refine lv_aload_n hx hb dX3_keep_19 rfl (lv_at hl 1 rfl) ?_
      refine va_get (D := D) (ci := 3) (v := .ref ps) (C := RX3) (T := TX3) (N := 15) hx hb hts hi3 hown hK hP 0 rfl rfl 1 (by decide) hfl7 (fun _ h9 => h9) rfl dX3_keep_20 ?_
      refine lv_iload_n hx hb dX3_keep_23 rfl (lv_at hl 0 rfl) ?_
      refine q_ld hx hb hK hP 1 0 rfl rfl (j := i) (by omega) (by omega) rfl dX3_keep_24 ?_
      refine lv_topi (fun x4 e4 => ?_)
      refine q_st hx hb hK hP hD hS 4 0 rfl rfl (Or.inr (Or.inr (Or.inr (Or.inr (Or.inl rfl))))) (j := i) (by omega) (by omega) (fun g => wR o ps pa pv pn px cI (oM ps pa pv pn px (nI 0) (nI ns) kp ln sp wr le wh te dg) (rr f) fa fv g fx) (fun _ => rfl) dX3_keep_25 (fun H locs f5 hf5 hP hD hS => ?_)
      refine lv_iinc (v := (nI (i + 1))) (lv' := [(1, .int (nI (i + 1))), (0, .ref o)]) hx hb dX3_keep_26 hl (k := 0) rfl (q_inc i 1 (i + 1) (by omega)) (by decide) rfl (fun ls hl => ?_)
      refine lv_goto (tgt := 7) hx hb dX3_keep_29 (by decide) ?_
      have hw : f5 = cp 0 (i + 1) (rr f) fn := by
        rw [hf5, e4]
        exact cp_1z i (rr f) fn
      rw [hw] at hP hD
      exact ih (i + 1) _ _ _ (by omega) hP hD hS (lv_sub hl [0, 1] rfl)
  exact LP 138 0  _ _ _ (by omega)  (by rw [cp_0]; exact hP) (by rw [cp_0]; exact hD) hS (lv_sub hl [0, 1] rfl)
set_option maxHeartbeats 4000000 in
set_option maxRecDepth 100000 in
theorem m3_goBack_ok (l : Launch) (D : va_G) (cI : ClassId) (o ps pa pv pn px : Nat) (f fa fv fn fx : Nat → Int32) (B : Nat) (hI : Inv B f) (ns : Nat) (hn : ns ≤ 6) (th kp ln sp wr le wh te : Int32) (dg : Int64) (ft : Nat → Int32) (hft : ∀ j, j < 138 → fn j = rr ft j) (hD : va_D (fun _ => True) (wR o ps pa pv pn px cI (oM ps pa pv pn px th (nI ns) (nI 1) ln sp wr le wh te dg) (rr f) fa fv fn fx)) : q_I l yX3_goBack wsX3_goBack { frames := 2, cells := 0, slots := 0, locals := 41 } [.ref o] (q_bp D (wR o ps pa pv pn px cI (oM ps pa pv pn px th (nI ns) (nI 1) ln sp wr le wh te dg) (rr f) fa fv fn fx) [(cI, .int)]) (fun v => v = g_sm ft 75 3) (fun H => va_P D vwCl (wR o ps pa pv pn px cI (oM ps pa pv pn px (nI 0) (nI ((svn ns))) (nI 1) ln sp wr le wh te dg) (rr ft) fa (svf ns fv (rr f)) fn fx) H) (AM o ps pa pv pn px) 0 0 := by
  refine q_goI (cc := cX3_goBack) (maxL := 2) (ty := .int) (lv0 := [(0, .ref o)]) (by decide) rfl (Nat.le_of_ble_eq_true rfl) rfl ?_
  intro p e s m args below meth c Q ls hx hb hml hts hown hP hK hl hret
  have hi3 : ∀ w ∈ wsX30, w ∈ wsX3_goBack := by decide +kernel
  have hfl136 := hts (.fieldLink RX3 136 "WhisperedPotsModel" "isKept" "Z") (by decide +kernel)
  have hfl7 := hts (.fieldLink RX3 7 "WhisperedPotsModel" "s" "[I") (by decide +kernel)
  have hfl19 := hts (.fieldLink RX3 19 "WhisperedPotsModel" "snapshot" "[I") (by decide +kernel)
  have hS : va_S (AM o ps pa pv pn px) s.heap s.heap [] := va_S.rf
  have hne : o ≠ ps := fun h => absurd (hD.1 0 1 _ _ rfl rfl h) (by decide)
  refine lv_aload_n hx hb dX3_goBack_0 rfl (lv_at hl 0 rfl) ?_
  refine lv_aload_n hx hb dX3_goBack_1 rfl (lv_at hl 0 rfl) ?_
  refine va_get (D := D) (ci := 3) (v := .int (nI 1)) (C := RX3) (T := TX3) (N := 15) hx hb hts hi3 hown hK hP 0 rfl rfl 6 (by decide) hfl136 (fun _ h9 => h9) rfl dX3_goBack_2 ?_
  refine lv_if_eq (tgt := 12) hx hb dX3_goBack_5 (by decide) (fun c1 => absurd c1 (by decide)) (fun c1 => ?_)
  refine lv_iconst (v := nI 0) hx hb dX3_goBack_8 (by decide) ?_
  refine lv_goto (tgt := 13) hx hb dX3_goBack_9 (by decide) ?_
  refine q_ci1 (i := 0) (ws' := wR o ps pa pv pn px cI (oM ps pa pv pn px (nI 0) (nI ns) (nI 1) ln sp wr le wh te dg) (rr f) fa fv fn fx) (va_runV (rm := { frames := 0, cells := 0, slots := 0, locals := 0 }) (As := [.int (nI 0)]) (rest := []) ⟨hx, hb, hml, hown, hts⟩ (m3_holds0 l D cI o (oM ps pa pv pn px th (nI ns) (nI 1) ln sp wr le wh te dg) (Nat.le_of_ble_eq_true rfl)) (cwV 1 hts gX3_goBack_X3_holds rfl rfl rfl (by decide +kernel) ⟨Nat.le_of_ble_eq_true rfl, Nat.le_of_ble_eq_true rfl⟩) (q_pV (ci := 3) (q0 := 0) (hP.sub [0] rfl) (hK.sub [] rfl) rfl rfl) rfl rfl hl.1 rfl (lv_room (Nat.le_of_ble_eq_true rfl)) dX3_goBack_13 ⟨Nat.le_of_ble_eq_true rfl, Nat.le_of_ble_eq_true rfl⟩) hP hD hS rfl (Or.inl rfl) rfl (fun x2 H locs e2 hP hD hS => ?_)
  have e2 : x2 = nI 1 := e2
  subst e2
  refine lv_if_ne (tgt := 21) hx hb dX3_goBack_16 (by decide) (fun c3 => ?_) (fun c3 => absurd c3 (by decide))
  refine lv_aload_n hx hb dX3_goBack_21 rfl (lv_at hl 0 rfl) ?_
  refine q_cvF (BH := fun H => va_P D vwCl (wR o ps pa pv pn px cI (oM ps pa pv pn px (nI 0) (nI ((svn ns))) (nI 1) ln sp wr le wh te dg) (rr f) fa (svf ns fv (rr f)) fn fx) H) (va_runV (rm := { frames := 0, cells := 0, slots := 0, locals := 0 }) (As := []) (rest := []) ⟨hx, hb, hml, hown, hts⟩ (m3_save l D cI o ps pa pv pn px f fa fv fn fx ns hn (nI 0) (nI 1) ln sp wr le wh te dg hD) (cwV 0 hts gX3_goBack_X3_save rfl rfl rfl (by decide +kernel) ⟨Nat.le_of_ble_eq_true rfl, Nat.le_of_ble_eq_true rfl⟩) (q_pV (ci := 3) (q0 := 0) hP hK rfl rfl) rfl rfl hl.1 rfl (lv_room (Nat.le_of_ble_eq_true rfl)) dX3_goBack_22 ⟨Nat.le_of_ble_eq_true rfl, Nat.le_of_ble_eq_true rfl⟩) (fun _ h => h) hS (fun _ h => h) (fun H locs hP hS => ?_)
  have hD := q_D2 (ws' := wR o ps pa pv pn px cI (oM ps pa pv pn px (nI 0) (nI ((svn ns))) (nI 1) ln sp wr le wh te dg) (rr f) fa (svf ns fv (rr f)) fn fx) hD rfl
  refine lv_iconst (v := nI 0) hx hb dX3_goBack_25 (by decide) ?_
  refine lv_istore_n (lv' := [(1, .int (nI 0)), (0, .ref o)]) hx hb dX3_goBack_26 rfl hl (by decide) rfl (fun ls hl => ?_)
  have LP : ∀ (n i : Nat)  (H : Heap) (locs : List Loc) (ls : Array Slot), i + n = 138 → va_P D vwCl (wR o ps pa pv pn px cI (oM ps pa pv pn px (nI 0) (nI ((svn ns))) (nI 1) ln sp wr le wh te dg) (cp 0 i fn (rr f)) fa (svf ns fv (rr f)) fn fx) H → va_D (fun _ => True) (wR o ps pa pv pn px cI (oM ps pa pv pn px (nI 0) (nI ((svn ns))) (nI 1) ln sp wr le wh te dg) (cp 0 i fn (rr f)) fa (svf ns fv (rr f)) fn fx) → va_S (AM o ps pa pv pn px) s.heap H locs → lv_has ls 2 [(1, .int (nI i)), (0, .ref o)] → W p l e { frames := 2, cells := 0, slots := 0, locals := 41 } s m args below meth c H locs 0 0 Q (F0 m 27 ls []) := by
    intro n
    induction n with
    | zero =>
      intro i  H locs ls hi  hP hD hS hl
      obtain rfl : 138 = i := by omega
      refine lv_iload_n hx hb dX3_goBack_27 rfl (lv_at hl 0 rfl) ?_
      refine lv_sipush (v := nI 138) hx hb dX3_goBack_28 (by decide) ?_
      refine q_geN (tgt := 52) hx hb (by omega) (by omega) dX3_goBack_31 (by decide) (fun c5 => ?_) (fun c5 => absurd c5 (by omega))
      have hP := q_norm (ws' := wR o ps pa pv pn px cI (oM ps pa pv pn px (nI 0) (nI ((svn ns))) (nI 1) ln sp wr le wh te dg) (rr ft) fa (svf ns fv (rr f)) fn fx) hP 1 rfl (fun j hj => (cp_full hj).trans (hft j hj)) rfl
      have hD := q_D2 (ws' := wR o ps pa pv pn px cI (oM ps pa pv pn px (nI 0) (nI ((svn ns))) (nI 1) ln sp wr le wh te dg) (rr ft) fa (svf ns fv (rr f)) fn fx) hD rfl
      refine lv_aload_n hx hb dX3_goBack_52 rfl (lv_at hl 1 rfl) ?_
      refine q_ciR (va_runV (rm := { frames := 1, cells := 0, slots := 0, locals := 21 }) (As := []) (rest := []) ⟨hx, hb, hml, hown, hts⟩ (m3_teaInPots l D cI o ps (oM ps pa pv pn px (nI 0) (nI ((svn ns))) (nI 1) ln sp wr le wh te dg) ft rfl) (cwV 0 hts gX3_goBack_X3_teaInPots rfl rfl rfl (by decide +kernel) ⟨Nat.le_of_ble_eq_true rfl, Nat.le_of_ble_eq_true rfl⟩) (q_pV (ci := 3) (q0 := 0) (hP.sub (ws' := wS o ps cI (oM ps pa pv pn px (nI 0) (nI ((svn ns))) (nI 1) ln sp wr le wh te dg) ft) [0, 1] rfl) hK rfl rfl) rfl rfl hl.1 rfl (lv_room (Nat.le_of_ble_eq_true rfl)) dX3_goBack_53 ⟨Nat.le_of_ble_eq_true rfl, Nat.le_of_ble_eq_true rfl⟩) hP hS (fun x6 H locs e6 hP hS => ?_)
      have e6 : x6 = g_sm ft 75 3 := e6
      refine hret _ _ _ _ _ rfl ?_ (hP) hS dX3_goBack_56
      subst e6
      rfl
    | succ n ih =>
      intro i  H locs ls hi  hP hD hS hl
      refine lv_iload_n hx hb dX3_goBack_27 rfl (lv_at hl 0 rfl) ?_
      refine lv_sipush (v := nI 138) hx hb dX3_goBack_28 (by decide) ?_
      refine q_geN (tgt := 52) hx hb (by omega) (by omega) dX3_goBack_31 (by decide) (fun c7 => absurd c7 (by omega)) (fun c7 => ?_)
      refine lv_aload_n hx hb dX3_goBack_34 rfl (lv_at hl 1 rfl) ?_
      refine va_get (D := D) (ci := 3) (v := .ref ps) (C := RX3) (T := TX3) (N := 15) hx hb hts hi3 hown hK hP 0 rfl rfl 1 (by decide) hfl7 (fun _ h9 => h9) rfl dX3_goBack_35 ?_
      refine lv_iload_n hx hb dX3_goBack_38 rfl (lv_at hl 0 rfl) ?_
      refine lv_aload_n hx hb dX3_goBack_39 rfl (lv_at hl 1 rfl) ?_
      refine va_get (D := D) (ci := 3) (v := .ref pn) (C := RX3) (T := TX3) (N := 15) hx hb hts hi3 hown hK hP 0 rfl rfl 5 (by decide) hfl19 (fun _ h9 => h9) rfl dX3_goBack_40 ?_
      refine lv_iload_n hx hb dX3_goBack_43 rfl (lv_at hl 0 rfl) ?_
      refine q_ld hx hb hK hP 4 0 rfl rfl (j := i) (by omega) (by omega) rfl dX3_goBack_44 ?_
      refine lv_topi (fun x8 e8 => ?_)
      refine q_st hx hb hK hP hD hS 1 0 rfl rfl (Or.inr (Or.inl rfl)) (j := i) (by omega) (by omega) (fun g => wR o ps pa pv pn px cI (oM ps pa pv pn px (nI 0) (nI ((svn ns))) (nI 1) ln sp wr le wh te dg) g fa (svf ns fv (rr f)) fn fx) (fun _ => rfl) dX3_goBack_45 (fun H locs f9 hf9 hP hD hS => ?_)
      refine lv_iinc (v := (nI (i + 1))) (lv' := [(1, .int (nI (i + 1))), (0, .ref o)]) hx hb dX3_goBack_46 hl (k := 0) rfl (q_inc i 1 (i + 1) (by omega)) (by decide) rfl (fun ls hl => ?_)
      refine lv_goto (tgt := 27) hx hb dX3_goBack_49 (by decide) ?_
      have hw : f9 = cp 0 (i + 1) fn (rr f) := by
        rw [hf9, e8]
        exact cp_1z i fn (rr f)
      rw [hw] at hP hD
      exact ih (i + 1) _ _ _ (by omega) hP hD hS (lv_sub hl [0, 1] rfl)
  exact LP 138 0  _ _ _ (by omega)  (by rw [cp_0]; exact hP) (by rw [cp_0]; exact hD) hS (lv_sub hl [0, 1] rfl)
set_option maxHeartbeats 4000000 in
set_option maxRecDepth 100000 in
theorem m3_goBack_1 (l : Launch) (D : va_G) (cI : ClassId) (o ps pa pv pn px : Nat) (f fa fv fn fx : Nat → Int32) (B : Nat) (hI : Inv B f) (ns : Nat) (hn : ns ≤ 6) (th kp ln sp wr le wh te : Int32) (dg : Int64)  (hD : va_D (fun _ => True) (wR o ps pa pv pn px cI (oM ps pa pv pn px th (nI ns) (nI 0) ln sp wr le wh te dg) (rr f) fa fv fn fx)) : q_I l yX3_goBack wsX3_goBack { frames := 1, cells := 0, slots := 0, locals := 21 } [.ref o] (q_bp D (wR o ps pa pv pn px cI (oM ps pa pv pn px th (nI ns) (nI 0) ln sp wr le wh te dg) (rr f) fa fv fn fx) [(cI, .int)]) (fun v => True) (fun H => va_P D vwCl (wR o ps pa pv pn px cI (oM ps pa pv pn px (nI 1) (nI ns) (nI 0) ln sp wr le wh te dg) (rr f) fa fv fn fx) H) (AM o ps pa pv pn px) 0 0 := by
  refine q_goI (cc := cX3_goBack) (maxL := 2) (ty := .int) (lv0 := [(0, .ref o)]) (by decide) rfl (Nat.le_of_ble_eq_true rfl) rfl ?_
  intro p e s m args below meth c Q ls hx hb hml hts hown hP hK hl hret
  have hi3 : ∀ w ∈ wsX30, w ∈ wsX3_goBack := by decide +kernel
  have hfl136 := hts (.fieldLink RX3 136 "WhisperedPotsModel" "isKept" "Z") (by decide +kernel)
  have hfl7 := hts (.fieldLink RX3 7 "WhisperedPotsModel" "s" "[I") (by decide +kernel)
  have hfl19 := hts (.fieldLink RX3 19 "WhisperedPotsModel" "snapshot" "[I") (by decide +kernel)
  have hS : va_S (AM o ps pa pv pn px) s.heap s.heap [] := va_S.rf
  have hne : o ≠ ps := fun h => absurd (hD.1 0 1 _ _ rfl rfl h) (by decide)
  refine lv_aload_n hx hb dX3_goBack_0 rfl (lv_at hl 0 rfl) ?_
  refine lv_aload_n hx hb dX3_goBack_1 rfl (lv_at hl 0 rfl) ?_
  refine va_get (D := D) (ci := 3) (v := .int (nI 0)) (C := RX3) (T := TX3) (N := 15) hx hb hts hi3 hown hK hP 0 rfl rfl 6 (by decide) hfl136 (fun _ h9 => h9) rfl dX3_goBack_2 ?_
  refine lv_if_eq (tgt := 12) hx hb dX3_goBack_5 (by decide) (fun c1 => ?_) (fun c1 => absurd c1 (by decide))
  refine lv_iconst (v := nI 1) hx hb dX3_goBack_12 (by decide) ?_
  refine q_ci1 (i := 0) (ws' := wR o ps pa pv pn px cI (oM ps pa pv pn px (nI 1) (nI ns) (nI 0) ln sp wr le wh te dg) (rr f) fa fv fn fx) (va_runV (rm := { frames := 0, cells := 0, slots := 0, locals := 0 }) (As := [.int (nI 1)]) (rest := []) ⟨hx, hb, hml, hown, hts⟩ (m3_holds1 l D cI o (oM ps pa pv pn px th (nI ns) (nI 0) ln sp wr le wh te dg) (Nat.le_of_ble_eq_true rfl)) (cwV 1 hts gX3_goBack_X3_holds rfl rfl rfl (by decide +kernel) ⟨Nat.le_of_ble_eq_true rfl, Nat.le_of_ble_eq_true rfl⟩) (q_pV (ci := 3) (q0 := 0) (hP.sub [0] rfl) (hK.sub [] rfl) rfl rfl) rfl rfl hl.1 rfl (lv_room (Nat.le_of_ble_eq_true rfl)) dX3_goBack_13 ⟨Nat.le_of_ble_eq_true rfl, Nat.le_of_ble_eq_true rfl⟩) hP hD hS rfl (Or.inl rfl) rfl (fun x2 H locs e2 hP hD hS => ?_)
  have e2 : x2 = nI 0 := e2
  subst e2
  refine lv_if_ne (tgt := 21) hx hb dX3_goBack_16 (by decide) (fun c3 => absurd c3 (by decide)) (fun c3 => ?_)
  refine lv_iconst (v := nI 0) hx hb dX3_goBack_19 (by decide) ?_
  refine hret _ _ _ _ _ rfl ?_ (hP) hS dX3_goBack_20
  trivial
set_option maxHeartbeats 4000000 in
set_option maxRecDepth 100000 in
theorem m3_undo_ok (l : Launch) (D : va_G) (cI : ClassId) (o ps pa pv pn px : Nat) (f fa fv fn fx : Nat → Int32) (th kp ln sp wr le wh te : Int32) (dg : Int64) (np : Nat) (hnp : np < 6) (ft : Nat → Int32) (hft : ∀ j, j < 138 → fv (138 * np + j) = rr ft j) (hD : va_D (fun _ => True) (wR o ps pa pv pn px cI (oM ps pa pv pn px th (nI (1 + np)) kp ln sp wr le wh te dg) (rr f) fa fv fn fx)) : q_I l yX3_undo wsX3_undo { frames := 1, cells := 0, slots := 0, locals := 21 } [.ref o] (q_bp D (wR o ps pa pv pn px cI (oM ps pa pv pn px th (nI (1 + np)) kp ln sp wr le wh te dg) (rr f) fa fv fn fx) [(cI, .int)]) (fun v => v = nI np) (fun H => va_P D vwCl (wR o ps pa pv pn px cI (oM ps pa pv pn px (nI 0) (nI np) kp ln sp wr le wh te dg) (rr ft) fa fv fn fx) H) (AM o ps pa pv pn px) 0 0 := by
  refine q_goI (cc := cX3_undo) (maxL := 2) (ty := .int) (lv0 := [(0, .ref o)]) (by decide) rfl (Nat.le_of_ble_eq_true rfl) rfl ?_
  intro p e s m args below meth c Q ls hx hb hml hts hown hP hK hl hret
  have hi3 : ∀ w ∈ wsX30, w ∈ wsX3_undo := by decide +kernel
  have hfl40 := hts (.fieldLink RX3 40 "WhisperedPotsModel" "savedMany" "I") (by decide +kernel)
  have hfl7 := hts (.fieldLink RX3 7 "WhisperedPotsModel" "s" "[I") (by decide +kernel)
  have hfl16 := hts (.fieldLink RX3 16 "WhisperedPotsModel" "saved" "[I") (by decide +kernel)
  have hS : va_S (AM o ps pa pv pn px) s.heap s.heap [] := va_S.rf
  have hne : o ≠ ps := fun h => absurd (hD.1 0 1 _ _ rfl rfl h) (by decide)
  refine lv_aload_n hx hb dX3_undo_0 rfl (lv_at hl 0 rfl) ?_
  refine lv_aload_n hx hb dX3_undo_1 rfl (lv_at hl 0 rfl) ?_
  refine va_get (D := D) (ci := 3) (v := .int (nI (1 + np))) (C := RX3) (T := TX3) (N := 15) hx hb hts hi3 hown hK hP 0 rfl rfl 4 (by decide) hfl40 (fun _ h9 => h9) rfl dX3_undo_2 ?_
  refine lv_if_le (tgt := 12) hx hb dX3_undo_5 (by decide) (fun c1 => absurd c1 (nI_nle (by omega) (by omega))) (fun c1 => ?_)
  refine lv_iconst (v := nI 0) hx hb dX3_undo_8 (by decide) ?_
  refine lv_goto (tgt := 13) hx hb dX3_undo_9 (by decide) ?_
  refine q_ci1 (i := 0) (ws' := wR o ps pa pv pn px cI (oM ps pa pv pn px (nI 0) (nI (1 + np)) kp ln sp wr le wh te dg) (rr f) fa fv fn fx) (va_runV (rm := { frames := 0, cells := 0, slots := 0, locals := 0 }) (As := [.int (nI 0)]) (rest := []) ⟨hx, hb, hml, hown, hts⟩ (m3_holds0 l D cI o (oM ps pa pv pn px th (nI (1 + np)) kp ln sp wr le wh te dg) (Nat.le_of_ble_eq_true rfl)) (cwV 1 hts gX3_undo_X3_holds rfl rfl rfl (by decide +kernel) ⟨Nat.le_of_ble_eq_true rfl, Nat.le_of_ble_eq_true rfl⟩) (q_pV (ci := 3) (q0 := 0) (hP.sub [0] rfl) (hK.sub [] rfl) rfl rfl) rfl rfl hl.1 rfl (lv_room (Nat.le_of_ble_eq_true rfl)) dX3_undo_13 ⟨Nat.le_of_ble_eq_true rfl, Nat.le_of_ble_eq_true rfl⟩) hP hD hS rfl (Or.inl rfl) rfl (fun x2 H locs e2 hP hD hS => ?_)
  have e2 : x2 = nI 1 := e2
  subst e2
  refine lv_if_ne (tgt := 21) hx hb dX3_undo_16 (by decide) (fun c3 => ?_) (fun c3 => absurd c3 (by decide))
  refine lv_aload_n hx hb dX3_undo_21 rfl (lv_at hl 0 rfl) ?_
  refine lv_dup hx hb dX3_undo_22 rfl ?_
  refine va_get (D := D) (ci := 3) (v := .int (nI (1 + np))) (C := RX3) (T := TX3) (N := 15) hx hb hts hi3 hown hK hP 0 rfl rfl 4 (by decide) hfl40 (fun _ h9 => h9) rfl dX3_undo_23 ?_
  refine lv_iconst (v := nI 1) hx hb dX3_undo_26 (by decide) ?_
  refine q_subN hx hb np (by omega) dX3_undo_27 ?_
  refine q_pt (D := D) (ci := 3) (v := .int (nI np)) (ty := .int) (C := RX3) (T := TX3) (N := 15) hx hb hts hi3 tyX3 tyX3_ok nmX3 hown hK hP hD hS (Or.inl rfl) 0 rfl rfl 4 (by decide) hfl40 (fun _ h9 => h9) rfl (by decide +kernel) rfl rfl (Nat.le_of_ble_eq_true rfl) (ws' := wR o ps pa pv pn px cI (oM ps pa pv pn px (nI 0) (nI np) kp ln sp wr le wh te dg) (rr f) fa fv fn fx) rfl dX3_undo_28 (fun H locs hP hD hS => ?_)
  refine lv_iconst (v := nI 0) hx hb dX3_undo_31 (by decide) ?_
  refine lv_istore_n (lv' := [(1, .int (nI 0)), (0, .ref o)]) hx hb dX3_undo_32 rfl hl (by decide) rfl (fun ls hl => ?_)
  have LP : ∀ (n i : Nat)  (H : Heap) (locs : List Loc) (ls : Array Slot), i + n = 138 → va_P D vwCl (wR o ps pa pv pn px cI (oM ps pa pv pn px (nI 0) (nI np) kp ln sp wr le wh te dg) (cp 0 i (fun j => fv (138 * np + j)) (rr f)) fa fv fn fx) H → va_D (fun _ => True) (wR o ps pa pv pn px cI (oM ps pa pv pn px (nI 0) (nI np) kp ln sp wr le wh te dg) (cp 0 i (fun j => fv (138 * np + j)) (rr f)) fa fv fn fx) → va_S (AM o ps pa pv pn px) s.heap H locs → lv_has ls 2 [(1, .int (nI i)), (0, .ref o)] → W p l e { frames := 1, cells := 0, slots := 0, locals := 21 } s m args below meth c H locs 0 0 Q (F0 m 33 ls []) := by
    intro n
    induction n with
    | zero =>
      intro i  H locs ls hi  hP hD hS hl
      obtain rfl : 138 = i := by omega
      refine lv_iload_n hx hb dX3_undo_33 rfl (lv_at hl 0 rfl) ?_
      refine lv_sipush (v := nI 138) hx hb dX3_undo_34 (by decide) ?_
      refine q_geN (tgt := 67) hx hb (by omega) (by omega) dX3_undo_37 (by decide) (fun c4 => ?_) (fun c4 => absurd c4 (by omega))
      refine lv_aload_n hx hb dX3_undo_67 rfl (lv_at hl 1 rfl) ?_
      refine va_get (D := D) (ci := 3) (v := .int (nI np)) (C := RX3) (T := TX3) (N := 15) hx hb hts hi3 hown hK hP 0 rfl rfl 4 (by decide) hfl40 (fun _ h9 => h9) rfl dX3_undo_68 ?_
      have hP := q_norm (ws' := wR o ps pa pv pn px cI (oM ps pa pv pn px (nI 0) (nI np) kp ln sp wr le wh te dg) (rr ft) fa fv fn fx) hP 1 rfl (fun j hj => (cp_full hj).trans (hft j hj)) rfl
      refine hret _ _ _ _ _ rfl ?_ (hP) hS dX3_undo_71
      rfl
    | succ n ih =>
      intro i  H locs ls hi  hP hD hS hl
      refine lv_iload_n hx hb dX3_undo_33 rfl (lv_at hl 0 rfl) ?_
      refine lv_sipush (v := nI 138) hx hb dX3_undo_34 (by decide) ?_
      refine q_geN (tgt := 67) hx hb (by omega) (by omega) dX3_undo_37 (by decide) (fun c5 => absurd c5 (by omega)) (fun c5 => ?_)
      refine lv_aload_n hx hb dX3_undo_40 rfl (lv_at hl 1 rfl) ?_
      refine va_get (D := D) (ci := 3) (v := .ref ps) (C := RX3) (T := TX3) (N := 15) hx hb hts hi3 hown hK hP 0 rfl rfl 1 (by decide) hfl7 (fun _ h9 => h9) rfl dX3_undo_41 ?_
      refine lv_iload_n hx hb dX3_undo_44 rfl (lv_at hl 0 rfl) ?_
      refine lv_aload_n hx hb dX3_undo_45 rfl (lv_at hl 1 rfl) ?_
      refine va_get (D := D) (ci := 3) (v := .ref pv) (C := RX3) (T := TX3) (N := 15) hx hb hts hi3 hown hK hP 0 rfl rfl 3 (by decide) hfl16 (fun _ h9 => h9) rfl dX3_undo_46 ?_
      refine lv_sipush (v := nI 138) hx hb dX3_undo_49 (by decide) ?_
      refine lv_aload_n hx hb dX3_undo_52 rfl (lv_at hl 1 rfl) ?_
      refine va_get (D := D) (ci := 3) (v := .int (nI np)) (C := RX3) (T := TX3) (N := 15) hx hb hts hi3 hown hK hP 0 rfl rfl 4 (by decide) hfl40 (fun _ h9 => h9) rfl dX3_undo_53 ?_
      refine q_mulN hx hb (138 * np) (by omega) dX3_undo_56 ?_
      refine lv_iload_n hx hb dX3_undo_57 rfl (lv_at hl 0 rfl) ?_
      refine q_addN hx hb (138 * np + i) (by omega) dX3_undo_58 ?_
      refine q_ld hx hb hK hP 3 0 rfl rfl (j := (138 * np + i)) (by omega) (by omega) rfl dX3_undo_59 ?_
      refine lv_topi (fun x6 e6 => ?_)
      refine q_st hx hb hK hP hD hS 1 0 rfl rfl (Or.inr (Or.inl rfl)) (j := i) (by omega) (by omega) (fun g => wR o ps pa pv pn px cI (oM ps pa pv pn px (nI 0) (nI np) kp ln sp wr le wh te dg) g fa fv fn fx) (fun _ => rfl) dX3_undo_60 (fun H locs f7 hf7 hP hD hS => ?_)
      refine lv_iinc (v := (nI (i + 1))) (lv' := [(1, .int (nI (i + 1))), (0, .ref o)]) hx hb dX3_undo_61 hl (k := 0) rfl (q_inc i 1 (i + 1) (by omega)) (by decide) rfl (fun ls hl => ?_)
      refine lv_goto (tgt := 33) hx hb dX3_undo_64 (by decide) ?_
      have hw : f7 = cp 0 (i + 1) (fun j => fv (138 * np + j)) (rr f) := by
        rw [hf7, e6]
        exact cp_1z i (fun j => fv (138 * np + j)) (rr f)
      rw [hw] at hP hD
      exact ih (i + 1) _ _ _ (by omega) hP hD hS (lv_sub hl [0, 1] rfl)
  exact LP 138 0  _ _ _ (by omega)  (by rw [cp_0]; exact hP) (by rw [cp_0]; exact hD) hS (lv_sub hl [0, 1] rfl)
set_option maxHeartbeats 4000000 in
set_option maxRecDepth 100000 in
theorem m3_undo_1 (l : Launch) (D : va_G) (cI : ClassId) (o ps pa pv pn px : Nat) (f fa fv fn fx : Nat → Int32) (th kp ln sp wr le wh te : Int32) (dg : Int64)  (hD : va_D (fun _ => True) (wR o ps pa pv pn px cI (oM ps pa pv pn px th (nI 0) kp ln sp wr le wh te dg) (rr f) fa fv fn fx)) : q_I l yX3_undo wsX3_undo { frames := 1, cells := 0, slots := 0, locals := 21 } [.ref o] (q_bp D (wR o ps pa pv pn px cI (oM ps pa pv pn px th (nI 0) kp ln sp wr le wh te dg) (rr f) fa fv fn fx) [(cI, .int)]) (fun v => True) (fun H => va_P D vwCl (wR o ps pa pv pn px cI (oM ps pa pv pn px (nI 1) (nI 0) kp ln sp wr le wh te dg) (rr f) fa fv fn fx) H) (AM o ps pa pv pn px) 0 0 := by
  refine q_goI (cc := cX3_undo) (maxL := 2) (ty := .int) (lv0 := [(0, .ref o)]) (by decide) rfl (Nat.le_of_ble_eq_true rfl) rfl ?_
  intro p e s m args below meth c Q ls hx hb hml hts hown hP hK hl hret
  have hi3 : ∀ w ∈ wsX30, w ∈ wsX3_undo := by decide +kernel
  have hfl40 := hts (.fieldLink RX3 40 "WhisperedPotsModel" "savedMany" "I") (by decide +kernel)
  have hfl7 := hts (.fieldLink RX3 7 "WhisperedPotsModel" "s" "[I") (by decide +kernel)
  have hfl16 := hts (.fieldLink RX3 16 "WhisperedPotsModel" "saved" "[I") (by decide +kernel)
  have hS : va_S (AM o ps pa pv pn px) s.heap s.heap [] := va_S.rf
  have hne : o ≠ ps := fun h => absurd (hD.1 0 1 _ _ rfl rfl h) (by decide)
  refine lv_aload_n hx hb dX3_undo_0 rfl (lv_at hl 0 rfl) ?_
  refine lv_aload_n hx hb dX3_undo_1 rfl (lv_at hl 0 rfl) ?_
  refine va_get (D := D) (ci := 3) (v := .int (nI 0)) (C := RX3) (T := TX3) (N := 15) hx hb hts hi3 hown hK hP 0 rfl rfl 4 (by decide) hfl40 (fun _ h9 => h9) rfl dX3_undo_2 ?_
  refine lv_if_le (tgt := 12) hx hb dX3_undo_5 (by decide) (fun c1 => ?_) (fun c1 => absurd c1 (by decide))
  refine lv_iconst (v := nI 1) hx hb dX3_undo_12 (by decide) ?_
  refine q_ci1 (i := 0) (ws' := wR o ps pa pv pn px cI (oM ps pa pv pn px (nI 1) (nI 0) kp ln sp wr le wh te dg) (rr f) fa fv fn fx) (va_runV (rm := { frames := 0, cells := 0, slots := 0, locals := 0 }) (As := [.int (nI 1)]) (rest := []) ⟨hx, hb, hml, hown, hts⟩ (m3_holds1 l D cI o (oM ps pa pv pn px th (nI 0) kp ln sp wr le wh te dg) (Nat.le_of_ble_eq_true rfl)) (cwV 1 hts gX3_undo_X3_holds rfl rfl rfl (by decide +kernel) ⟨Nat.le_of_ble_eq_true rfl, Nat.le_of_ble_eq_true rfl⟩) (q_pV (ci := 3) (q0 := 0) (hP.sub [0] rfl) (hK.sub [] rfl) rfl rfl) rfl rfl hl.1 rfl (lv_room (Nat.le_of_ble_eq_true rfl)) dX3_undo_13 ⟨Nat.le_of_ble_eq_true rfl, Nat.le_of_ble_eq_true rfl⟩) hP hD hS rfl (Or.inl rfl) rfl (fun x2 H locs e2 hP hD hS => ?_)
  have e2 : x2 = nI 0 := e2
  subst e2
  refine lv_if_ne (tgt := 21) hx hb dX3_undo_16 (by decide) (fun c3 => absurd c3 (by decide)) (fun c3 => ?_)
  refine lv_iconst (v := nI 0) hx hb dX3_undo_19 (by decide) ?_
  refine hret _ _ _ _ _ rfl ?_ (hP) hS dX3_undo_20
  trivial
set_option maxHeartbeats 4000000 in
set_option maxRecDepth 100000 in
theorem m3_append_ok (l : Launch) (D : va_G) (cI : ClassId) (o ps pa pv pn px : Nat) (f fa fv fn fx : Nat → Int32) (B : Nat) (hI : Inv B f) (ns : Nat) (hn : ns ≤ 6) (th kp ln sp wr le wh te : Int32) (dg : Int64) (len cx : Nat) (hlen : len < 60) (hc1 : 33 ≤ cx) (hc2 : cx ≤ 126) (hD : va_D (fun _ => True) (wR o ps pa pv pn px cI (oM ps pa pv pn px th (nI ns) kp (nI len) sp wr le wh te dg) (rr f) fa fv fn fx)) : q_I l yX3_append wsX3_append { frames := 1, cells := 0, slots := 0, locals := 22 } [.ref o, .int (nI cx)] (q_bp D (wR o ps pa pv pn px cI (oM ps pa pv pn px th (nI ns) kp (nI len) sp wr le wh te dg) (rr f) fa fv fn fx) [(cI, .int)]) (fun v => v = nI (1 + len)) (fun H => va_P D vwCl (wR o ps pa pv pn px cI (oM ps pa pv pn px (nI 0) (nI ns) kp (nI (1 + len)) sp wr le wh te dg) (rr f) fa fv fn (upd fx len (nI cx))) H) (AM o ps pa pv pn px) 0 0 := by
  refine q_goI (cc := cX3_append) (maxL := 2) (ty := .int) (lv0 := [(0, .ref o), (1, .int (nI cx))]) (by decide) rfl (Nat.le_of_ble_eq_true rfl) rfl ?_
  intro p e s m args below meth c Q ls hx hb hml hts hown hP hK hl hret
  have hi3 : ∀ w ∈ wsX30, w ∈ wsX3_append := by decide +kernel
  have hfl99 := hts (.fieldLink RX3 99 "WhisperedPotsModel" "length" "I") (by decide +kernel)
  have hfl22 := hts (.fieldLink RX3 22 "WhisperedPotsModel" "text" "[I") (by decide +kernel)
  have hS : va_S (AM o ps pa pv pn px) s.heap s.heap [] := va_S.rf
  have hne : o ≠ ps := fun h => absurd (hD.1 0 1 _ _ rfl rfl h) (by decide)
  refine lv_aload_n hx hb dX3_append_0 rfl (lv_at hl 0 rfl) ?_
  refine lv_iload_n hx hb dX3_append_1 rfl (lv_at hl 1 rfl) ?_
  refine lv_bipush (v := nI 33) hx hb dX3_append_2 (by decide) ?_
  refine lv_bipush (v := nI 126) hx hb dX3_append_4 (by decide) ?_
  refine q_ciR (va_runS (rm := { frames := 0, cells := 0, slots := 0, locals := 0 }) (As := [.int (nI cx), .int (nI 33), .int (nI 126)]) (rest := [.ref o]) ⟨hx, hb, hml, hown, hts⟩ (m3_in l D (nI cx) (nI 33) (nI 126)) (va_cwS 3 hts gX3_append_X3_in rfl rfl rfl (by decide +kernel) ⟨Nat.le_of_ble_eq_true rfl, Nat.le_of_ble_eq_true rfl⟩) (q_pS (hP.sub [] rfl) (hK.sub [] rfl)) rfl rfl hl.1 rfl (lv_room (Nat.le_of_ble_eq_true rfl)) dX3_append_6 ⟨Nat.le_of_ble_eq_true rfl, Nat.le_of_ble_eq_true rfl⟩) hP hS (fun x1 H locs e1 hP hS => ?_)
  have e1 : x1 = nI 1 := by
    have h9 : x1 = p_b (q_in (nI 33) (nI 126) (nI cx)) := e1
    rw [h9, ((q_inN (by omega) (by omega) (by decide)) : q_in (nI 33) (nI 126) (nI cx) = true)]
    rfl
  subst e1
  refine lv_if_ne (tgt := 16) hx hb dX3_append_9 (by decide) (fun c2 => ?_) (fun c2 => absurd c2 (by decide))
  refine lv_aload_n hx hb dX3_append_16 rfl (lv_at hl 0 rfl) ?_
  refine va_get (D := D) (ci := 3) (v := .int (nI len)) (C := RX3) (T := TX3) (N := 15) hx hb hts hi3 hown hK hP 0 rfl rfl 8 (by decide) hfl99 (fun _ h9 => h9) rfl dX3_append_17 ?_
  refine lv_bipush (v := nI 60) hx hb dX3_append_20 (by decide) ?_
  refine q_neN (tgt := 29) hx hb (by omega) (by omega) dX3_append_22 (by decide) (fun c3 => ?_) (fun c3 => absurd c3 (by omega))
  refine lv_iconst (v := nI 0) hx hb dX3_append_29 (by decide) ?_
  refine q_ci1 (i := 0) (ws' := wR o ps pa pv pn px cI (oM ps pa pv pn px (nI 0) (nI ns) kp (nI len) sp wr le wh te dg) (rr f) fa fv fn fx) (va_runV (rm := { frames := 0, cells := 0, slots := 0, locals := 0 }) (As := [.int (nI 0)]) (rest := []) ⟨hx, hb, hml, hown, hts⟩ (m3_holds0 l D cI o (oM ps pa pv pn px th (nI ns) kp (nI len) sp wr le wh te dg) (Nat.le_of_ble_eq_true rfl)) (cwV 1 hts gX3_append_X3_holds rfl rfl rfl (by decide +kernel) ⟨Nat.le_of_ble_eq_true rfl, Nat.le_of_ble_eq_true rfl⟩) (q_pV (ci := 3) (q0 := 0) (hP.sub [0] rfl) (hK.sub [] rfl) rfl rfl) rfl rfl hl.1 rfl (lv_room (Nat.le_of_ble_eq_true rfl)) dX3_append_30 ⟨Nat.le_of_ble_eq_true rfl, Nat.le_of_ble_eq_true rfl⟩) hP hD hS rfl (Or.inl rfl) rfl (fun x4 H locs e4 hP hD hS => ?_)
  have e4 : x4 = nI 1 := e4
  subst e4
  refine lv_if_ne (tgt := 38) hx hb dX3_append_33 (by decide) (fun c5 => ?_) (fun c5 => absurd c5 (by decide))
  refine lv_aload_n hx hb dX3_append_38 rfl (lv_at hl 0 rfl) ?_
  refine va_get (D := D) (ci := 3) (v := .ref px) (C := RX3) (T := TX3) (N := 15) hx hb hts hi3 hown hK hP 0 rfl rfl 7 (by decide) hfl22 (fun _ h9 => h9) rfl dX3_append_39 ?_
  refine lv_aload_n hx hb dX3_append_42 rfl (lv_at hl 0 rfl) ?_
  refine va_get (D := D) (ci := 3) (v := .int (nI len)) (C := RX3) (T := TX3) (N := 15) hx hb hts hi3 hown hK hP 0 rfl rfl 8 (by decide) hfl99 (fun _ h9 => h9) rfl dX3_append_43 ?_
  refine lv_iload_n hx hb dX3_append_46 rfl (lv_at hl 1 rfl) ?_
  refine q_st hx hb hK hP hD hS 5 0 rfl rfl (Or.inr (Or.inr (Or.inr (Or.inr (Or.inr rfl))))) (j := len) (by omega) (by omega) (fun g => wR o ps pa pv pn px cI (oM ps pa pv pn px (nI 0) (nI ns) kp (nI len) sp wr le wh te dg) (rr f) fa fv fn g) (fun _ => rfl) dX3_append_47 (fun H locs f6 hf6 hP hD hS => ?_)
  refine lv_aload_n hx hb dX3_append_48 rfl (lv_at hl 0 rfl) ?_
  refine lv_dup hx hb dX3_append_49 rfl ?_
  refine va_get (D := D) (ci := 3) (v := .int (nI len)) (C := RX3) (T := TX3) (N := 15) hx hb hts hi3 hown hK hP 0 rfl rfl 8 (by decide) hfl99 (fun _ h9 => h9) rfl dX3_append_50 ?_
  refine lv_iconst (v := nI 1) hx hb dX3_append_53 (by decide) ?_
  refine q_addN hx hb (1 + len) (by omega) dX3_append_54 ?_
  refine q_pt (D := D) (ci := 3) (v := .int (nI (1 + len))) (ty := .int) (C := RX3) (T := TX3) (N := 15) hx hb hts hi3 tyX3 tyX3_ok nmX3 hown hK hP hD hS (Or.inl rfl) 0 rfl rfl 8 (by decide) hfl99 (fun _ h9 => h9) rfl (by decide +kernel) rfl rfl (Nat.le_of_ble_eq_true rfl) (ws' := wR o ps pa pv pn px cI (oM ps pa pv pn px (nI 0) (nI ns) kp (nI (1 + len)) sp wr le wh te dg) (rr f) fa fv fn f6) rfl dX3_append_55 (fun H locs hP hD hS => ?_)
  refine lv_aload_n hx hb dX3_append_58 rfl (lv_at hl 0 rfl) ?_
  refine va_get (D := D) (ci := 3) (v := .int (nI (1 + len))) (C := RX3) (T := TX3) (N := 15) hx hb hts hi3 hown hK hP 0 rfl rfl 8 (by decide) hfl99 (fun _ h9 => h9) rfl dX3_append_59 ?_
  rw [hf6] at hP
  refine hret _ _ _ _ _ rfl ?_ (hP) hS dX3_append_62
  rfl
set_option maxHeartbeats 4000000 in
set_option maxRecDepth 100000 in
theorem m3_append_2 (l : Launch) (D : va_G) (cI : ClassId) (o ps pa pv pn px : Nat) (f fa fv fn fx : Nat → Int32) (B : Nat) (hI : Inv B f) (ns : Nat) (hn : ns ≤ 6) (th kp ln sp wr le wh te : Int32) (dg : Int64) (cx : Nat) (hc1 : 33 ≤ cx) (hc2 : cx ≤ 126) (hD : va_D (fun _ => True) (wR o ps pa pv pn px cI (oM ps pa pv pn px th (nI ns) kp (nI 60) sp wr le wh te dg) (rr f) fa fv fn fx)) : q_I l yX3_append wsX3_append { frames := 1, cells := 0, slots := 0, locals := 22 } [.ref o, .int (nI cx)] (q_bp D (wR o ps pa pv pn px cI (oM ps pa pv pn px th (nI ns) kp (nI 60) sp wr le wh te dg) (rr f) fa fv fn fx) [(cI, .int)]) (fun v => True) (fun H => va_P D vwCl (wR o ps pa pv pn px cI (oM ps pa pv pn px (nI 2) (nI ns) kp (nI 60) sp wr le wh te dg) (rr f) fa fv fn fx) H) (AM o ps pa pv pn px) 0 0 := by
  refine q_goI (cc := cX3_append) (maxL := 2) (ty := .int) (lv0 := [(0, .ref o), (1, .int (nI cx))]) (by decide) rfl (Nat.le_of_ble_eq_true rfl) rfl ?_
  intro p e s m args below meth c Q ls hx hb hml hts hown hP hK hl hret
  have hi3 : ∀ w ∈ wsX30, w ∈ wsX3_append := by decide +kernel
  have hfl99 := hts (.fieldLink RX3 99 "WhisperedPotsModel" "length" "I") (by decide +kernel)
  have hfl22 := hts (.fieldLink RX3 22 "WhisperedPotsModel" "text" "[I") (by decide +kernel)
  have hS : va_S (AM o ps pa pv pn px) s.heap s.heap [] := va_S.rf
  have hne : o ≠ ps := fun h => absurd (hD.1 0 1 _ _ rfl rfl h) (by decide)
  refine lv_aload_n hx hb dX3_append_0 rfl (lv_at hl 0 rfl) ?_
  refine lv_iload_n hx hb dX3_append_1 rfl (lv_at hl 1 rfl) ?_
  refine lv_bipush (v := nI 33) hx hb dX3_append_2 (by decide) ?_
  refine lv_bipush (v := nI 126) hx hb dX3_append_4 (by decide) ?_
  refine q_ciR (va_runS (rm := { frames := 0, cells := 0, slots := 0, locals := 0 }) (As := [.int (nI cx), .int (nI 33), .int (nI 126)]) (rest := [.ref o]) ⟨hx, hb, hml, hown, hts⟩ (m3_in l D (nI cx) (nI 33) (nI 126)) (va_cwS 3 hts gX3_append_X3_in rfl rfl rfl (by decide +kernel) ⟨Nat.le_of_ble_eq_true rfl, Nat.le_of_ble_eq_true rfl⟩) (q_pS (hP.sub [] rfl) (hK.sub [] rfl)) rfl rfl hl.1 rfl (lv_room (Nat.le_of_ble_eq_true rfl)) dX3_append_6 ⟨Nat.le_of_ble_eq_true rfl, Nat.le_of_ble_eq_true rfl⟩) hP hS (fun x1 H locs e1 hP hS => ?_)
  have e1 : x1 = nI 1 := by
    have h9 : x1 = p_b (q_in (nI 33) (nI 126) (nI cx)) := e1
    rw [h9, ((q_inN (by omega) (by omega) (by decide)) : q_in (nI 33) (nI 126) (nI cx) = true)]
    rfl
  subst e1
  refine lv_if_ne (tgt := 16) hx hb dX3_append_9 (by decide) (fun c2 => ?_) (fun c2 => absurd c2 (by decide))
  refine lv_aload_n hx hb dX3_append_16 rfl (lv_at hl 0 rfl) ?_
  refine va_get (D := D) (ci := 3) (v := .int (nI 60)) (C := RX3) (T := TX3) (N := 15) hx hb hts hi3 hown hK hP 0 rfl rfl 8 (by decide) hfl99 (fun _ h9 => h9) rfl dX3_append_17 ?_
  refine lv_bipush (v := nI 60) hx hb dX3_append_20 (by decide) ?_
  refine q_neN (tgt := 29) hx hb (by omega) (by omega) dX3_append_22 (by decide) (fun c3 => absurd c3 (by decide)) (fun c3 => ?_)
  refine lv_iconst (v := nI 2) hx hb dX3_append_25 (by decide) ?_
  refine lv_goto (tgt := 30) hx hb dX3_append_26 (by decide) ?_
  refine q_ci1 (i := 0) (ws' := wR o ps pa pv pn px cI (oM ps pa pv pn px (nI 2) (nI ns) kp (nI 60) sp wr le wh te dg) (rr f) fa fv fn fx) (va_runV (rm := { frames := 0, cells := 0, slots := 0, locals := 0 }) (As := [.int (nI 2)]) (rest := []) ⟨hx, hb, hml, hown, hts⟩ (m3_holds2 l D cI o (oM ps pa pv pn px th (nI ns) kp (nI 60) sp wr le wh te dg) (Nat.le_of_ble_eq_true rfl)) (cwV 1 hts gX3_append_X3_holds rfl rfl rfl (by decide +kernel) ⟨Nat.le_of_ble_eq_true rfl, Nat.le_of_ble_eq_true rfl⟩) (q_pV (ci := 3) (q0 := 0) (hP.sub [0] rfl) (hK.sub [] rfl) rfl rfl) rfl rfl hl.1 rfl (lv_room (Nat.le_of_ble_eq_true rfl)) dX3_append_30 ⟨Nat.le_of_ble_eq_true rfl, Nat.le_of_ble_eq_true rfl⟩) hP hD hS rfl (Or.inl rfl) rfl (fun x4 H locs e4 hP hD hS => ?_)
  have e4 : x4 = nI 0 := e4
  subst e4
  refine lv_if_ne (tgt := 38) hx hb dX3_append_33 (by decide) (fun c5 => absurd c5 (by decide)) (fun c5 => ?_)
  refine lv_iconst (v := nI 0) hx hb dX3_append_36 (by decide) ?_
  refine hret _ _ _ _ _ rfl ?_ (hP) hS dX3_append_37
  trivial
set_option maxHeartbeats 4000000 in
set_option maxRecDepth 100000 in
theorem m3_append_1 (l : Launch) (D : va_G) (cI : ClassId) (o ps pa pv pn px : Nat) (f fa fv fn fx : Nat → Int32) (B : Nat) (hI : Inv B f) (ns : Nat) (hn : ns ≤ 6) (th kp ln sp wr le wh te : Int32) (dg : Int64) (x0 : Int32) (h0q : q_in (nI 33) (nI 126) x0 = false) (hD : va_D (fun _ => True) (wR o ps pa pv pn px cI (oM ps pa pv pn px th (nI ns) kp ln sp wr le wh te dg) (rr f) fa fv fn fx)) : q_I l yX3_append wsX3_append { frames := 1, cells := 0, slots := 0, locals := 22 } [.ref o, .int x0] (q_bp D (wR o ps pa pv pn px cI (oM ps pa pv pn px th (nI ns) kp ln sp wr le wh te dg) (rr f) fa fv fn fx) [(cI, .int)]) (fun v => True) (fun H => va_P D vwCl (wR o ps pa pv pn px cI (oM ps pa pv pn px (nI 1) (nI ns) kp ln sp wr le wh te dg) (rr f) fa fv fn fx) H) (AM o ps pa pv pn px) 0 0 := by
  refine q_goI (cc := cX3_append) (maxL := 2) (ty := .int) (lv0 := [(0, .ref o), (1, .int x0)]) (by decide) rfl (Nat.le_of_ble_eq_true rfl) rfl ?_
  intro p e s m args below meth c Q ls hx hb hml hts hown hP hK hl hret
  have hi3 : ∀ w ∈ wsX30, w ∈ wsX3_append := by decide +kernel
  have hfl99 := hts (.fieldLink RX3 99 "WhisperedPotsModel" "length" "I") (by decide +kernel)
  have hfl22 := hts (.fieldLink RX3 22 "WhisperedPotsModel" "text" "[I") (by decide +kernel)
  have hS : va_S (AM o ps pa pv pn px) s.heap s.heap [] := va_S.rf
  have hne : o ≠ ps := fun h => absurd (hD.1 0 1 _ _ rfl rfl h) (by decide)
  refine lv_aload_n hx hb dX3_append_0 rfl (lv_at hl 0 rfl) ?_
  refine lv_iload_n hx hb dX3_append_1 rfl (lv_at hl 1 rfl) ?_
  refine lv_bipush (v := nI 33) hx hb dX3_append_2 (by decide) ?_
  refine lv_bipush (v := nI 126) hx hb dX3_append_4 (by decide) ?_
  refine q_ciR (va_runS (rm := { frames := 0, cells := 0, slots := 0, locals := 0 }) (As := [.int x0, .int (nI 33), .int (nI 126)]) (rest := [.ref o]) ⟨hx, hb, hml, hown, hts⟩ (m3_in l D x0 (nI 33) (nI 126)) (va_cwS 3 hts gX3_append_X3_in rfl rfl rfl (by decide +kernel) ⟨Nat.le_of_ble_eq_true rfl, Nat.le_of_ble_eq_true rfl⟩) (q_pS (hP.sub [] rfl) (hK.sub [] rfl)) rfl rfl hl.1 rfl (lv_room (Nat.le_of_ble_eq_true rfl)) dX3_append_6 ⟨Nat.le_of_ble_eq_true rfl, Nat.le_of_ble_eq_true rfl⟩) hP hS (fun x1 H locs e1 hP hS => ?_)
  have e1 : x1 = nI 0 := by
    have h9 : x1 = p_b (q_in (nI 33) (nI 126) x0) := e1
    rw [h9, (h0q : q_in (nI 33) (nI 126) x0 = false)]
    rfl
  subst e1
  refine lv_if_ne (tgt := 16) hx hb dX3_append_9 (by decide) (fun c2 => absurd c2 (by decide)) (fun c2 => ?_)
  refine lv_iconst (v := nI 1) hx hb dX3_append_12 (by decide) ?_
  refine lv_goto (tgt := 30) hx hb dX3_append_13 (by decide) ?_
  refine q_ci1 (i := 0) (ws' := wR o ps pa pv pn px cI (oM ps pa pv pn px (nI 1) (nI ns) kp ln sp wr le wh te dg) (rr f) fa fv fn fx) (va_runV (rm := { frames := 0, cells := 0, slots := 0, locals := 0 }) (As := [.int (nI 1)]) (rest := []) ⟨hx, hb, hml, hown, hts⟩ (m3_holds1 l D cI o (oM ps pa pv pn px th (nI ns) kp ln sp wr le wh te dg) (Nat.le_of_ble_eq_true rfl)) (cwV 1 hts gX3_append_X3_holds rfl rfl rfl (by decide +kernel) ⟨Nat.le_of_ble_eq_true rfl, Nat.le_of_ble_eq_true rfl⟩) (q_pV (ci := 3) (q0 := 0) (hP.sub [0] rfl) (hK.sub [] rfl) rfl rfl) rfl rfl hl.1 rfl (lv_room (Nat.le_of_ble_eq_true rfl)) dX3_append_30 ⟨Nat.le_of_ble_eq_true rfl, Nat.le_of_ble_eq_true rfl⟩) hP hD hS rfl (Or.inl rfl) rfl (fun x3 H locs e3 hP hD hS => ?_)
  have e3 : x3 = nI 0 := e3
  subst e3
  refine lv_if_ne (tgt := 38) hx hb dX3_append_33 (by decide) (fun c4 => absurd c4 (by decide)) (fun c4 => ?_)
  refine lv_iconst (v := nI 0) hx hb dX3_append_36 (by decide) ?_
  refine hret _ _ _ _ _ rfl ?_ (hP) hS dX3_append_37
  trivial
set_option maxHeartbeats 4000000 in
set_option maxRecDepth 100000 in
theorem m3_clearBuffer_ok (l : Launch) (D : va_G) (cI : ClassId) (o ps pa pv pn px : Nat) (f fa fv fn fx : Nat → Int32) (B : Nat) (hI : Inv B f) (ns : Nat) (hn : ns ≤ 6) (th kp ln sp wr le wh te : Int32) (dg : Int64)  (hD : va_D (fun _ => True) (wR o ps pa pv pn px cI (oM ps pa pv pn px th (nI ns) kp ln sp wr le wh te dg) (rr f) fa fv fn fx)) : q_I l yX3_clearBuffer wsX3_clearBuffer { frames := 0, cells := 0, slots := 0, locals := 0 } [.ref o] (q_bp D (wR o ps pa pv pn px cI (oM ps pa pv pn px th (nI ns) kp ln sp wr le wh te dg) (rr f) fa fv fn fx) [(cI, .int)]) (fun v => v = ln) (fun H => va_P D vwCl (wR o ps pa pv pn px cI (oM ps pa pv pn px (nI 0) (nI ns) kp (nI 0) sp wr le wh te dg) (rr f) fa fv fn fx) H) (AM o ps pa pv pn px) 0 0 := by
  refine q_goI (cc := cX3_clearBuffer) (maxL := 2) (ty := .int) (lv0 := [(0, .ref o)]) (by decide) rfl (Nat.le_of_ble_eq_true rfl) rfl ?_
  intro p e s m args below meth c Q ls hx hb hml hts hown hP hK hl hret
  have hi3 : ∀ w ∈ wsX30, w ∈ wsX3_clearBuffer := by decide +kernel
  have hfl32 := hts (.fieldLink RX3 32 "WhisperedPotsModel" "thrown" "I") (by decide +kernel)
  have hfl99 := hts (.fieldLink RX3 99 "WhisperedPotsModel" "length" "I") (by decide +kernel)
  have hS : va_S (AM o ps pa pv pn px) s.heap s.heap [] := va_S.rf
  have hne : o ≠ ps := fun h => absurd (hD.1 0 1 _ _ rfl rfl h) (by decide)
  refine lv_aload_n hx hb dX3_clearBuffer_0 rfl (lv_at hl 0 rfl) ?_
  refine lv_iconst (v := nI 0) hx hb dX3_clearBuffer_1 (by decide) ?_
  refine q_pt (D := D) (ci := 3) (v := .int (nI 0)) (ty := .int) (C := RX3) (T := TX3) (N := 15) hx hb hts hi3 tyX3 tyX3_ok nmX3 hown hK hP hD hS (Or.inl rfl) 0 rfl rfl 0 (by decide) hfl32 (fun _ h9 => h9) rfl (by decide +kernel) rfl rfl (Nat.le_of_ble_eq_true rfl) (ws' := wR o ps pa pv pn px cI (oM ps pa pv pn px (nI 0) (nI ns) kp ln sp wr le wh te dg) (rr f) fa fv fn fx) rfl dX3_clearBuffer_2 (fun H locs hP hD hS => ?_)
  refine lv_aload_n hx hb dX3_clearBuffer_5 rfl (lv_at hl 0 rfl) ?_
  refine va_get (D := D) (ci := 3) (v := .int ln) (C := RX3) (T := TX3) (N := 15) hx hb hts hi3 hown hK hP 0 rfl rfl 8 (by decide) hfl99 (fun _ h9 => h9) rfl dX3_clearBuffer_6 ?_
  refine lv_istore_n (lv' := [(1, .int ln), (0, .ref o)]) hx hb dX3_clearBuffer_9 rfl hl (by decide) rfl (fun ls hl => ?_)
  refine lv_aload_n hx hb dX3_clearBuffer_10 rfl (lv_at hl 1 rfl) ?_
  refine lv_iconst (v := nI 0) hx hb dX3_clearBuffer_11 (by decide) ?_
  refine q_pt (D := D) (ci := 3) (v := .int (nI 0)) (ty := .int) (C := RX3) (T := TX3) (N := 15) hx hb hts hi3 tyX3 tyX3_ok nmX3 hown hK hP hD hS (Or.inl rfl) 0 rfl rfl 8 (by decide) hfl99 (fun _ h9 => h9) rfl (by decide +kernel) rfl rfl (Nat.le_of_ble_eq_true rfl) (ws' := wR o ps pa pv pn px cI (oM ps pa pv pn px (nI 0) (nI ns) kp (nI 0) sp wr le wh te dg) (rr f) fa fv fn fx) rfl dX3_clearBuffer_12 (fun H locs hP hD hS => ?_)
  refine lv_iload_n hx hb dX3_clearBuffer_15 rfl (lv_at hl 0 rfl) ?_
  refine hret _ _ _ _ _ rfl ?_ (hP) hS dX3_clearBuffer_16
  rfl
set_option maxHeartbeats 4000000 in
set_option maxRecDepth 100000 in
theorem m3_thrown (l : Launch) (D : va_G) (cI : ClassId) (o ps pa pv pn px : Nat) (f fa fv fn fx : Nat → Int32) (th mn kp ln sp wr le wh te : Int32) (dg : Int64) (hD : va_D (fun _ => True) (wR o ps pa pv pn px cI (oM ps pa pv pn px th mn kp ln sp wr le wh te dg) (rr f) fa fv fn fx)) : q_I l yX3_thrown wsX3_thrown { frames := 0, cells := 0, slots := 0, locals := 0 } [.ref o] (q_bp D (wR o ps pa pv pn px cI (oM ps pa pv pn px th mn kp ln sp wr le wh te dg) (rr f) fa fv fn fx) [(cI, .int)]) (fun v => v = th) (fun H => va_P D vwCl (wR o ps pa pv pn px cI (oM ps pa pv pn px th mn kp ln sp wr le wh te dg) (rr f) fa fv fn fx) H) (AM o ps pa pv pn px) 0 0 := by
  refine q_goI (cc := cX3_thrown) (maxL := 1) (ty := .int) (lv0 := [(0, .ref o)]) (by decide) rfl (Nat.le_of_ble_eq_true rfl) rfl ?_
  intro p e s m args below meth c Q ls hx hb hml hts hown hP hK hl hret
  have hi3 : ∀ w ∈ wsX30, w ∈ wsX3_thrown := by decide +kernel
  have hfl32 := hts (.fieldLink RX3 32 "WhisperedPotsModel" "thrown" "I") (by decide +kernel)
  have hS : va_S (AM o ps pa pv pn px) s.heap s.heap [] := va_S.rf
  refine lv_aload_n hx hb dX3_thrown_0 rfl (lv_at hl 0 rfl) ?_
  refine va_get (D := D) (ci := 3) (v := .int th) (C := RX3) (T := TX3) (N := 15) hx hb hts hi3 hown hK hP 0 rfl rfl 0 (by decide) hfl32 (fun _ h9 => h9) rfl dX3_thrown_1 ?_
  refine hret _ _ _ _ _ rfl ?_ (hP) hS dX3_thrown_4
  rfl
