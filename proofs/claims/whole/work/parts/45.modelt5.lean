theorem cpl_eq (ch : Nat → Nat) (len : Nat) (S : PS) : p_cpl ch len S = (decide (len ≤ p_fw ch len 0 (0, S.2)) && p_dn (p_fe ch len 0 (0, S.2))) := rfl
theorem cpl_t {ch : Nat → Nat} {len : Nat} {S : PS} (te : Nat) (h : p_cpl ch len S = true) : (gt ch len (len + 1) 0 te).2 = false := by
  have hg := gt_ok (ch := ch) (len := len) (len + 1) 0 te S.2.1 S.2.2.1 S.2.2.2 (Nat.zero_le _) (by omega)
  cases hb : (gt ch len (len + 1) 0 te).2 with
  | false => rfl
  | true =>
    have := (hg.1 hb).2
    rw [cpl_eq] at h
    exact absurd (this.symm.trans h) (by decide)
theorem cpl_f {ch : Nat → Nat} {len : Nat} {S : PS} (te : Nat) (h : p_cpl ch len S = false) : (gt ch len (len + 1) 0 te).2 = true := by
  have hg := gt_ok (ch := ch) (len := len) (len + 1) 0 te S.2.1 S.2.2.1 S.2.2.2 (Nat.zero_le _) (by omega)
  cases hb : (gt ch len (len + 1) 0 te).2 with
  | true => rfl
  | false =>
    have h2 := hg.2 hb
    rw [cpl_eq] at h
    have h3 : (decide (len ≤ p_fw ch len 0 (0, S.2)) && p_dn (p_fe ch len 0 (0, S.2))) = true := by
      have e1 : p_fw ch len 0 (0, S.2) = len := h2.1
      have e2 : p_dn (p_fe ch len 0 (0, S.2)) = true := h2.2
      rw [e1, e2, decide_eq_true (Nat.le_refl _)]; rfl
    exact absurd (h3.symm.trans h) (by decide)
theorem cpl_d {ch : Nat → Nat} {len : Nat} {S : PS} (te : Nat) (f : Nat → Int32) (h : p_cpl ch len S = true) : gd ch len (len + 1) 0 te f = xr ch len len 0 (0, S.2) f := by
  have hg := (gt_ok (ch := ch) (len := len) (len + 1) 0 te S.2.1 S.2.2.1 S.2.2.2 (Nat.zero_le _) (by omega)).2 (cpl_t te h)
  exact gd_ok (len + 1) 0 te S.2.1 S.2.2.1 S.2.2.2 f (Nat.zero_le _) (by omega) hg.1 hg.2
theorem fw_g1 {ch : Nat → Nat} {len : Nat} (S : PS) {te : Nat} (h : (gt ch len (len + 1) 0 te).2 = true) : (gt ch len (len + 1) 0 te).1 = p_fw ch len 0 (0, S.2) :=
  (((gt_ok (ch := ch) (len := len) (len + 1) 0 te S.2.1 S.2.2.1 S.2.2.2 (Nat.zero_le _) (by omega)).1 h).1).symm
theorem fw_g2 {ch : Nat → Nat} {len : Nat} (S : PS) {te : Nat} (h : (gt ch len (len + 1) 0 te).2 = false) : len = p_fw ch len 0 (0, S.2) :=
  (((gt_ok (ch := ch) (len := len) (len + 1) 0 te S.2.1 S.2.2.1 S.2.2.2 (Nat.zero_le _) (by omega)).2 h).1).symm
set_option maxHeartbeats 4000000 in
set_option maxRecDepth 100000 in
theorem m3_firstError_1 (l : Launch) (D : va_G) (cI : ClassId) (o ps pa pv pn px : Nat) (f fa fv fn fx : Nat → Int32) (th mn kp sp wr le wh : Int32) (dg : Int64) (tz0 : Nat) (ch : Nat → Nat) (len : Nat) (hlen : len ≤ 60) (hfx : ∀ j, j < len → fx j = nI (ch j)) (hch : ∀ j, j < len → ch j < 128) (S : PS) (hg : (gt ch len (len + 1) 0 tz0).2 = true)  (hD : va_D (fun _ => True) (wR o ps pa pv pn px cI (oM ps pa pv pn px th mn kp (nI len) sp wr le wh (nI tz0) dg) (rr f) fa fv fn fx)) : q_I l yX3_firstError wsX3_firstError { frames := 9, cells := 0, slots := 0, locals := 204 } [.ref o] (q_bp D (wR o ps pa pv pn px cI (oM ps pa pv pn px th mn kp (nI len) sp wr le wh (nI tz0) dg) (rr f) fa fv fn fx) [(cI, .int)]) (fun v => v = nI (p_fw ch len 0 (0, S.2))) (fun H => ∃ (sp wr le wh : Int32) (tz : Nat), va_P D vwCl (wR o ps pa pv pn px cI (oM ps pa pv pn px (nI 0) mn kp (nI len) sp wr le wh (nI tz) dg) (rr f) fa fv fn fx) H) (AM o ps pa pv pn px) 0 0 := by
  refine q_goI (cc := cX3_firstError) (maxL := 2) (ty := .int) (lv0 := [(0, .ref o)]) (by decide) rfl (Nat.le_of_ble_eq_true rfl) rfl ?_
  intro p e s m args below meth c Q ls hx hb hml hts hown hP hK hl hret
  have hi3 : ∀ w ∈ wsX30, w ∈ wsX3_firstError := by decide +kernel
  have hfl32 := hts (.fieldLink RX3 32 "WhisperedPotsModel" "thrown" "I") (by decide +kernel)
  have hfl102 := hts (.fieldLink RX3 102 "WhisperedPotsModel" "isWrong" "Z") (by decide +kernel)
  have hfl106 := hts (.fieldLink RX3 106 "WhisperedPotsModel" "spot" "I") (by decide +kernel)
  have hfl99 := hts (.fieldLink RX3 99 "WhisperedPotsModel" "length" "I") (by decide +kernel)
  have hS : va_S (AM o ps pa pv pn px) s.heap s.heap [] := va_S.rf
  have hne : o ≠ ps := fun h => absurd (hD.1 0 1 _ _ rfl rfl h) (by decide)
  refine lv_aload_n hx hb dX3_firstError_0 rfl (lv_at hl 0 rfl) ?_
  refine lv_iconst (v := nI 0) hx hb dX3_firstError_1 (by decide) ?_
  refine q_pt (D := D) (ci := 3) (v := .int (nI 0)) (ty := .int) (C := RX3) (T := TX3) (N := 15) hx hb hts hi3 tyX3 tyX3_ok nmX3 hown hK hP hD hS (Or.inl rfl) 0 rfl rfl 0 (by decide) hfl32 (fun _ h9 => h9) rfl (by decide +kernel) rfl rfl (Nat.le_of_ble_eq_true rfl) (ws' := wR o ps pa pv pn px cI (oM ps pa pv pn px (nI 0) mn kp (nI len) sp wr le wh (nI tz0) dg) (rr f) fa fv fn fx) rfl dX3_firstError_2 (fun H locs hP hD hS => ?_)
  refine lv_aload_n hx hb dX3_firstError_5 rfl (lv_at hl 0 rfl) ?_
  refine lv_iconst (v := nI 0) hx hb dX3_firstError_6 (by decide) ?_
  refine q_ciF (BH := fun H => ∃ (le1 wh1 : Int32) (tz1 : Nat), va_P D vwCl (wR o ps pa pv pn px cI (oM ps pa pv pn px (nI 0) mn kp (nI len) (nI ((gt ch len (len + 1) 0 tz0).1)) (p_b (gt ch len (len + 1) 0 tz0).2) le1 wh1 (nI tz1) dg) (rr f) fa fv fn fx) H) (va_runV (rm := { frames := 8, cells := 0, slots := 0, locals := 180 }) (As := [.int (nI 0)]) (rest := []) ⟨hx, hb, hml, hown, hts⟩ (m3_goesThrough0 l D cI o ps pa pv pn px f fa fv fn fx (nI 0) mn kp sp wr le wh dg tz0 ch len hlen hfx hch hD) (cwV 1 hts gX3_firstError_X3_goesThrough rfl rfl rfl (by decide +kernel) ⟨Nat.le_of_ble_eq_true rfl, Nat.le_of_ble_eq_true rfl⟩) (q_pV (ci := 3) (q0 := 0) hP hK rfl rfl) rfl rfl hl.1 rfl (lv_room (Nat.le_of_ble_eq_true rfl)) dX3_firstError_7 ⟨Nat.le_of_ble_eq_true rfl, Nat.le_of_ble_eq_true rfl⟩) (fun _ h => h) hS (fun _ h => h) (fun x1 H locs e1 hP hS => ?_)
  obtain ⟨le1, wh1, tz1, hP⟩ := hP
  have hgt : (gt ch len (len + 1) 0 tz0).2 = true := by exact hg
  rw [hgt] at hP
  have hP : va_P D vwCl (wR o ps pa pv pn px cI (oM ps pa pv pn px (nI 0) mn kp (nI len) (nI ((gt ch len (len + 1) 0 tz0).1)) (nI 1) le1 wh1 (nI tz1) dg) (rr f) fa fv fn fx) H := hP
  have hD := q_D2 (ws' := wR o ps pa pv pn px cI (oM ps pa pv pn px (nI 0) mn kp (nI len) (nI ((gt ch len (len + 1) 0 tz0).1)) (nI 1) le1 wh1 (nI tz1) dg) (rr f) fa fv fn fx) hD rfl
  refine lv_istore_n (lv' := [(1, .int x1), (0, .ref o)]) hx hb dX3_firstError_10 rfl hl (by decide) rfl (fun ls hl => ?_)
  refine lv_aload_n hx hb dX3_firstError_11 rfl (lv_at hl 1 rfl) ?_
  refine va_get (D := D) (ci := 3) (v := .int (nI 1)) (C := RX3) (T := TX3) (N := 15) hx hb hts hi3 hown hK hP 0 rfl rfl 10 (by decide) hfl102 (fun _ h9 => h9) rfl dX3_firstError_12 ?_
  refine lv_if_eq (tgt := 25) hx hb dX3_firstError_15 (by decide) (fun c2 => absurd c2 (by decide)) (fun c2 => ?_)
  refine lv_aload_n hx hb dX3_firstError_18 rfl (lv_at hl 1 rfl) ?_
  refine va_get (D := D) (ci := 3) (v := .int (nI ((gt ch len (len + 1) 0 tz0).1))) (C := RX3) (T := TX3) (N := 15) hx hb hts hi3 hown hK hP 0 rfl rfl 9 (by decide) hfl106 (fun _ h9 => h9) rfl dX3_firstError_19 ?_
  refine lv_goto (tgt := 29) hx hb dX3_firstError_22 (by decide) ?_
  refine hret _ _ _ _ _ rfl ?_ (⟨_, _, _, _, _, hP⟩) hS dX3_firstError_29
  rw [← fw_g1 S hg]
set_option maxHeartbeats 4000000 in
set_option maxRecDepth 100000 in
theorem m3_firstError_0 (l : Launch) (D : va_G) (cI : ClassId) (o ps pa pv pn px : Nat) (f fa fv fn fx : Nat → Int32) (th mn kp sp wr le wh : Int32) (dg : Int64) (tz0 : Nat) (ch : Nat → Nat) (len : Nat) (hlen : len ≤ 60) (hfx : ∀ j, j < len → fx j = nI (ch j)) (hch : ∀ j, j < len → ch j < 128) (S : PS) (hg : (gt ch len (len + 1) 0 tz0).2 = false)  (hD : va_D (fun _ => True) (wR o ps pa pv pn px cI (oM ps pa pv pn px th mn kp (nI len) sp wr le wh (nI tz0) dg) (rr f) fa fv fn fx)) : q_I l yX3_firstError wsX3_firstError { frames := 9, cells := 0, slots := 0, locals := 204 } [.ref o] (q_bp D (wR o ps pa pv pn px cI (oM ps pa pv pn px th mn kp (nI len) sp wr le wh (nI tz0) dg) (rr f) fa fv fn fx) [(cI, .int)]) (fun v => v = nI (p_fw ch len 0 (0, S.2))) (fun H => ∃ (sp wr le wh : Int32) (tz : Nat), va_P D vwCl (wR o ps pa pv pn px cI (oM ps pa pv pn px (nI 0) mn kp (nI len) sp wr le wh (nI tz) dg) (rr f) fa fv fn fx) H) (AM o ps pa pv pn px) 0 0 := by
  refine q_goI (cc := cX3_firstError) (maxL := 2) (ty := .int) (lv0 := [(0, .ref o)]) (by decide) rfl (Nat.le_of_ble_eq_true rfl) rfl ?_
  intro p e s m args below meth c Q ls hx hb hml hts hown hP hK hl hret
  have hi3 : ∀ w ∈ wsX30, w ∈ wsX3_firstError := by decide +kernel
  have hfl32 := hts (.fieldLink RX3 32 "WhisperedPotsModel" "thrown" "I") (by decide +kernel)
  have hfl102 := hts (.fieldLink RX3 102 "WhisperedPotsModel" "isWrong" "Z") (by decide +kernel)
  have hfl106 := hts (.fieldLink RX3 106 "WhisperedPotsModel" "spot" "I") (by decide +kernel)
  have hfl99 := hts (.fieldLink RX3 99 "WhisperedPotsModel" "length" "I") (by decide +kernel)
  have hS : va_S (AM o ps pa pv pn px) s.heap s.heap [] := va_S.rf
  have hne : o ≠ ps := fun h => absurd (hD.1 0 1 _ _ rfl rfl h) (by decide)
  refine lv_aload_n hx hb dX3_firstError_0 rfl (lv_at hl 0 rfl) ?_
  refine lv_iconst (v := nI 0) hx hb dX3_firstError_1 (by decide) ?_
  refine q_pt (D := D) (ci := 3) (v := .int (nI 0)) (ty := .int) (C := RX3) (T := TX3) (N := 15) hx hb hts hi3 tyX3 tyX3_ok nmX3 hown hK hP hD hS (Or.inl rfl) 0 rfl rfl 0 (by decide) hfl32 (fun _ h9 => h9) rfl (by decide +kernel) rfl rfl (Nat.le_of_ble_eq_true rfl) (ws' := wR o ps pa pv pn px cI (oM ps pa pv pn px (nI 0) mn kp (nI len) sp wr le wh (nI tz0) dg) (rr f) fa fv fn fx) rfl dX3_firstError_2 (fun H locs hP hD hS => ?_)
  refine lv_aload_n hx hb dX3_firstError_5 rfl (lv_at hl 0 rfl) ?_
  refine lv_iconst (v := nI 0) hx hb dX3_firstError_6 (by decide) ?_
  refine q_ciF (BH := fun H => ∃ (le1 wh1 : Int32) (tz1 : Nat), va_P D vwCl (wR o ps pa pv pn px cI (oM ps pa pv pn px (nI 0) mn kp (nI len) (nI ((gt ch len (len + 1) 0 tz0).1)) (p_b (gt ch len (len + 1) 0 tz0).2) le1 wh1 (nI tz1) dg) (rr f) fa fv fn fx) H) (va_runV (rm := { frames := 8, cells := 0, slots := 0, locals := 180 }) (As := [.int (nI 0)]) (rest := []) ⟨hx, hb, hml, hown, hts⟩ (m3_goesThrough0 l D cI o ps pa pv pn px f fa fv fn fx (nI 0) mn kp sp wr le wh dg tz0 ch len hlen hfx hch hD) (cwV 1 hts gX3_firstError_X3_goesThrough rfl rfl rfl (by decide +kernel) ⟨Nat.le_of_ble_eq_true rfl, Nat.le_of_ble_eq_true rfl⟩) (q_pV (ci := 3) (q0 := 0) hP hK rfl rfl) rfl rfl hl.1 rfl (lv_room (Nat.le_of_ble_eq_true rfl)) dX3_firstError_7 ⟨Nat.le_of_ble_eq_true rfl, Nat.le_of_ble_eq_true rfl⟩) (fun _ h => h) hS (fun _ h => h) (fun x1 H locs e1 hP hS => ?_)
  obtain ⟨le1, wh1, tz1, hP⟩ := hP
  have hgt : (gt ch len (len + 1) 0 tz0).2 = false := by exact hg
  rw [hgt] at hP
  have hP : va_P D vwCl (wR o ps pa pv pn px cI (oM ps pa pv pn px (nI 0) mn kp (nI len) (nI ((gt ch len (len + 1) 0 tz0).1)) (nI 0) le1 wh1 (nI tz1) dg) (rr f) fa fv fn fx) H := hP
  have hD := q_D2 (ws' := wR o ps pa pv pn px cI (oM ps pa pv pn px (nI 0) mn kp (nI len) (nI ((gt ch len (len + 1) 0 tz0).1)) (nI 0) le1 wh1 (nI tz1) dg) (rr f) fa fv fn fx) hD rfl
  refine lv_istore_n (lv' := [(1, .int x1), (0, .ref o)]) hx hb dX3_firstError_10 rfl hl (by decide) rfl (fun ls hl => ?_)
  refine lv_aload_n hx hb dX3_firstError_11 rfl (lv_at hl 1 rfl) ?_
  refine va_get (D := D) (ci := 3) (v := .int (nI 0)) (C := RX3) (T := TX3) (N := 15) hx hb hts hi3 hown hK hP 0 rfl rfl 10 (by decide) hfl102 (fun _ h9 => h9) rfl dX3_firstError_12 ?_
  refine lv_if_eq (tgt := 25) hx hb dX3_firstError_15 (by decide) (fun c2 => ?_) (fun c2 => absurd c2 (by decide))
  refine lv_aload_n hx hb dX3_firstError_25 rfl (lv_at hl 1 rfl) ?_
  refine va_get (D := D) (ci := 3) (v := .int (nI len)) (C := RX3) (T := TX3) (N := 15) hx hb hts hi3 hown hK hP 0 rfl rfl 8 (by decide) hfl99 (fun _ h9 => h9) rfl dX3_firstError_26 ?_
  refine hret _ _ _ _ _ rfl ?_ (⟨_, _, _, _, _, hP⟩) hS dX3_firstError_29
  rw [← fw_g2 S hg]
theorem m3_firstError (l : Launch) (D : va_G) (cI : ClassId) (o ps pa pv pn px : Nat) (f fa fv fn fx : Nat → Int32) (th mn kp sp wr le wh : Int32) (dg : Int64) (tz0 : Nat) (ch : Nat → Nat) (len : Nat) (hlen : len ≤ 60) (hfx : ∀ j, j < len → fx j = nI (ch j)) (hch : ∀ j, j < len → ch j < 128) (S : PS)  (hD : va_D (fun _ => True) (wR o ps pa pv pn px cI (oM ps pa pv pn px th mn kp (nI len) sp wr le wh (nI tz0) dg) (rr f) fa fv fn fx)) : q_I l yX3_firstError wsX3_firstError { frames := 9, cells := 0, slots := 0, locals := 204 } [.ref o] (q_bp D (wR o ps pa pv pn px cI (oM ps pa pv pn px th mn kp (nI len) sp wr le wh (nI tz0) dg) (rr f) fa fv fn fx) [(cI, .int)]) (fun v => v = nI (p_fw ch len 0 (0, S.2))) (fun H => ∃ (sp wr le wh : Int32) (tz : Nat), va_P D vwCl (wR o ps pa pv pn px cI (oM ps pa pv pn px (nI 0) mn kp (nI len) sp wr le wh (nI tz) dg) (rr f) fa fv fn fx) H) (AM o ps pa pv pn px) 0 0 := by
  cases hg : (gt ch len (len + 1) 0 tz0).2 with
  | true => exact m3_firstError_1 l D cI o ps pa pv pn px f fa fv fn fx th mn kp sp wr le wh dg tz0 ch len hlen hfx hch S hg hD
  | false => exact m3_firstError_0 l D cI o ps pa pv pn px f fa fv fn fx th mn kp sp wr le wh dg tz0 ch len hlen hfx hch S hg hD
set_option maxHeartbeats 4000000 in
set_option maxRecDepth 100000 in
theorem m3_run_ok (l : Launch) (D : va_G) (cI : ClassId) (o ps pa pv pn px : Nat) (f fa fv fn fx : Nat → Int32) (ns : Nat) (hn : ns ≤ 6) (th kp sp wr le wh : Int32) (dg : Int64) (tz0 : Nat) (ch : Nat → Nat) (len : Nat) (hlen : len ≤ 60) (hfx : ∀ j, j < len → fx j = nI (ch j)) (hch : ∀ j, j < len → ch j < 128) (S : PS) (B : Nat) (hI : Inv B f) (hB : B + 200000 < 2000000000) (hc : p_cpl ch len S = true) (hD : va_D (fun _ => True) (wR o ps pa pv pn px cI (oM ps pa pv pn px th (nI ns) kp (nI len) sp wr le wh (nI tz0) dg) (rr f) fa fv fn fx)) : q_I l yX3_run wsX3_run { frames := 9, cells := 0, slots := 0, locals := 204 } [.ref o] (q_bp D (wR o ps pa pv pn px cI (oM ps pa pv pn px th (nI ns) kp (nI len) sp wr le wh (nI tz0) dg) (rr f) fa fv fn fx) [(cI, .int)]) (fun v => v = nI (xr ch len len 0 (0, S.2) f).1) (fun H => ∃ (sp wr le wh : Int32) (tz : Nat), va_P D vwCl (wR o ps pa pv pn px cI (oM ps pa pv pn px (nI 0) (nI ((svn ns))) kp (nI 0) sp wr le wh (nI tz) dg) (rr (xr ch len len 0 (0, S.2) f).2) fa (svf ns fv (rr f)) fn fx) H) (AM o ps pa pv pn px) 0 0 := by
  refine q_goI (cc := cX3_run) (maxL := 2) (ty := .int) (lv0 := [(0, .ref o)]) (by decide) rfl (Nat.le_of_ble_eq_true rfl) rfl ?_
  intro p e s m args below meth c Q ls hx hb hml hts hown hP hK hl hret
  have hi3 : ∀ w ∈ wsX30, w ∈ wsX3_run := by decide +kernel
  have hfl102 := hts (.fieldLink RX3 102 "WhisperedPotsModel" "isWrong" "Z") (by decide +kernel)
  have hfl99 := hts (.fieldLink RX3 99 "WhisperedPotsModel" "length" "I") (by decide +kernel)
  have hS : va_S (AM o ps pa pv pn px) s.heap s.heap [] := va_S.rf
  have hne : o ≠ ps := fun h => absurd (hD.1 0 1 _ _ rfl rfl h) (by decide)
  refine lv_aload_n hx hb dX3_run_0 rfl (lv_at hl 0 rfl) ?_
  refine lv_iconst (v := nI 0) hx hb dX3_run_1 (by decide) ?_
  refine q_ciF (BH := fun H => ∃ (le1 wh1 : Int32) (tz1 : Nat), va_P D vwCl (wR o ps pa pv pn px cI (oM ps pa pv pn px th (nI ns) kp (nI len) (nI ((gt ch len (len + 1) 0 tz0).1)) (p_b (gt ch len (len + 1) 0 tz0).2) le1 wh1 (nI tz1) dg) (rr f) fa fv fn fx) H) (va_runV (rm := { frames := 8, cells := 0, slots := 0, locals := 180 }) (As := [.int (nI 0)]) (rest := []) ⟨hx, hb, hml, hown, hts⟩ (m3_goesThrough0 l D cI o ps pa pv pn px f fa fv fn fx th (nI ns) kp sp wr le wh dg tz0 ch len hlen hfx hch hD) (cwV 1 hts gX3_run_X3_goesThrough rfl rfl rfl (by decide +kernel) ⟨Nat.le_of_ble_eq_true rfl, Nat.le_of_ble_eq_true rfl⟩) (q_pV (ci := 3) (q0 := 0) hP hK rfl rfl) rfl rfl hl.1 rfl (lv_room (Nat.le_of_ble_eq_true rfl)) dX3_run_2 ⟨Nat.le_of_ble_eq_true rfl, Nat.le_of_ble_eq_true rfl⟩) (fun _ h => h) hS (fun _ h => h) (fun x1 H locs e1 hP hS => ?_)
  obtain ⟨le1, wh1, tz1, hP⟩ := hP
  have hgt : (gt ch len (len + 1) 0 tz0).2 = false := by exact cpl_t _ hc
  rw [hgt] at hP
  have hP : va_P D vwCl (wR o ps pa pv pn px cI (oM ps pa pv pn px th (nI ns) kp (nI len) (nI ((gt ch len (len + 1) 0 tz0).1)) (nI 0) le1 wh1 (nI tz1) dg) (rr f) fa fv fn fx) H := hP
  have hD := q_D2 (ws' := wR o ps pa pv pn px cI (oM ps pa pv pn px th (nI ns) kp (nI len) (nI ((gt ch len (len + 1) 0 tz0).1)) (nI 0) le1 wh1 (nI tz1) dg) (rr f) fa fv fn fx) hD rfl
  refine lv_istore_n (lv' := [(1, .int x1), (0, .ref o)]) hx hb dX3_run_5 rfl hl (by decide) rfl (fun ls hl => ?_)
  refine lv_aload_n hx hb dX3_run_6 rfl (lv_at hl 1 rfl) ?_
  refine lv_aload_n hx hb dX3_run_7 rfl (lv_at hl 1 rfl) ?_
  refine va_get (D := D) (ci := 3) (v := .int (nI 0)) (C := RX3) (T := TX3) (N := 15) hx hb hts hi3 hown hK hP 0 rfl rfl 10 (by decide) hfl102 (fun _ h9 => h9) rfl dX3_run_8 ?_
  refine lv_if_eq (tgt := 18) hx hb dX3_run_11 (by decide) (fun c2 => ?_) (fun c2 => absurd c2 (by decide))
  refine lv_iconst (v := nI 0) hx hb dX3_run_18 (by decide) ?_
  refine q_ci1 (i := 0) (ws' := wR o ps pa pv pn px cI (oM ps pa pv pn px (nI 0) (nI ns) kp (nI len) (nI ((gt ch len (len + 1) 0 tz0).1)) (nI 0) le1 wh1 (nI tz1) dg) (rr f) fa fv fn fx) (va_runV (rm := { frames := 0, cells := 0, slots := 0, locals := 0 }) (As := [.int (nI 0)]) (rest := []) ⟨hx, hb, hml, hown, hts⟩ (m3_holds0 l D cI o (oM ps pa pv pn px th (nI ns) kp (nI len) (nI ((gt ch len (len + 1) 0 tz0).1)) (nI 0) le1 wh1 (nI tz1) dg) (Nat.le_of_ble_eq_true rfl)) (cwV 1 hts gX3_run_X3_holds rfl rfl rfl (by decide +kernel) ⟨Nat.le_of_ble_eq_true rfl, Nat.le_of_ble_eq_true rfl⟩) (q_pV (ci := 3) (q0 := 0) (hP.sub [0] rfl) (hK.sub [] rfl) rfl rfl) rfl rfl hl.1 rfl (lv_room (Nat.le_of_ble_eq_true rfl)) dX3_run_19 ⟨Nat.le_of_ble_eq_true rfl, Nat.le_of_ble_eq_true rfl⟩) hP hD hS rfl (Or.inl rfl) rfl (fun x3 H locs e3 hP hD hS => ?_)
  have e3 : x3 = nI 1 := e3
  subst e3
  refine lv_if_ne (tgt := 27) hx hb dX3_run_22 (by decide) (fun c4 => ?_) (fun c4 => absurd c4 (by decide))
  refine lv_aload_n hx hb dX3_run_27 rfl (lv_at hl 1 rfl) ?_
  refine q_cvF (BH := fun H => va_P D vwCl (wR o ps pa pv pn px cI (oM ps pa pv pn px (nI 0) (nI ((svn ns))) kp (nI len) (nI ((gt ch len (len + 1) 0 tz0).1)) (nI 0) le1 wh1 (nI tz1) dg) (rr f) fa (svf ns fv (rr f)) fn fx) H) (va_runV (rm := { frames := 0, cells := 0, slots := 0, locals := 0 }) (As := []) (rest := []) ⟨hx, hb, hml, hown, hts⟩ (m3_save l D cI o ps pa pv pn px f fa fv fn fx ns hn (nI 0) kp (nI len) (nI ((gt ch len (len + 1) 0 tz0).1)) (nI 0) le1 wh1 (nI tz1) dg hD) (cwV 0 hts gX3_run_X3_save rfl rfl rfl (by decide +kernel) ⟨Nat.le_of_ble_eq_true rfl, Nat.le_of_ble_eq_true rfl⟩) (q_pV (ci := 3) (q0 := 0) hP hK rfl rfl) rfl rfl hl.1 rfl (lv_room (Nat.le_of_ble_eq_true rfl)) dX3_run_28 ⟨Nat.le_of_ble_eq_true rfl, Nat.le_of_ble_eq_true rfl⟩) (fun _ h => h) hS (fun _ h => h) (fun H locs hP hS => ?_)
  have hD := q_D2 (ws' := wR o ps pa pv pn px cI (oM ps pa pv pn px (nI 0) (nI ((svn ns))) kp (nI len) (nI ((gt ch len (len + 1) 0 tz0).1)) (nI 0) le1 wh1 (nI tz1) dg) (rr f) fa (svf ns fv (rr f)) fn fx) hD rfl
  refine lv_aload_n hx hb dX3_run_31 rfl (lv_at hl 1 rfl) ?_
  refine lv_iconst (v := nI 1) hx hb dX3_run_32 (by decide) ?_
  refine q_ciF (BH := fun H => ∃ (sp6 wr6 le6 wh6 : Int32) (tz6 : Nat), va_P D vwCl (wR o ps pa pv pn px cI (oM ps pa pv pn px (nI 0) (nI ((svn ns))) kp (nI len) sp6 wr6 le6 wh6 (nI tz6) dg) (rr (gd ch len (len + 1) 0 tz1 f).2) fa (svf ns fv (rr f)) fn fx) H) (va_runV (rm := { frames := 8, cells := 0, slots := 0, locals := 180 }) (As := [.int (nI 1)]) (rest := []) ⟨hx, hb, hml, hown, hts⟩ (m3_goesThrough1 l D cI o ps pa pv pn px f fa (svf ns fv (rr f)) fn fx (nI 0) (nI ((svn ns))) kp (nI ((gt ch len (len + 1) 0 tz0).1)) (nI 0) le1 wh1 dg tz1 ch len hlen hfx hch B hI hB hD) (cwV 1 hts gX3_run_X3_goesThrough rfl rfl rfl (by decide +kernel) ⟨Nat.le_of_ble_eq_true rfl, Nat.le_of_ble_eq_true rfl⟩) (q_pV (ci := 3) (q0 := 0) hP hK rfl rfl) rfl rfl hl.1 rfl (lv_room (Nat.le_of_ble_eq_true rfl)) dX3_run_33 ⟨Nat.le_of_ble_eq_true rfl, Nat.le_of_ble_eq_true rfl⟩) (fun _ h => h) hS (fun _ h => h) (fun x6 H locs e6 hP hS => ?_)
  obtain ⟨sp6, wr6, le6, wh6, tz6, hP⟩ := hP
  have e6 : x6 = nI (gd ch len (len + 1) 0 tz1 f).1 := e6
  rw [cpl_d (S := S) tz1 _ hc] at hP e6
  have hD := q_D2 (ws' := wR o ps pa pv pn px cI (oM ps pa pv pn px (nI 0) (nI ((svn ns))) kp (nI len) sp6 wr6 le6 wh6 (nI tz6) dg) (rr (xr ch len len 0 (0, S.2) f).2) fa (svf ns fv (rr f)) fn fx) hD rfl
  refine lv_istore_n (lv' := [(1, .int x6), (0, .ref o)]) hx hb dX3_run_36 rfl hl (by decide) rfl (fun ls hl => ?_)
  refine lv_aload_n hx hb dX3_run_37 rfl (lv_at hl 1 rfl) ?_
  refine lv_iconst (v := nI 0) hx hb dX3_run_38 (by decide) ?_
  refine q_pt (D := D) (ci := 3) (v := .int (nI 0)) (ty := .int) (C := RX3) (T := TX3) (N := 15) hx hb hts hi3 tyX3 tyX3_ok nmX3 hown hK hP hD hS (Or.inl rfl) 0 rfl rfl 8 (by decide) hfl99 (fun _ h9 => h9) rfl (by decide +kernel) rfl rfl (Nat.le_of_ble_eq_true rfl) (ws' := wR o ps pa pv pn px cI (oM ps pa pv pn px (nI 0) (nI ((svn ns))) kp (nI 0) sp6 wr6 le6 wh6 (nI tz6) dg) (rr (xr ch len len 0 (0, S.2) f).2) fa (svf ns fv (rr f)) fn fx) rfl dX3_run_39 (fun H locs hP hD hS => ?_)
  refine lv_iload_n hx hb dX3_run_42 rfl (lv_at hl 0 rfl) ?_
  refine hret _ _ _ _ _ rfl ?_ (⟨_, _, _, _, _, hP⟩) hS dX3_run_43
  exact e6
set_option maxHeartbeats 4000000 in
set_option maxRecDepth 100000 in
theorem m3_run_1 (l : Launch) (D : va_G) (cI : ClassId) (o ps pa pv pn px : Nat) (f fa fv fn fx : Nat → Int32) (ns : Nat) (hn : ns ≤ 6) (th kp sp wr le wh : Int32) (dg : Int64) (tz0 : Nat) (ch : Nat → Nat) (len : Nat) (hlen : len ≤ 60) (hfx : ∀ j, j < len → fx j = nI (ch j)) (hch : ∀ j, j < len → ch j < 128) (S : PS) (hc : p_cpl ch len S = false) (hD : va_D (fun _ => True) (wR o ps pa pv pn px cI (oM ps pa pv pn px th (nI ns) kp (nI len) sp wr le wh (nI tz0) dg) (rr f) fa fv fn fx)) : q_I l yX3_run wsX3_run { frames := 9, cells := 0, slots := 0, locals := 204 } [.ref o] (q_bp D (wR o ps pa pv pn px cI (oM ps pa pv pn px th (nI ns) kp (nI len) sp wr le wh (nI tz0) dg) (rr f) fa fv fn fx) [(cI, .int)]) (fun v => True) (fun H => ∃ (sp wr le wh : Int32) (tz : Nat), va_P D vwCl (wR o ps pa pv pn px cI (oM ps pa pv pn px (nI 1) (nI ns) kp (nI len) sp wr le wh (nI tz) dg) (rr f) fa fv fn fx) H) (AM o ps pa pv pn px) 0 0 := by
  refine q_goI (cc := cX3_run) (maxL := 2) (ty := .int) (lv0 := [(0, .ref o)]) (by decide) rfl (Nat.le_of_ble_eq_true rfl) rfl ?_
  intro p e s m args below meth c Q ls hx hb hml hts hown hP hK hl hret
  have hi3 : ∀ w ∈ wsX30, w ∈ wsX3_run := by decide +kernel
  have hfl102 := hts (.fieldLink RX3 102 "WhisperedPotsModel" "isWrong" "Z") (by decide +kernel)
  have hfl99 := hts (.fieldLink RX3 99 "WhisperedPotsModel" "length" "I") (by decide +kernel)
  have hS : va_S (AM o ps pa pv pn px) s.heap s.heap [] := va_S.rf
  have hne : o ≠ ps := fun h => absurd (hD.1 0 1 _ _ rfl rfl h) (by decide)
  refine lv_aload_n hx hb dX3_run_0 rfl (lv_at hl 0 rfl) ?_
  refine lv_iconst (v := nI 0) hx hb dX3_run_1 (by decide) ?_
  refine q_ciF (BH := fun H => ∃ (le1 wh1 : Int32) (tz1 : Nat), va_P D vwCl (wR o ps pa pv pn px cI (oM ps pa pv pn px th (nI ns) kp (nI len) (nI ((gt ch len (len + 1) 0 tz0).1)) (p_b (gt ch len (len + 1) 0 tz0).2) le1 wh1 (nI tz1) dg) (rr f) fa fv fn fx) H) (va_runV (rm := { frames := 8, cells := 0, slots := 0, locals := 180 }) (As := [.int (nI 0)]) (rest := []) ⟨hx, hb, hml, hown, hts⟩ (m3_goesThrough0 l D cI o ps pa pv pn px f fa fv fn fx th (nI ns) kp sp wr le wh dg tz0 ch len hlen hfx hch hD) (cwV 1 hts gX3_run_X3_goesThrough rfl rfl rfl (by decide +kernel) ⟨Nat.le_of_ble_eq_true rfl, Nat.le_of_ble_eq_true rfl⟩) (q_pV (ci := 3) (q0 := 0) hP hK rfl rfl) rfl rfl hl.1 rfl (lv_room (Nat.le_of_ble_eq_true rfl)) dX3_run_2 ⟨Nat.le_of_ble_eq_true rfl, Nat.le_of_ble_eq_true rfl⟩) (fun _ h => h) hS (fun _ h => h) (fun x1 H locs e1 hP hS => ?_)
  obtain ⟨le1, wh1, tz1, hP⟩ := hP
  have hgt : (gt ch len (len + 1) 0 tz0).2 = true := by exact cpl_f _ hc
  rw [hgt] at hP
  have hP : va_P D vwCl (wR o ps pa pv pn px cI (oM ps pa pv pn px th (nI ns) kp (nI len) (nI ((gt ch len (len + 1) 0 tz0).1)) (nI 1) le1 wh1 (nI tz1) dg) (rr f) fa fv fn fx) H := hP
  have hD := q_D2 (ws' := wR o ps pa pv pn px cI (oM ps pa pv pn px th (nI ns) kp (nI len) (nI ((gt ch len (len + 1) 0 tz0).1)) (nI 1) le1 wh1 (nI tz1) dg) (rr f) fa fv fn fx) hD rfl
  refine lv_istore_n (lv' := [(1, .int x1), (0, .ref o)]) hx hb dX3_run_5 rfl hl (by decide) rfl (fun ls hl => ?_)
  refine lv_aload_n hx hb dX3_run_6 rfl (lv_at hl 1 rfl) ?_
  refine lv_aload_n hx hb dX3_run_7 rfl (lv_at hl 1 rfl) ?_
  refine va_get (D := D) (ci := 3) (v := .int (nI 1)) (C := RX3) (T := TX3) (N := 15) hx hb hts hi3 hown hK hP 0 rfl rfl 10 (by decide) hfl102 (fun _ h9 => h9) rfl dX3_run_8 ?_
  refine lv_if_eq (tgt := 18) hx hb dX3_run_11 (by decide) (fun c2 => absurd c2 (by decide)) (fun c2 => ?_)
  refine lv_iconst (v := nI 1) hx hb dX3_run_14 (by decide) ?_
  refine lv_goto (tgt := 19) hx hb dX3_run_15 (by decide) ?_
  refine q_ci1 (i := 0) (ws' := wR o ps pa pv pn px cI (oM ps pa pv pn px (nI 1) (nI ns) kp (nI len) (nI ((gt ch len (len + 1) 0 tz0).1)) (nI 1) le1 wh1 (nI tz1) dg) (rr f) fa fv fn fx) (va_runV (rm := { frames := 0, cells := 0, slots := 0, locals := 0 }) (As := [.int (nI 1)]) (rest := []) ⟨hx, hb, hml, hown, hts⟩ (m3_holds1 l D cI o (oM ps pa pv pn px th (nI ns) kp (nI len) (nI ((gt ch len (len + 1) 0 tz0).1)) (nI 1) le1 wh1 (nI tz1) dg) (Nat.le_of_ble_eq_true rfl)) (cwV 1 hts gX3_run_X3_holds rfl rfl rfl (by decide +kernel) ⟨Nat.le_of_ble_eq_true rfl, Nat.le_of_ble_eq_true rfl⟩) (q_pV (ci := 3) (q0 := 0) (hP.sub [0] rfl) (hK.sub [] rfl) rfl rfl) rfl rfl hl.1 rfl (lv_room (Nat.le_of_ble_eq_true rfl)) dX3_run_19 ⟨Nat.le_of_ble_eq_true rfl, Nat.le_of_ble_eq_true rfl⟩) hP hD hS rfl (Or.inl rfl) rfl (fun x3 H locs e3 hP hD hS => ?_)
  have e3 : x3 = nI 0 := e3
  subst e3
  refine lv_if_ne (tgt := 27) hx hb dX3_run_22 (by decide) (fun c4 => absurd c4 (by decide)) (fun c4 => ?_)
  refine lv_iconst (v := nI 0) hx hb dX3_run_25 (by decide) ?_
  refine hret _ _ _ _ _ rfl ?_ (⟨_, _, _, _, _, hP⟩) hS dX3_run_26
  trivial
