set_option maxHeartbeats 4000000 in
set_option maxRecDepth 100000 in
theorem m3_isNext_t (l : Launch) (D : va_G) (cI : ClassId) (o ps pa pv pn px : Nat) (f fa fv fn fx : Nat → Int32) (th mn kp le wh te : Int32) (dg : Int64) (ch : Nat → Nat) (len i : Nat) (hlen : len ≤ 60) (hi61 : i ≤ 60) (hfx : ∀ j, j < len → fx j = nI (ch j)) (hch : ∀ j, j < len → ch j < 128) (lo hi : Nat) (hlo : lo < 128) (hhi : hi < 128) (hil : i < len) (hl1 : lo ≤ ch i) (hl2 : ch i ≤ hi) (hD : va_D (fun _ => True) (wR o ps pa pv pn px cI (oM ps pa pv pn px th mn kp (nI len) (nI i) (nI 0) le wh te dg) (rr f) fa fv fn fx)) : q_I l yX3_isNext wsX3_isNext { frames := 1, cells := 0, slots := 0, locals := 22 } [.ref o, .int (nI lo), .int (nI hi)] (q_bp D (wR o ps pa pv pn px cI (oM ps pa pv pn px th mn kp (nI len) (nI i) (nI 0) le wh te dg) (rr f) fa fv fn fx) [(cI, .int)]) (fun v => v = nI 1) (fun H => va_P D vwCl (wR o ps pa pv pn px cI (oM ps pa pv pn px th mn kp (nI len) (nI i) (nI 0) le wh te dg) (rr f) fa fv fn fx) H) (AM o ps pa pv pn px) 0 0 := by
  refine q_goI (cc := cX3_isNext) (maxL := 3) (ty := .boolean) (lv0 := [(0, .ref o), (1, .int (nI lo)), (2, .int (nI hi))]) (by decide) rfl (Nat.le_of_ble_eq_true rfl) rfl ?_
  intro p e s m args below meth c Q ls hx hb hml hts hown hP hK hl hret
  have hi3 : ∀ w ∈ wsX30, w ∈ wsX3_isNext := by decide +kernel
  have hfl102 := hts (.fieldLink RX3 102 "WhisperedPotsModel" "isWrong" "Z") (by decide +kernel)
  have hfl106 := hts (.fieldLink RX3 106 "WhisperedPotsModel" "spot" "I") (by decide +kernel)
  have hfl99 := hts (.fieldLink RX3 99 "WhisperedPotsModel" "length" "I") (by decide +kernel)
  have hfl22 := hts (.fieldLink RX3 22 "WhisperedPotsModel" "text" "[I") (by decide +kernel)
  have hS : va_S (AM o ps pa pv pn px) s.heap s.heap [] := va_S.rf
  have hci := hch i hil
  have hne : o ≠ ps := fun h => absurd (hD.1 0 1 _ _ rfl rfl h) (by decide)
  refine lv_aload_n hx hb dX3_isNext_0 rfl (lv_at hl 0 rfl) ?_
  refine va_get (D := D) (ci := 3) (v := .int (nI 0)) (C := RX3) (T := TX3) (N := 15) hx hb hts hi3 hown hK hP 0 rfl rfl 10 (by decide) hfl102 (fun _ h9 => h9) rfl dX3_isNext_1 ?_
  refine lv_if_ne (tgt := 39) hx hb dX3_isNext_4 (by decide) (fun c1 => absurd c1 (by decide)) (fun c1 => ?_)
  refine lv_aload_n hx hb dX3_isNext_7 rfl (lv_at hl 0 rfl) ?_
  refine va_get (D := D) (ci := 3) (v := .int (nI i)) (C := RX3) (T := TX3) (N := 15) hx hb hts hi3 hown hK hP 0 rfl rfl 9 (by decide) hfl106 (fun _ h9 => h9) rfl dX3_isNext_8 ?_
  refine lv_aload_n hx hb dX3_isNext_11 rfl (lv_at hl 0 rfl) ?_
  refine va_get (D := D) (ci := 3) (v := .int (nI len)) (C := RX3) (T := TX3) (N := 15) hx hb hts hi3 hown hK hP 0 rfl rfl 8 (by decide) hfl99 (fun _ h9 => h9) rfl dX3_isNext_12 ?_
  refine q_geN (tgt := 39) hx hb (by omega) (by omega) dX3_isNext_15 (by decide) (fun c2 => absurd c2 (by omega)) (fun c2 => ?_)
  refine lv_aload_n hx hb dX3_isNext_18 rfl (lv_at hl 0 rfl) ?_
  refine va_get (D := D) (ci := 3) (v := .ref px) (C := RX3) (T := TX3) (N := 15) hx hb hts hi3 hown hK hP 0 rfl rfl 7 (by decide) hfl22 (fun _ h9 => h9) rfl dX3_isNext_19 ?_
  refine lv_aload_n hx hb dX3_isNext_22 rfl (lv_at hl 0 rfl) ?_
  refine va_get (D := D) (ci := 3) (v := .int (nI i)) (C := RX3) (T := TX3) (N := 15) hx hb hts hi3 hown hK hP 0 rfl rfl 9 (by decide) hfl106 (fun _ h9 => h9) rfl dX3_isNext_23 ?_
  refine q_ld hx hb hK hP 5 0 rfl rfl (j := i) (v := (nI ((ch i)))) (by omega) (by omega) (hfx _ (by omega)) dX3_isNext_26 ?_
  refine lv_iload_n hx hb dX3_isNext_27 rfl (lv_at hl 1 rfl) ?_
  refine lv_iload_n hx hb dX3_isNext_28 rfl (lv_at hl 2 rfl) ?_
  refine q_ciR (va_runS (rm := { frames := 0, cells := 0, slots := 0, locals := 0 }) (As := [.int (nI ((ch i))), .int (nI lo), .int (nI hi)]) (rest := []) ⟨hx, hb, hml, hown, hts⟩ (m3_in l D (nI ((ch i))) (nI lo) (nI hi)) (va_cwS 3 hts gX3_isNext_X3_in rfl rfl rfl (by decide +kernel) ⟨Nat.le_of_ble_eq_true rfl, Nat.le_of_ble_eq_true rfl⟩) (q_pS (hP.sub [] rfl) (hK.sub [] rfl)) rfl rfl hl.1 rfl (lv_room (Nat.le_of_ble_eq_true rfl)) dX3_isNext_29 ⟨Nat.le_of_ble_eq_true rfl, Nat.le_of_ble_eq_true rfl⟩) hP hS (fun x3 H locs e3 hP hS => ?_)
  have e3 : x3 = nI 1 := by
    have h9 : x3 = p_b (q_in (nI lo) (nI hi) (nI ((ch i)))) := e3
    rw [h9, ((q_inN hl1 hl2 (by omega)) : q_in (nI lo) (nI hi) (nI ((ch i))) = true)]
    rfl
  subst e3
  refine lv_if_eq (tgt := 39) hx hb dX3_isNext_32 (by decide) (fun c4 => absurd c4 (by decide)) (fun c4 => ?_)
  refine lv_iconst (v := nI 1) hx hb dX3_isNext_35 (by decide) ?_
  refine lv_goto (tgt := 40) hx hb dX3_isNext_36 (by decide) ?_
  refine hret _ _ _ _ _ rfl ?_ (hP) hS dX3_isNext_40
  rfl
set_option maxHeartbeats 4000000 in
set_option maxRecDepth 100000 in
theorem m3_isNext_1 (l : Launch) (D : va_G) (cI : ClassId) (o ps pa pv pn px : Nat) (f fa fv fn fx : Nat → Int32) (th mn kp le wh te : Int32) (dg : Int64) (ch : Nat → Nat) (len i : Nat) (hlen : len ≤ 60) (hi61 : i ≤ 60) (hfx : ∀ j, j < len → fx j = nI (ch j)) (hch : ∀ j, j < len → ch j < 128) (lo hi : Nat) (hlo : lo < 128) (hhi : hi < 128)  (hD : va_D (fun _ => True) (wR o ps pa pv pn px cI (oM ps pa pv pn px th mn kp (nI len) (nI i) (nI 1) le wh te dg) (rr f) fa fv fn fx)) : q_I l yX3_isNext wsX3_isNext { frames := 1, cells := 0, slots := 0, locals := 22 } [.ref o, .int (nI lo), .int (nI hi)] (q_bp D (wR o ps pa pv pn px cI (oM ps pa pv pn px th mn kp (nI len) (nI i) (nI 1) le wh te dg) (rr f) fa fv fn fx) [(cI, .int)]) (fun v => v = nI 0) (fun H => va_P D vwCl (wR o ps pa pv pn px cI (oM ps pa pv pn px th mn kp (nI len) (nI i) (nI 1) le wh te dg) (rr f) fa fv fn fx) H) (AM o ps pa pv pn px) 0 0 := by
  refine q_goI (cc := cX3_isNext) (maxL := 3) (ty := .boolean) (lv0 := [(0, .ref o), (1, .int (nI lo)), (2, .int (nI hi))]) (by decide) rfl (Nat.le_of_ble_eq_true rfl) rfl ?_
  intro p e s m args below meth c Q ls hx hb hml hts hown hP hK hl hret
  have hi3 : ∀ w ∈ wsX30, w ∈ wsX3_isNext := by decide +kernel
  have hfl102 := hts (.fieldLink RX3 102 "WhisperedPotsModel" "isWrong" "Z") (by decide +kernel)
  have hfl106 := hts (.fieldLink RX3 106 "WhisperedPotsModel" "spot" "I") (by decide +kernel)
  have hfl99 := hts (.fieldLink RX3 99 "WhisperedPotsModel" "length" "I") (by decide +kernel)
  have hfl22 := hts (.fieldLink RX3 22 "WhisperedPotsModel" "text" "[I") (by decide +kernel)
  have hS : va_S (AM o ps pa pv pn px) s.heap s.heap [] := va_S.rf
  have hne : o ≠ ps := fun h => absurd (hD.1 0 1 _ _ rfl rfl h) (by decide)
  refine lv_aload_n hx hb dX3_isNext_0 rfl (lv_at hl 0 rfl) ?_
  refine va_get (D := D) (ci := 3) (v := .int (nI 1)) (C := RX3) (T := TX3) (N := 15) hx hb hts hi3 hown hK hP 0 rfl rfl 10 (by decide) hfl102 (fun _ h9 => h9) rfl dX3_isNext_1 ?_
  refine lv_if_ne (tgt := 39) hx hb dX3_isNext_4 (by decide) (fun c1 => ?_) (fun c1 => absurd c1 (by decide))
  refine lv_iconst (v := nI 0) hx hb dX3_isNext_39 (by decide) ?_
  refine hret _ _ _ _ _ rfl ?_ (hP) hS dX3_isNext_40
  rfl
set_option maxHeartbeats 4000000 in
set_option maxRecDepth 100000 in
theorem m3_isNext_2 (l : Launch) (D : va_G) (cI : ClassId) (o ps pa pv pn px : Nat) (f fa fv fn fx : Nat → Int32) (th mn kp le wh te : Int32) (dg : Int64) (ch : Nat → Nat) (len i : Nat) (hlen : len ≤ 60) (hi61 : i ≤ 60) (hfx : ∀ j, j < len → fx j = nI (ch j)) (hch : ∀ j, j < len → ch j < 128) (lo hi : Nat) (hlo : lo < 128) (hhi : hi < 128) (hil : len ≤ i) (hD : va_D (fun _ => True) (wR o ps pa pv pn px cI (oM ps pa pv pn px th mn kp (nI len) (nI i) (nI 0) le wh te dg) (rr f) fa fv fn fx)) : q_I l yX3_isNext wsX3_isNext { frames := 1, cells := 0, slots := 0, locals := 22 } [.ref o, .int (nI lo), .int (nI hi)] (q_bp D (wR o ps pa pv pn px cI (oM ps pa pv pn px th mn kp (nI len) (nI i) (nI 0) le wh te dg) (rr f) fa fv fn fx) [(cI, .int)]) (fun v => v = nI 0) (fun H => va_P D vwCl (wR o ps pa pv pn px cI (oM ps pa pv pn px th mn kp (nI len) (nI i) (nI 0) le wh te dg) (rr f) fa fv fn fx) H) (AM o ps pa pv pn px) 0 0 := by
  refine q_goI (cc := cX3_isNext) (maxL := 3) (ty := .boolean) (lv0 := [(0, .ref o), (1, .int (nI lo)), (2, .int (nI hi))]) (by decide) rfl (Nat.le_of_ble_eq_true rfl) rfl ?_
  intro p e s m args below meth c Q ls hx hb hml hts hown hP hK hl hret
  have hi3 : ∀ w ∈ wsX30, w ∈ wsX3_isNext := by decide +kernel
  have hfl102 := hts (.fieldLink RX3 102 "WhisperedPotsModel" "isWrong" "Z") (by decide +kernel)
  have hfl106 := hts (.fieldLink RX3 106 "WhisperedPotsModel" "spot" "I") (by decide +kernel)
  have hfl99 := hts (.fieldLink RX3 99 "WhisperedPotsModel" "length" "I") (by decide +kernel)
  have hfl22 := hts (.fieldLink RX3 22 "WhisperedPotsModel" "text" "[I") (by decide +kernel)
  have hS : va_S (AM o ps pa pv pn px) s.heap s.heap [] := va_S.rf
  have hne : o ≠ ps := fun h => absurd (hD.1 0 1 _ _ rfl rfl h) (by decide)
  refine lv_aload_n hx hb dX3_isNext_0 rfl (lv_at hl 0 rfl) ?_
  refine va_get (D := D) (ci := 3) (v := .int (nI 0)) (C := RX3) (T := TX3) (N := 15) hx hb hts hi3 hown hK hP 0 rfl rfl 10 (by decide) hfl102 (fun _ h9 => h9) rfl dX3_isNext_1 ?_
  refine lv_if_ne (tgt := 39) hx hb dX3_isNext_4 (by decide) (fun c1 => absurd c1 (by decide)) (fun c1 => ?_)
  refine lv_aload_n hx hb dX3_isNext_7 rfl (lv_at hl 0 rfl) ?_
  refine va_get (D := D) (ci := 3) (v := .int (nI i)) (C := RX3) (T := TX3) (N := 15) hx hb hts hi3 hown hK hP 0 rfl rfl 9 (by decide) hfl106 (fun _ h9 => h9) rfl dX3_isNext_8 ?_
  refine lv_aload_n hx hb dX3_isNext_11 rfl (lv_at hl 0 rfl) ?_
  refine va_get (D := D) (ci := 3) (v := .int (nI len)) (C := RX3) (T := TX3) (N := 15) hx hb hts hi3 hown hK hP 0 rfl rfl 8 (by decide) hfl99 (fun _ h9 => h9) rfl dX3_isNext_12 ?_
  refine q_geN (tgt := 39) hx hb (by omega) (by omega) dX3_isNext_15 (by decide) (fun c2 => ?_) (fun c2 => absurd c2 (by omega))
  refine lv_iconst (v := nI 0) hx hb dX3_isNext_39 (by decide) ?_
  refine hret _ _ _ _ _ rfl ?_ (hP) hS dX3_isNext_40
  rfl
set_option maxHeartbeats 4000000 in
set_option maxRecDepth 100000 in
theorem m3_isNext_3 (l : Launch) (D : va_G) (cI : ClassId) (o ps pa pv pn px : Nat) (f fa fv fn fx : Nat → Int32) (th mn kp le wh te : Int32) (dg : Int64) (ch : Nat → Nat) (len i : Nat) (hlen : len ≤ 60) (hi61 : i ≤ 60) (hfx : ∀ j, j < len → fx j = nI (ch j)) (hch : ∀ j, j < len → ch j < 128) (lo hi : Nat) (hlo : lo < 128) (hhi : hi < 128) (hil : i < len) (hl1 : ¬ (lo ≤ ch i ∧ ch i ≤ hi)) (hD : va_D (fun _ => True) (wR o ps pa pv pn px cI (oM ps pa pv pn px th mn kp (nI len) (nI i) (nI 0) le wh te dg) (rr f) fa fv fn fx)) : q_I l yX3_isNext wsX3_isNext { frames := 1, cells := 0, slots := 0, locals := 22 } [.ref o, .int (nI lo), .int (nI hi)] (q_bp D (wR o ps pa pv pn px cI (oM ps pa pv pn px th mn kp (nI len) (nI i) (nI 0) le wh te dg) (rr f) fa fv fn fx) [(cI, .int)]) (fun v => v = nI 0) (fun H => va_P D vwCl (wR o ps pa pv pn px cI (oM ps pa pv pn px th mn kp (nI len) (nI i) (nI 0) le wh te dg) (rr f) fa fv fn fx) H) (AM o ps pa pv pn px) 0 0 := by
  refine q_goI (cc := cX3_isNext) (maxL := 3) (ty := .boolean) (lv0 := [(0, .ref o), (1, .int (nI lo)), (2, .int (nI hi))]) (by decide) rfl (Nat.le_of_ble_eq_true rfl) rfl ?_
  intro p e s m args below meth c Q ls hx hb hml hts hown hP hK hl hret
  have hi3 : ∀ w ∈ wsX30, w ∈ wsX3_isNext := by decide +kernel
  have hfl102 := hts (.fieldLink RX3 102 "WhisperedPotsModel" "isWrong" "Z") (by decide +kernel)
  have hfl106 := hts (.fieldLink RX3 106 "WhisperedPotsModel" "spot" "I") (by decide +kernel)
  have hfl99 := hts (.fieldLink RX3 99 "WhisperedPotsModel" "length" "I") (by decide +kernel)
  have hfl22 := hts (.fieldLink RX3 22 "WhisperedPotsModel" "text" "[I") (by decide +kernel)
  have hS : va_S (AM o ps pa pv pn px) s.heap s.heap [] := va_S.rf
  have hci := hch i hil
  have hne : o ≠ ps := fun h => absurd (hD.1 0 1 _ _ rfl rfl h) (by decide)
  refine lv_aload_n hx hb dX3_isNext_0 rfl (lv_at hl 0 rfl) ?_
  refine va_get (D := D) (ci := 3) (v := .int (nI 0)) (C := RX3) (T := TX3) (N := 15) hx hb hts hi3 hown hK hP 0 rfl rfl 10 (by decide) hfl102 (fun _ h9 => h9) rfl dX3_isNext_1 ?_
  refine lv_if_ne (tgt := 39) hx hb dX3_isNext_4 (by decide) (fun c1 => absurd c1 (by decide)) (fun c1 => ?_)
  refine lv_aload_n hx hb dX3_isNext_7 rfl (lv_at hl 0 rfl) ?_
  refine va_get (D := D) (ci := 3) (v := .int (nI i)) (C := RX3) (T := TX3) (N := 15) hx hb hts hi3 hown hK hP 0 rfl rfl 9 (by decide) hfl106 (fun _ h9 => h9) rfl dX3_isNext_8 ?_
  refine lv_aload_n hx hb dX3_isNext_11 rfl (lv_at hl 0 rfl) ?_
  refine va_get (D := D) (ci := 3) (v := .int (nI len)) (C := RX3) (T := TX3) (N := 15) hx hb hts hi3 hown hK hP 0 rfl rfl 8 (by decide) hfl99 (fun _ h9 => h9) rfl dX3_isNext_12 ?_
  refine q_geN (tgt := 39) hx hb (by omega) (by omega) dX3_isNext_15 (by decide) (fun c2 => absurd c2 (by omega)) (fun c2 => ?_)
  refine lv_aload_n hx hb dX3_isNext_18 rfl (lv_at hl 0 rfl) ?_
  refine va_get (D := D) (ci := 3) (v := .ref px) (C := RX3) (T := TX3) (N := 15) hx hb hts hi3 hown hK hP 0 rfl rfl 7 (by decide) hfl22 (fun _ h9 => h9) rfl dX3_isNext_19 ?_
  refine lv_aload_n hx hb dX3_isNext_22 rfl (lv_at hl 0 rfl) ?_
  refine va_get (D := D) (ci := 3) (v := .int (nI i)) (C := RX3) (T := TX3) (N := 15) hx hb hts hi3 hown hK hP 0 rfl rfl 9 (by decide) hfl106 (fun _ h9 => h9) rfl dX3_isNext_23 ?_
  refine q_ld hx hb hK hP 5 0 rfl rfl (j := i) (v := (nI ((ch i)))) (by omega) (by omega) (hfx _ (by omega)) dX3_isNext_26 ?_
  refine lv_iload_n hx hb dX3_isNext_27 rfl (lv_at hl 1 rfl) ?_
  refine lv_iload_n hx hb dX3_isNext_28 rfl (lv_at hl 2 rfl) ?_
  refine q_ciR (va_runS (rm := { frames := 0, cells := 0, slots := 0, locals := 0 }) (As := [.int (nI ((ch i))), .int (nI lo), .int (nI hi)]) (rest := []) ⟨hx, hb, hml, hown, hts⟩ (m3_in l D (nI ((ch i))) (nI lo) (nI hi)) (va_cwS 3 hts gX3_isNext_X3_in rfl rfl rfl (by decide +kernel) ⟨Nat.le_of_ble_eq_true rfl, Nat.le_of_ble_eq_true rfl⟩) (q_pS (hP.sub [] rfl) (hK.sub [] rfl)) rfl rfl hl.1 rfl (lv_room (Nat.le_of_ble_eq_true rfl)) dX3_isNext_29 ⟨Nat.le_of_ble_eq_true rfl, Nat.le_of_ble_eq_true rfl⟩) hP hS (fun x3 H locs e3 hP hS => ?_)
  have e3 : x3 = nI 0 := by
    have h9 : x3 = p_b (q_in (nI lo) (nI hi) (nI ((ch i)))) := e3
    rw [h9, ((by rw [q_in_nat (by omega) (by omega) (by omega)]; simp only [Bool.and_eq_false_iff, decide_eq_false_iff_not]; omega) : q_in (nI lo) (nI hi) (nI ((ch i))) = false)]
    rfl
  subst e3
  refine lv_if_eq (tgt := 39) hx hb dX3_isNext_32 (by decide) (fun c4 => ?_) (fun c4 => absurd c4 (by decide))
  refine lv_iconst (v := nI 0) hx hb dX3_isNext_39 (by decide) ?_
  refine hret _ _ _ _ _ rfl ?_ (hP) hS dX3_isNext_40
  rfl
theorem m3_isNext (l : Launch) (D : va_G) (cI : ClassId) (o ps pa pv pn px : Nat) (f fa fv fn fx : Nat → Int32) (th mn kp le wh te : Int32) (dg : Int64) (ch : Nat → Nat) (len i : Nat) (hlen : len ≤ 60) (hi61 : i ≤ 60) (hfx : ∀ j, j < len → fx j = nI (ch j)) (hch : ∀ j, j < len → ch j < 128) (lo hi : Nat) (hlo : lo < 128) (hhi : hi < 128) (w : Bool) (hD : va_D (fun _ => True) (wR o ps pa pv pn px cI (oM ps pa pv pn px th mn kp (nI len) (nI i) (p_b w) le wh te dg) (rr f) fa fv fn fx)) : q_I l yX3_isNext wsX3_isNext { frames := 1, cells := 0, slots := 0, locals := 22 } [.ref o, .int (nI lo), .int (nI hi)] (q_bp D (wR o ps pa pv pn px cI (oM ps pa pv pn px th mn kp (nI len) (nI i) (p_b w) le wh te dg) (rr f) fa fv fn fx) [(cI, .int)]) (fun v => v = p_b (n_ok ch len i w lo hi)) (fun H => va_P D vwCl (wR o ps pa pv pn px cI (oM ps pa pv pn px th mn kp (nI len) (nI i) (p_b w) le wh te dg) (rr f) fa fv fn fx) H) (AM o ps pa pv pn px) 0 0 := by
  cases w with
  | true => exact m3_isNext_1 l D cI o ps pa pv pn px f fa fv fn fx th mn kp le wh te dg ch len i hlen hi61 hfx hch lo hi hlo hhi hD
  | false =>
    by_cases h1 : i < len
    · by_cases h2 : lo ≤ ch i ∧ ch i ≤ hi
      · rw [n_ok_t h1 h2.1 h2.2]
        exact m3_isNext_t l D cI o ps pa pv pn px f fa fv fn fx th mn kp le wh te dg ch len i hlen hi61 hfx hch lo hi hlo hhi h1 h2.1 h2.2 hD
      · have e : n_ok ch len i false lo hi = false := by
          unfold n_ok
          simp only [Bool.and_eq_false_iff, decide_eq_false_iff_not]
          omega
        rw [e]
        exact m3_isNext_3 l D cI o ps pa pv pn px f fa fv fn fx th mn kp le wh te dg ch len i hlen hi61 hfx hch lo hi hlo hhi h1 h2 hD
    · have e : n_ok ch len i false lo hi = false := by
        unfold n_ok
        rw [decide_eq_false h1]
        rfl
      rw [e]
      exact m3_isNext_2 l D cI o ps pa pv pn px f fa fv fn fx th mn kp le wh te dg ch len i hlen hi61 hfx hch lo hi hlo hhi (by omega) hD
set_option maxHeartbeats 4000000 in
set_option maxRecDepth 100000 in
theorem m3_takes_t (l : Launch) (D : va_G) (cI : ClassId) (o ps pa pv pn px : Nat) (f fa fv fn fx : Nat → Int32) (th mn kp le wh te : Int32) (dg : Int64) (ch : Nat → Nat) (len i : Nat) (hlen : len ≤ 60) (hi61 : i ≤ 60) (hfx : ∀ j, j < len → fx j = nI (ch j)) (hch : ∀ j, j < len → ch j < 128) (lo hi : Nat) (hlo : lo < 128) (hhi : hi < 128) (hil : i < len) (hl1 : lo ≤ ch i) (hl2 : ch i ≤ hi) (hD : va_D (fun _ => True) (wR o ps pa pv pn px cI (oM ps pa pv pn px th mn kp (nI len) (nI i) (nI 0) le wh te dg) (rr f) fa fv fn fx)) : q_I l yX3_takes wsX3_takes { frames := 2, cells := 0, slots := 0, locals := 44 } [.ref o, .int (nI lo), .int (nI hi)] (q_bp D (wR o ps pa pv pn px cI (oM ps pa pv pn px th mn kp (nI len) (nI i) (nI 0) le wh te dg) (rr f) fa fv fn fx) [(cI, .int)]) (fun v => v = nI (ch i - lo)) (fun H => va_P D vwCl (wR o ps pa pv pn px cI (oM ps pa pv pn px th mn kp (nI len) (nI (1 + i)) (nI 0) le wh te dg) (rr f) fa fv fn fx) H) (AM o ps pa pv pn px) 0 0 := by
  refine q_goI (cc := cX3_takes) (maxL := 5) (ty := .int) (lv0 := [(0, .ref o), (1, .int (nI lo)), (2, .int (nI hi))]) (by decide) rfl (Nat.le_of_ble_eq_true rfl) rfl ?_
  intro p e s m args below meth c Q ls hx hb hml hts hown hP hK hl hret
  have hi3 : ∀ w ∈ wsX30, w ∈ wsX3_takes := by decide +kernel
  have hfl22 := hts (.fieldLink RX3 22 "WhisperedPotsModel" "text" "[I") (by decide +kernel)
  have hfl106 := hts (.fieldLink RX3 106 "WhisperedPotsModel" "spot" "I") (by decide +kernel)
  have hfl102 := hts (.fieldLink RX3 102 "WhisperedPotsModel" "isWrong" "Z") (by decide +kernel)
  have hS : va_S (AM o ps pa pv pn px) s.heap s.heap [] := va_S.rf
  have hci := hch i hil
  have hne : o ≠ ps := fun h => absurd (hD.1 0 1 _ _ rfl rfl h) (by decide)
  refine lv_aload_n hx hb dX3_takes_0 rfl (lv_at hl 0 rfl) ?_
  refine lv_iload_n hx hb dX3_takes_1 rfl (lv_at hl 1 rfl) ?_
  refine lv_iload_n hx hb dX3_takes_2 rfl (lv_at hl 2 rfl) ?_
  refine q_ciF (BH := fun H => va_P D vwCl (wR o ps pa pv pn px cI (oM ps pa pv pn px th mn kp (nI len) (nI i) (nI 0) le wh te dg) (rr f) fa fv fn fx) H) (va_runV (rm := { frames := 1, cells := 0, slots := 0, locals := 22 }) (As := [.int (nI lo), .int (nI hi)]) (rest := []) ⟨hx, hb, hml, hown, hts⟩ (m3_isNext_t l D cI o ps pa pv pn px f fa fv fn fx th mn kp le wh te dg ch len i hlen (by omega) hfx hch lo hi (by omega) (by omega) hil hl1 hl2 hD) (cwV 2 hts gX3_takes_X3_isNext rfl rfl rfl (by decide +kernel) ⟨Nat.le_of_ble_eq_true rfl, Nat.le_of_ble_eq_true rfl⟩) (q_pV (ci := 3) (q0 := 0) hP hK rfl rfl) rfl rfl hl.1 rfl (lv_room (Nat.le_of_ble_eq_true rfl)) dX3_takes_3 ⟨Nat.le_of_ble_eq_true rfl, Nat.le_of_ble_eq_true rfl⟩) (fun _ h => h) hS (fun _ h => h) (fun x1 H locs e1 hP hS => ?_)
  have e1 : x1 = nI 1 := e1
  subst e1
  refine lv_istore_n (lv' := [(3, .int (nI 1)), (0, .ref o), (1, .int (nI lo)), (2, .int (nI hi))]) hx hb dX3_takes_6 rfl hl (by decide) rfl (fun ls hl => ?_)
  refine lv_iload_n hx hb dX3_takes_7 rfl (lv_at hl 0 rfl) ?_
  refine lv_if_eq (tgt := 25) hx hb dX3_takes_8 (by decide) (fun c2 => absurd c2 (by decide)) (fun c2 => ?_)
  refine lv_aload_n hx hb dX3_takes_11 rfl (lv_at hl 1 rfl) ?_
  refine va_get (D := D) (ci := 3) (v := .ref px) (C := RX3) (T := TX3) (N := 15) hx hb hts hi3 hown hK hP 0 rfl rfl 7 (by decide) hfl22 (fun _ h9 => h9) rfl dX3_takes_12 ?_
  refine lv_aload_n hx hb dX3_takes_15 rfl (lv_at hl 1 rfl) ?_
  refine va_get (D := D) (ci := 3) (v := .int (nI i)) (C := RX3) (T := TX3) (N := 15) hx hb hts hi3 hown hK hP 0 rfl rfl 9 (by decide) hfl106 (fun _ h9 => h9) rfl dX3_takes_16 ?_
  refine q_ld hx hb hK hP 5 0 rfl rfl (j := i) (v := (nI ((ch i)))) (by omega) (by omega) (hfx _ (by omega)) dX3_takes_19 ?_
  refine lv_iload_n hx hb dX3_takes_20 rfl (lv_at hl 2 rfl) ?_
  refine q_subN hx hb (ch i - lo) (by omega) dX3_takes_21 ?_
  refine lv_goto (tgt := 26) hx hb dX3_takes_22 (by decide) ?_
  refine lv_istore (lv' := [(4, .int (nI ((ch i - lo)))), (3, .int (nI 1)), (0, .ref o), (1, .int (nI lo)), (2, .int (nI hi))]) hx hb dX3_takes_26 hl (by decide) rfl (fun ls hl => ?_)
  refine lv_aload_n hx hb dX3_takes_28 rfl (lv_at hl 2 rfl) ?_
  refine lv_dup hx hb dX3_takes_29 rfl ?_
  refine va_get (D := D) (ci := 3) (v := .int (nI i)) (C := RX3) (T := TX3) (N := 15) hx hb hts hi3 hown hK hP 0 rfl rfl 9 (by decide) hfl106 (fun _ h9 => h9) rfl dX3_takes_30 ?_
  refine lv_iload_n hx hb dX3_takes_33 rfl (lv_at hl 1 rfl) ?_
  refine lv_if_eq (tgt := 41) hx hb dX3_takes_34 (by decide) (fun c3 => absurd c3 (by decide)) (fun c3 => ?_)
  refine lv_iconst (v := nI 1) hx hb dX3_takes_37 (by decide) ?_
  refine lv_goto (tgt := 42) hx hb dX3_takes_38 (by decide) ?_
  refine q_addN hx hb (1 + i) (by omega) dX3_takes_42 ?_
  refine q_pt (D := D) (ci := 3) (v := .int (nI (1 + i))) (ty := .int) (C := RX3) (T := TX3) (N := 15) hx hb hts hi3 tyX3 tyX3_ok nmX3 hown hK hP hD hS (Or.inl rfl) 0 rfl rfl 9 (by decide) hfl106 (fun _ h9 => h9) rfl (by decide +kernel) rfl rfl (Nat.le_of_ble_eq_true rfl) (ws' := wR o ps pa pv pn px cI (oM ps pa pv pn px th mn kp (nI len) (nI (1 + i)) (nI 0) le wh te dg) (rr f) fa fv fn fx) rfl dX3_takes_43 (fun H locs hP hD hS => ?_)
  refine lv_aload_n hx hb dX3_takes_46 rfl (lv_at hl 2 rfl) ?_
  refine lv_aload_n hx hb dX3_takes_47 rfl (lv_at hl 2 rfl) ?_
  refine va_get (D := D) (ci := 3) (v := .int (nI 0)) (C := RX3) (T := TX3) (N := 15) hx hb hts hi3 hown hK hP 0 rfl rfl 10 (by decide) hfl102 (fun _ h9 => h9) rfl dX3_takes_48 ?_
  refine lv_if_ne (tgt := 58) hx hb dX3_takes_51 (by decide) (fun c4 => absurd c4 (by decide)) (fun c4 => ?_)
  refine lv_iload_n hx hb dX3_takes_54 rfl (lv_at hl 1 rfl) ?_
  refine lv_if_ne (tgt := 62) hx hb dX3_takes_55 (by decide) (fun c5 => ?_) (fun c5 => absurd c5 (by decide))
  refine lv_iconst (v := nI 0) hx hb dX3_takes_62 (by decide) ?_
  refine q_pt (D := D) (ci := 3) (v := .int (nI 0)) (ty := .boolean) (C := RX3) (T := TX3) (N := 15) hx hb hts hi3 tyX3 tyX3_ok nmX3 hown hK hP hD hS (Or.inl rfl) 0 rfl rfl 10 (by decide) hfl102 (fun _ h9 => h9) rfl (by decide +kernel) rfl rfl (Nat.le_of_ble_eq_true rfl) (ws' := wR o ps pa pv pn px cI (oM ps pa pv pn px th mn kp (nI len) (nI (1 + i)) (nI 0) le wh te dg) (rr f) fa fv fn fx) rfl dX3_takes_63 (fun H locs hP hD hS => ?_)
  refine lv_iload hx hb dX3_takes_66 (lv_at hl 0 rfl) ?_
  refine hret _ _ _ _ _ rfl ?_ (hP) hS dX3_takes_68
  rfl
set_option maxHeartbeats 4000000 in
set_option maxRecDepth 100000 in
theorem m3_takes_f (l : Launch) (D : va_G) (cI : ClassId) (o ps pa pv pn px : Nat) (f fa fv fn fx : Nat → Int32) (th mn kp le wh te : Int32) (dg : Int64) (ch : Nat → Nat) (len i : Nat) (hlen : len ≤ 60) (hi61 : i ≤ 60) (hfx : ∀ j, j < len → fx j = nI (ch j)) (hch : ∀ j, j < len → ch j < 128) (lo hi : Nat) (hlo : lo < 128) (hhi : hi < 128) (w : Bool) (hn : n_ok ch len i w lo hi = false) (hD : va_D (fun _ => True) (wR o ps pa pv pn px cI (oM ps pa pv pn px th mn kp (nI len) (nI i) (p_b w) le wh te dg) (rr f) fa fv fn fx)) : q_I l yX3_takes wsX3_takes { frames := 2, cells := 0, slots := 0, locals := 44 } [.ref o, .int (nI lo), .int (nI hi)] (q_bp D (wR o ps pa pv pn px cI (oM ps pa pv pn px th mn kp (nI len) (nI i) (p_b w) le wh te dg) (rr f) fa fv fn fx) [(cI, .int)]) (fun v => v = nI 0) (fun H => va_P D vwCl (wR o ps pa pv pn px cI (oM ps pa pv pn px th mn kp (nI len) (nI i) (nI 1) le wh te dg) (rr f) fa fv fn fx) H) (AM o ps pa pv pn px) 0 0 := by
  refine q_goI (cc := cX3_takes) (maxL := 5) (ty := .int) (lv0 := [(0, .ref o), (1, .int (nI lo)), (2, .int (nI hi))]) (by decide) rfl (Nat.le_of_ble_eq_true rfl) rfl ?_
  intro p e s m args below meth c Q ls hx hb hml hts hown hP hK hl hret
  have hi3 : ∀ w ∈ wsX30, w ∈ wsX3_takes := by decide +kernel
  have hfl22 := hts (.fieldLink RX3 22 "WhisperedPotsModel" "text" "[I") (by decide +kernel)
  have hfl106 := hts (.fieldLink RX3 106 "WhisperedPotsModel" "spot" "I") (by decide +kernel)
  have hfl102 := hts (.fieldLink RX3 102 "WhisperedPotsModel" "isWrong" "Z") (by decide +kernel)
  have hS : va_S (AM o ps pa pv pn px) s.heap s.heap [] := va_S.rf
  have hne : o ≠ ps := fun h => absurd (hD.1 0 1 _ _ rfl rfl h) (by decide)
  refine lv_aload_n hx hb dX3_takes_0 rfl (lv_at hl 0 rfl) ?_
  refine lv_iload_n hx hb dX3_takes_1 rfl (lv_at hl 1 rfl) ?_
  refine lv_iload_n hx hb dX3_takes_2 rfl (lv_at hl 2 rfl) ?_
  refine q_ciF (BH := fun H => va_P D vwCl (wR o ps pa pv pn px cI (oM ps pa pv pn px th mn kp (nI len) (nI i) (p_b w) le wh te dg) (rr f) fa fv fn fx) H) (va_runV (rm := { frames := 1, cells := 0, slots := 0, locals := 22 }) (As := [.int (nI lo), .int (nI hi)]) (rest := []) ⟨hx, hb, hml, hown, hts⟩ (m3_isNext l D cI o ps pa pv pn px f fa fv fn fx th mn kp le wh te dg ch len i hlen (by omega) hfx hch lo hi (by omega) (by omega) w hD) (cwV 2 hts gX3_takes_X3_isNext rfl rfl rfl (by decide +kernel) ⟨Nat.le_of_ble_eq_true rfl, Nat.le_of_ble_eq_true rfl⟩) (q_pV (ci := 3) (q0 := 0) hP hK rfl rfl) rfl rfl hl.1 rfl (lv_room (Nat.le_of_ble_eq_true rfl)) dX3_takes_3 ⟨Nat.le_of_ble_eq_true rfl, Nat.le_of_ble_eq_true rfl⟩) (fun _ h => h) hS (fun _ h => h) (fun x1 H locs e1 hP hS => ?_)
  have e1 : x1 = nI 0 := by have h9 : x1 = p_b (n_ok ch len i w lo hi) := e1; rw [h9, hn]; rfl
  subst e1
  refine lv_istore_n (lv' := [(3, .int (nI 0)), (0, .ref o), (1, .int (nI lo)), (2, .int (nI hi))]) hx hb dX3_takes_6 rfl hl (by decide) rfl (fun ls hl => ?_)
  refine lv_iload_n hx hb dX3_takes_7 rfl (lv_at hl 0 rfl) ?_
  refine lv_if_eq (tgt := 25) hx hb dX3_takes_8 (by decide) (fun c2 => ?_) (fun c2 => absurd c2 (by decide))
  refine lv_iconst (v := nI 0) hx hb dX3_takes_25 (by decide) ?_
  refine lv_istore (lv' := [(4, .int (nI 0)), (3, .int (nI 0)), (0, .ref o), (1, .int (nI lo)), (2, .int (nI hi))]) hx hb dX3_takes_26 hl (by decide) rfl (fun ls hl => ?_)
  refine lv_aload_n hx hb dX3_takes_28 rfl (lv_at hl 2 rfl) ?_
  refine lv_dup hx hb dX3_takes_29 rfl ?_
  refine va_get (D := D) (ci := 3) (v := .int (nI i)) (C := RX3) (T := TX3) (N := 15) hx hb hts hi3 hown hK hP 0 rfl rfl 9 (by decide) hfl106 (fun _ h9 => h9) rfl dX3_takes_30 ?_
  refine lv_iload_n hx hb dX3_takes_33 rfl (lv_at hl 1 rfl) ?_
  refine lv_if_eq (tgt := 41) hx hb dX3_takes_34 (by decide) (fun c3 => ?_) (fun c3 => absurd c3 (by decide))
  refine lv_iconst (v := nI 0) hx hb dX3_takes_41 (by decide) ?_
  refine q_addN hx hb i (by omega) dX3_takes_42 ?_
  refine q_pt (D := D) (ci := 3) (v := .int (nI i)) (ty := .int) (C := RX3) (T := TX3) (N := 15) hx hb hts hi3 tyX3 tyX3_ok nmX3 hown hK hP hD hS (Or.inl rfl) 0 rfl rfl 9 (by decide) hfl106 (fun _ h9 => h9) rfl (by decide +kernel) rfl rfl (Nat.le_of_ble_eq_true rfl) (ws' := wR o ps pa pv pn px cI (oM ps pa pv pn px th mn kp (nI len) (nI i) (p_b w) le wh te dg) (rr f) fa fv fn fx) rfl dX3_takes_43 (fun H locs hP hD hS => ?_)
  refine lv_aload_n hx hb dX3_takes_46 rfl (lv_at hl 2 rfl) ?_
  refine lv_aload_n hx hb dX3_takes_47 rfl (lv_at hl 2 rfl) ?_
  refine va_get (D := D) (ci := 3) (v := .int (p_b w)) (C := RX3) (T := TX3) (N := 15) hx hb hts hi3 hown hK hP 0 rfl rfl 10 (by decide) hfl102 (fun _ h9 => h9) rfl dX3_takes_48 ?_
  refine lv_if_ne (tgt := 58) hx hb dX3_takes_51 (by decide) (fun c4 => ?_) (fun c4 => ?_)
  ·
    refine lv_iconst (v := nI 1) hx hb dX3_takes_58 (by decide) ?_
    refine lv_goto (tgt := 63) hx hb dX3_takes_59 (by decide) ?_
    refine q_pt (D := D) (ci := 3) (v := .int (nI 1)) (ty := .boolean) (C := RX3) (T := TX3) (N := 15) hx hb hts hi3 tyX3 tyX3_ok nmX3 hown hK hP hD hS (Or.inl rfl) 0 rfl rfl 10 (by decide) hfl102 (fun _ h9 => h9) rfl (by decide +kernel) rfl rfl (Nat.le_of_ble_eq_true rfl) (ws' := wR o ps pa pv pn px cI (oM ps pa pv pn px th mn kp (nI len) (nI i) (nI 1) le wh te dg) (rr f) fa fv fn fx) rfl dX3_takes_63 (fun H locs hP hD hS => ?_)
    refine lv_iload hx hb dX3_takes_66 (lv_at hl 0 rfl) ?_
    refine hret _ _ _ _ _ rfl ?_ (hP) hS dX3_takes_68
    rfl
  ·
    refine lv_iload_n hx hb dX3_takes_54 rfl (lv_at hl 1 rfl) ?_
    refine lv_if_ne (tgt := 62) hx hb dX3_takes_55 (by decide) (fun c5 => absurd c5 (by decide)) (fun c5 => ?_)
    refine lv_iconst (v := nI 1) hx hb dX3_takes_58 (by decide) ?_
    refine lv_goto (tgt := 63) hx hb dX3_takes_59 (by decide) ?_
    refine q_pt (D := D) (ci := 3) (v := .int (nI 1)) (ty := .boolean) (C := RX3) (T := TX3) (N := 15) hx hb hts hi3 tyX3 tyX3_ok nmX3 hown hK hP hD hS (Or.inl rfl) 0 rfl rfl 10 (by decide) hfl102 (fun _ h9 => h9) rfl (by decide +kernel) rfl rfl (Nat.le_of_ble_eq_true rfl) (ws' := wR o ps pa pv pn px cI (oM ps pa pv pn px th mn kp (nI len) (nI i) (nI 1) le wh te dg) (rr f) fa fv fn fx) rfl dX3_takes_63 (fun H locs hP hD hS => ?_)
    refine lv_iload hx hb dX3_takes_66 (lv_at hl 0 rfl) ?_
    refine hret _ _ _ _ _ rfl ?_ (hP) hS dX3_takes_68
    rfl
