set_option maxHeartbeats 4000000 in
set_option maxRecDepth 100000 in
theorem m3_rd_bad1 (l : Launch) (D : va_G) (cI : ClassId) (o ps pa pv pn px : Nat) (f fa fv fn fx : Nat → Int32) (th mn kp le wh te : Int32) (dg : Int64) (ch : Nat → Nat) (len i : Nat) (hlen : len ≤ 60) (hi61 : i ≤ 60) (hfx : ∀ j, j < len → fx j = nI (ch j)) (hch : ∀ j, j < len → ch j < 128) (hil : i < len) (hlet : p_let (ch i) = false) (hD : va_D (fun _ => True) (wR o ps pa pv pn px cI (oM ps pa pv pn px th mn kp (nI len) (nI i) (nI 0) le wh te dg) (rr f) fa fv fn fx)) : q_V l yX3_readErrand wsX3_readErrand { frames := 3, cells := 0, slots := 0, locals := 68 } [.ref o] (q_bp D (wR o ps pa pv pn px cI (oM ps pa pv pn px th mn kp (nI len) (nI i) (nI 0) le wh te dg) (rr f) fa fv fn fx) [(cI, .int)]) (fun H => va_P D vwCl (wR o ps pa pv pn px cI (oM ps pa pv pn px th mn kp (nI len) (nI i) (nI 1) (nI ((ch i))) (nI 0) te dg) (rr f) fa fv fn fx) H) (AM o ps pa pv pn px) 0 0 := by
  refine q_goV (cc := cX3_readErrand) (maxL := 1) (lv0 := [(0, .ref o)]) (by decide) rfl (Nat.le_of_ble_eq_true rfl) rfl ?_
  intro p e s m args below meth c Q ls hx hb hml hts hown hP hK hl hret hnm
  have hi3 : ∀ w ∈ wsX30, w ∈ wsX3_readErrand := by decide +kernel
  have hfl106 := hts (.fieldLink RX3 106 "WhisperedPotsModel" "spot" "I") (by decide +kernel)
  have hfl99 := hts (.fieldLink RX3 99 "WhisperedPotsModel" "length" "I") (by decide +kernel)
  have hfl22 := hts (.fieldLink RX3 22 "WhisperedPotsModel" "text" "[I") (by decide +kernel)
  have hfl113 := hts (.fieldLink RX3 113 "WhisperedPotsModel" "letter" "I") (by decide +kernel)
  have hfl102 := hts (.fieldLink RX3 102 "WhisperedPotsModel" "isWrong" "Z") (by decide +kernel)
  have hfl119 := hts (.fieldLink RX3 119 "WhisperedPotsModel" "whose" "I") (by decide +kernel)
  have hfl122 := hts (.fieldLink RX3 122 "WhisperedPotsModel" "tea" "I") (by decide +kernel)
  have hS : va_S (AM o ps pa pv pn px) s.heap s.heap [] := va_S.rf
  have hci := hch i hil
  simp only [p_let, Bool.or_eq_false_iff, beq_eq_false_iff_ne] at hlet
  obtain ⟨⟨⟨⟨⟨b1, b2⟩, b3⟩, b4⟩, b5⟩, b6⟩ := hlet
  have hne : o ≠ ps := fun h => absurd (hD.1 0 1 _ _ rfl rfl h) (by decide)
  refine lv_aload_n hx hb dX3_readErrand_0 rfl (lv_at hl 0 rfl) ?_
  refine lv_aload_n hx hb dX3_readErrand_1 rfl (lv_at hl 0 rfl) ?_
  refine va_get (D := D) (ci := 3) (v := .int (nI i)) (C := RX3) (T := TX3) (N := 15) hx hb hts hi3 hown hK hP 0 rfl rfl 9 (by decide) hfl106 (fun _ h9 => h9) rfl dX3_readErrand_2 ?_
  refine lv_aload_n hx hb dX3_readErrand_5 rfl (lv_at hl 0 rfl) ?_
  refine va_get (D := D) (ci := 3) (v := .int (nI len)) (C := RX3) (T := TX3) (N := 15) hx hb hts hi3 hown hK hP 0 rfl rfl 8 (by decide) hfl99 (fun _ h9 => h9) rfl dX3_readErrand_6 ?_
  refine q_geN (tgt := 24) hx hb (by omega) (by omega) dX3_readErrand_9 (by decide) (fun c1 => absurd c1 (by omega)) (fun c1 => ?_)
  refine lv_aload_n hx hb dX3_readErrand_12 rfl (lv_at hl 0 rfl) ?_
  refine va_get (D := D) (ci := 3) (v := .ref px) (C := RX3) (T := TX3) (N := 15) hx hb hts hi3 hown hK hP 0 rfl rfl 7 (by decide) hfl22 (fun _ h9 => h9) rfl dX3_readErrand_13 ?_
  refine lv_aload_n hx hb dX3_readErrand_16 rfl (lv_at hl 0 rfl) ?_
  refine va_get (D := D) (ci := 3) (v := .int (nI i)) (C := RX3) (T := TX3) (N := 15) hx hb hts hi3 hown hK hP 0 rfl rfl 9 (by decide) hfl106 (fun _ h9 => h9) rfl dX3_readErrand_17 ?_
  refine q_ld hx hb hK hP 5 0 rfl rfl (j := i) (v := (nI ((ch i)))) (by omega) (by omega) (hfx _ (by omega)) dX3_readErrand_20 ?_
  refine lv_goto (tgt := 25) hx hb dX3_readErrand_21 (by decide) ?_
  refine q_pt (D := D) (ci := 3) (v := .int (nI ((ch i)))) (ty := .int) (C := RX3) (T := TX3) (N := 15) hx hb hts hi3 tyX3 tyX3_ok nmX3 hown hK hP hD hS (Or.inl rfl) 0 rfl rfl 11 (by decide) hfl113 (fun _ h9 => h9) rfl (by decide +kernel) rfl rfl (Nat.le_of_ble_eq_true rfl) (ws' := wR o ps pa pv pn px cI (oM ps pa pv pn px th mn kp (nI len) (nI i) (nI 0) (nI ((ch i))) wh te dg) (rr f) fa fv fn fx) rfl dX3_readErrand_25 (fun H locs hP hD hS => ?_)
  refine lv_aload_n hx hb dX3_readErrand_28 rfl (lv_at hl 0 rfl) ?_
  refine lv_aload_n hx hb dX3_readErrand_29 rfl (lv_at hl 0 rfl) ?_
  refine va_get (D := D) (ci := 3) (v := .int (nI 0)) (C := RX3) (T := TX3) (N := 15) hx hb hts hi3 hown hK hP 0 rfl rfl 10 (by decide) hfl102 (fun _ h9 => h9) rfl dX3_readErrand_30 ?_
  refine lv_if_ne (tgt := 90) hx hb dX3_readErrand_33 (by decide) (fun c2 => absurd c2 (by decide)) (fun c2 => ?_)
  refine lv_aload_n hx hb dX3_readErrand_36 rfl (lv_at hl 0 rfl) ?_
  refine va_get (D := D) (ci := 3) (v := .int (nI ((ch i)))) (C := RX3) (T := TX3) (N := 15) hx hb hts hi3 hown hK hP 0 rfl rfl 11 (by decide) hfl113 (fun _ h9 => h9) rfl dX3_readErrand_37 ?_
  refine lv_bipush (v := nI 98) hx hb dX3_readErrand_40 (by decide) ?_
  refine q_eqN (tgt := 94) hx hb (by omega) (by omega) dX3_readErrand_42 (by decide) (fun c3 => absurd c3 (by omega)) (fun c3 => ?_)
  refine lv_aload_n hx hb dX3_readErrand_45 rfl (lv_at hl 0 rfl) ?_
  refine va_get (D := D) (ci := 3) (v := .int (nI ((ch i)))) (C := RX3) (T := TX3) (N := 15) hx hb hts hi3 hown hK hP 0 rfl rfl 11 (by decide) hfl113 (fun _ h9 => h9) rfl dX3_readErrand_46 ?_
  refine lv_bipush (v := nI 112) hx hb dX3_readErrand_49 (by decide) ?_
  refine q_eqN (tgt := 94) hx hb (by omega) (by omega) dX3_readErrand_51 (by decide) (fun c4 => absurd c4 (by omega)) (fun c4 => ?_)
  refine lv_aload_n hx hb dX3_readErrand_54 rfl (lv_at hl 0 rfl) ?_
  refine va_get (D := D) (ci := 3) (v := .int (nI ((ch i)))) (C := RX3) (T := TX3) (N := 15) hx hb hts hi3 hown hK hP 0 rfl rfl 11 (by decide) hfl113 (fun _ h9 => h9) rfl dX3_readErrand_55 ?_
  refine lv_bipush (v := nI 110) hx hb dX3_readErrand_58 (by decide) ?_
  refine q_eqN (tgt := 94) hx hb (by omega) (by omega) dX3_readErrand_60 (by decide) (fun c5 => absurd c5 (by omega)) (fun c5 => ?_)
  refine lv_aload_n hx hb dX3_readErrand_63 rfl (lv_at hl 0 rfl) ?_
  refine va_get (D := D) (ci := 3) (v := .int (nI ((ch i)))) (C := RX3) (T := TX3) (N := 15) hx hb hts hi3 hown hK hP 0 rfl rfl 11 (by decide) hfl113 (fun _ h9 => h9) rfl dX3_readErrand_64 ?_
  refine lv_bipush (v := nI 108) hx hb dX3_readErrand_67 (by decide) ?_
  refine q_eqN (tgt := 94) hx hb (by omega) (by omega) dX3_readErrand_69 (by decide) (fun c6 => absurd c6 (by omega)) (fun c6 => ?_)
  refine lv_aload_n hx hb dX3_readErrand_72 rfl (lv_at hl 0 rfl) ?_
  refine va_get (D := D) (ci := 3) (v := .int (nI ((ch i)))) (C := RX3) (T := TX3) (N := 15) hx hb hts hi3 hown hK hP 0 rfl rfl 11 (by decide) hfl113 (fun _ h9 => h9) rfl dX3_readErrand_73 ?_
  refine lv_bipush (v := nI 114) hx hb dX3_readErrand_76 (by decide) ?_
  refine q_eqN (tgt := 94) hx hb (by omega) (by omega) dX3_readErrand_78 (by decide) (fun c7 => absurd c7 (by omega)) (fun c7 => ?_)
  refine lv_aload_n hx hb dX3_readErrand_81 rfl (lv_at hl 0 rfl) ?_
  refine va_get (D := D) (ci := 3) (v := .int (nI ((ch i)))) (C := RX3) (T := TX3) (N := 15) hx hb hts hi3 hown hK hP 0 rfl rfl 11 (by decide) hfl113 (fun _ h9 => h9) rfl dX3_readErrand_82 ?_
  refine lv_bipush (v := nI 115) hx hb dX3_readErrand_85 (by decide) ?_
  refine q_eqN (tgt := 94) hx hb (by omega) (by omega) dX3_readErrand_87 (by decide) (fun c8 => absurd c8 (by omega)) (fun c8 => ?_)
  refine lv_iconst (v := nI 1) hx hb dX3_readErrand_90 (by decide) ?_
  refine lv_goto (tgt := 95) hx hb dX3_readErrand_91 (by decide) ?_
  refine q_pt (D := D) (ci := 3) (v := .int (nI 1)) (ty := .boolean) (C := RX3) (T := TX3) (N := 15) hx hb hts hi3 tyX3 tyX3_ok nmX3 hown hK hP hD hS (Or.inl rfl) 0 rfl rfl 10 (by decide) hfl102 (fun _ h9 => h9) rfl (by decide +kernel) rfl rfl (Nat.le_of_ble_eq_true rfl) (ws' := wR o ps pa pv pn px cI (oM ps pa pv pn px th mn kp (nI len) (nI i) (nI 1) (nI ((ch i))) wh te dg) (rr f) fa fv fn fx) rfl dX3_readErrand_95 (fun H locs hP hD hS => ?_)
  refine lv_aload_n hx hb dX3_readErrand_98 rfl (lv_at hl 0 rfl) ?_
  refine lv_dup hx hb dX3_readErrand_99 rfl ?_
  refine va_get (D := D) (ci := 3) (v := .int (nI i)) (C := RX3) (T := TX3) (N := 15) hx hb hts hi3 hown hK hP 0 rfl rfl 9 (by decide) hfl106 (fun _ h9 => h9) rfl dX3_readErrand_100 ?_
  refine lv_aload_n hx hb dX3_readErrand_103 rfl (lv_at hl 0 rfl) ?_
  refine va_get (D := D) (ci := 3) (v := .int (nI 1)) (C := RX3) (T := TX3) (N := 15) hx hb hts hi3 hown hK hP 0 rfl rfl 10 (by decide) hfl102 (fun _ h9 => h9) rfl dX3_readErrand_104 ?_
  refine lv_if_eq (tgt := 114) hx hb dX3_readErrand_107 (by decide) (fun c9 => absurd c9 (by decide)) (fun c9 => ?_)
  refine lv_iconst (v := nI 0) hx hb dX3_readErrand_110 (by decide) ?_
  refine lv_goto (tgt := 115) hx hb dX3_readErrand_111 (by decide) ?_
  refine q_addN hx hb i (by omega) dX3_readErrand_115 ?_
  refine q_pt (D := D) (ci := 3) (v := .int (nI i)) (ty := .int) (C := RX3) (T := TX3) (N := 15) hx hb hts hi3 tyX3 tyX3_ok nmX3 hown hK hP hD hS (Or.inl rfl) 0 rfl rfl 9 (by decide) hfl106 (fun _ h9 => h9) rfl (by decide +kernel) rfl rfl (Nat.le_of_ble_eq_true rfl) (ws' := wR o ps pa pv pn px cI (oM ps pa pv pn px th mn kp (nI len) (nI i) (nI 1) (nI ((ch i))) wh te dg) (rr f) fa fv fn fx) rfl dX3_readErrand_116 (fun H locs hP hD hS => ?_)
  refine lv_aload_n hx hb dX3_readErrand_119 rfl (lv_at hl 0 rfl) ?_
  refine lv_aload_n hx hb dX3_readErrand_120 rfl (lv_at hl 0 rfl) ?_
  refine lv_bipush (v := nI 48) hx hb dX3_readErrand_121 (by decide) ?_
  refine lv_aload_n hx hb dX3_readErrand_123 rfl (lv_at hl 0 rfl) ?_
  refine va_get (D := D) (ci := 3) (v := .int (nI ((ch i)))) (C := RX3) (T := TX3) (N := 15) hx hb hts hi3 hown hK hP 0 rfl rfl 11 (by decide) hfl113 (fun _ h9 => h9) rfl dX3_readErrand_124 ?_
  refine lv_bipush (v := nI 115) hx hb dX3_readErrand_127 (by decide) ?_
  refine q_neN (tgt := 137) hx hb (by omega) (by omega) dX3_readErrand_129 (by decide) (fun c10 => ?_) (fun c10 => absurd c10 (by omega))
  refine lv_bipush (v := nI 50) hx hb dX3_readErrand_137 (by decide) ?_
  refine q_ciF (BH := fun H => va_P D vwCl (wR o ps pa pv pn px cI (oM ps pa pv pn px th mn kp (nI len) (nI i) (nI 1) (nI ((ch i))) wh te dg) (rr f) fa fv fn fx) H) (va_runV (rm := { frames := 2, cells := 0, slots := 0, locals := 44 }) (As := [.int (nI 48), .int (nI 50)]) (rest := [.ref o]) ⟨hx, hb, hml, hown, hts⟩ (m3_takes_f l D cI o ps pa pv pn px f fa fv fn fx th mn kp (nI ((ch i))) wh te dg ch len i hlen (by omega) hfx hch 48 50 (by omega) (by omega) true rfl hD) (cwV 2 hts gX3_readErrand_X3_takes rfl rfl rfl (by decide +kernel) ⟨Nat.le_of_ble_eq_true rfl, Nat.le_of_ble_eq_true rfl⟩) (q_pV (ci := 3) (q0 := 0) hP hK rfl rfl) rfl rfl hl.1 rfl (lv_room (Nat.le_of_ble_eq_true rfl)) dX3_readErrand_139 ⟨Nat.le_of_ble_eq_true rfl, Nat.le_of_ble_eq_true rfl⟩) (fun t h => h) hS (fun _ h => h) (fun x11 H locs e11 hP hS => ?_)
  have hD := q_D2 (ws' := wR o ps pa pv pn px cI (oM ps pa pv pn px th mn kp (nI len) (nI i) (nI 1) (nI ((ch i))) wh te dg) (rr f) fa fv fn fx) hD rfl
  have e11 : x11 = (nI 0) := e11
  subst e11
  refine q_pt (D := D) (ci := 3) (v := .int (nI 0)) (ty := .int) (C := RX3) (T := TX3) (N := 15) hx hb hts hi3 tyX3 tyX3_ok nmX3 hown hK hP hD hS (Or.inl rfl) 0 rfl rfl 12 (by decide) hfl119 (fun _ h9 => h9) rfl (by decide +kernel) rfl rfl (Nat.le_of_ble_eq_true rfl) (ws' := wR o ps pa pv pn px cI (oM ps pa pv pn px th mn kp (nI len) (nI i) (nI 1) (nI ((ch i))) (nI 0) te dg) (rr f) fa fv fn fx) rfl dX3_readErrand_142 (fun H locs hP hD hS => ?_)
  refine lv_aload_n hx hb dX3_readErrand_145 rfl (lv_at hl 0 rfl) ?_
  refine va_get (D := D) (ci := 3) (v := .int (nI ((ch i)))) (C := RX3) (T := TX3) (N := 15) hx hb hts hi3 hown hK hP 0 rfl rfl 11 (by decide) hfl113 (fun _ h9 => h9) rfl dX3_readErrand_146 ?_
  refine lv_bipush (v := nI 98) hx hb dX3_readErrand_149 (by decide) ?_
  refine q_neN (tgt := 242) hx hb (by omega) (by omega) dX3_readErrand_151 (by decide) (fun c12 => ?_) (fun c12 => absurd c12 (by omega))
  exact hret _ _ _ _ (hP) hS dX3_readErrand_242
set_option maxHeartbeats 4000000 in
set_option maxRecDepth 100000 in
theorem m3_rd_bad2 (l : Launch) (D : va_G) (cI : ClassId) (o ps pa pv pn px : Nat) (f fa fv fn fx : Nat → Int32) (th mn kp le wh te : Int32) (dg : Int64) (ch : Nat → Nat) (len i : Nat) (hlen : len ≤ 60) (hi61 : i ≤ 60) (hfx : ∀ j, j < len → fx j = nI (ch j)) (hch : ∀ j, j < len → ch j < 128) (hil : len ≤ i) (hD : va_D (fun _ => True) (wR o ps pa pv pn px cI (oM ps pa pv pn px th mn kp (nI len) (nI i) (nI 0) le wh te dg) (rr f) fa fv fn fx)) : q_V l yX3_readErrand wsX3_readErrand { frames := 3, cells := 0, slots := 0, locals := 68 } [.ref o] (q_bp D (wR o ps pa pv pn px cI (oM ps pa pv pn px th mn kp (nI len) (nI i) (nI 0) le wh te dg) (rr f) fa fv fn fx) [(cI, .int)]) (fun H => va_P D vwCl (wR o ps pa pv pn px cI (oM ps pa pv pn px th mn kp (nI len) (nI i) (nI 1) (nI 0) (nI 0) te dg) (rr f) fa fv fn fx) H) (AM o ps pa pv pn px) 0 0 := by
  refine q_goV (cc := cX3_readErrand) (maxL := 1) (lv0 := [(0, .ref o)]) (by decide) rfl (Nat.le_of_ble_eq_true rfl) rfl ?_
  intro p e s m args below meth c Q ls hx hb hml hts hown hP hK hl hret hnm
  have hi3 : ∀ w ∈ wsX30, w ∈ wsX3_readErrand := by decide +kernel
  have hfl106 := hts (.fieldLink RX3 106 "WhisperedPotsModel" "spot" "I") (by decide +kernel)
  have hfl99 := hts (.fieldLink RX3 99 "WhisperedPotsModel" "length" "I") (by decide +kernel)
  have hfl22 := hts (.fieldLink RX3 22 "WhisperedPotsModel" "text" "[I") (by decide +kernel)
  have hfl113 := hts (.fieldLink RX3 113 "WhisperedPotsModel" "letter" "I") (by decide +kernel)
  have hfl102 := hts (.fieldLink RX3 102 "WhisperedPotsModel" "isWrong" "Z") (by decide +kernel)
  have hfl119 := hts (.fieldLink RX3 119 "WhisperedPotsModel" "whose" "I") (by decide +kernel)
  have hfl122 := hts (.fieldLink RX3 122 "WhisperedPotsModel" "tea" "I") (by decide +kernel)
  have hS : va_S (AM o ps pa pv pn px) s.heap s.heap [] := va_S.rf
  have hne : o ≠ ps := fun h => absurd (hD.1 0 1 _ _ rfl rfl h) (by decide)
  refine lv_aload_n hx hb dX3_readErrand_0 rfl (lv_at hl 0 rfl) ?_
  refine lv_aload_n hx hb dX3_readErrand_1 rfl (lv_at hl 0 rfl) ?_
  refine va_get (D := D) (ci := 3) (v := .int (nI i)) (C := RX3) (T := TX3) (N := 15) hx hb hts hi3 hown hK hP 0 rfl rfl 9 (by decide) hfl106 (fun _ h9 => h9) rfl dX3_readErrand_2 ?_
  refine lv_aload_n hx hb dX3_readErrand_5 rfl (lv_at hl 0 rfl) ?_
  refine va_get (D := D) (ci := 3) (v := .int (nI len)) (C := RX3) (T := TX3) (N := 15) hx hb hts hi3 hown hK hP 0 rfl rfl 8 (by decide) hfl99 (fun _ h9 => h9) rfl dX3_readErrand_6 ?_
  refine q_geN (tgt := 24) hx hb (by omega) (by omega) dX3_readErrand_9 (by decide) (fun c1 => ?_) (fun c1 => absurd c1 (by omega))
  refine lv_iconst (v := nI 0) hx hb dX3_readErrand_24 (by decide) ?_
  refine q_pt (D := D) (ci := 3) (v := .int (nI 0)) (ty := .int) (C := RX3) (T := TX3) (N := 15) hx hb hts hi3 tyX3 tyX3_ok nmX3 hown hK hP hD hS (Or.inl rfl) 0 rfl rfl 11 (by decide) hfl113 (fun _ h9 => h9) rfl (by decide +kernel) rfl rfl (Nat.le_of_ble_eq_true rfl) (ws' := wR o ps pa pv pn px cI (oM ps pa pv pn px th mn kp (nI len) (nI i) (nI 0) (nI 0) wh te dg) (rr f) fa fv fn fx) rfl dX3_readErrand_25 (fun H locs hP hD hS => ?_)
  refine lv_aload_n hx hb dX3_readErrand_28 rfl (lv_at hl 0 rfl) ?_
  refine lv_aload_n hx hb dX3_readErrand_29 rfl (lv_at hl 0 rfl) ?_
  refine va_get (D := D) (ci := 3) (v := .int (nI 0)) (C := RX3) (T := TX3) (N := 15) hx hb hts hi3 hown hK hP 0 rfl rfl 10 (by decide) hfl102 (fun _ h9 => h9) rfl dX3_readErrand_30 ?_
  refine lv_if_ne (tgt := 90) hx hb dX3_readErrand_33 (by decide) (fun c2 => absurd c2 (by decide)) (fun c2 => ?_)
  refine lv_aload_n hx hb dX3_readErrand_36 rfl (lv_at hl 0 rfl) ?_
  refine va_get (D := D) (ci := 3) (v := .int (nI 0)) (C := RX3) (T := TX3) (N := 15) hx hb hts hi3 hown hK hP 0 rfl rfl 11 (by decide) hfl113 (fun _ h9 => h9) rfl dX3_readErrand_37 ?_
  refine lv_bipush (v := nI 98) hx hb dX3_readErrand_40 (by decide) ?_
  refine q_eqN (tgt := 94) hx hb (by omega) (by omega) dX3_readErrand_42 (by decide) (fun c3 => absurd c3 (by decide)) (fun c3 => ?_)
  refine lv_aload_n hx hb dX3_readErrand_45 rfl (lv_at hl 0 rfl) ?_
  refine va_get (D := D) (ci := 3) (v := .int (nI 0)) (C := RX3) (T := TX3) (N := 15) hx hb hts hi3 hown hK hP 0 rfl rfl 11 (by decide) hfl113 (fun _ h9 => h9) rfl dX3_readErrand_46 ?_
  refine lv_bipush (v := nI 112) hx hb dX3_readErrand_49 (by decide) ?_
  refine q_eqN (tgt := 94) hx hb (by omega) (by omega) dX3_readErrand_51 (by decide) (fun c4 => absurd c4 (by decide)) (fun c4 => ?_)
  refine lv_aload_n hx hb dX3_readErrand_54 rfl (lv_at hl 0 rfl) ?_
  refine va_get (D := D) (ci := 3) (v := .int (nI 0)) (C := RX3) (T := TX3) (N := 15) hx hb hts hi3 hown hK hP 0 rfl rfl 11 (by decide) hfl113 (fun _ h9 => h9) rfl dX3_readErrand_55 ?_
  refine lv_bipush (v := nI 110) hx hb dX3_readErrand_58 (by decide) ?_
  refine q_eqN (tgt := 94) hx hb (by omega) (by omega) dX3_readErrand_60 (by decide) (fun c5 => absurd c5 (by decide)) (fun c5 => ?_)
  refine lv_aload_n hx hb dX3_readErrand_63 rfl (lv_at hl 0 rfl) ?_
  refine va_get (D := D) (ci := 3) (v := .int (nI 0)) (C := RX3) (T := TX3) (N := 15) hx hb hts hi3 hown hK hP 0 rfl rfl 11 (by decide) hfl113 (fun _ h9 => h9) rfl dX3_readErrand_64 ?_
  refine lv_bipush (v := nI 108) hx hb dX3_readErrand_67 (by decide) ?_
  refine q_eqN (tgt := 94) hx hb (by omega) (by omega) dX3_readErrand_69 (by decide) (fun c6 => absurd c6 (by decide)) (fun c6 => ?_)
  refine lv_aload_n hx hb dX3_readErrand_72 rfl (lv_at hl 0 rfl) ?_
  refine va_get (D := D) (ci := 3) (v := .int (nI 0)) (C := RX3) (T := TX3) (N := 15) hx hb hts hi3 hown hK hP 0 rfl rfl 11 (by decide) hfl113 (fun _ h9 => h9) rfl dX3_readErrand_73 ?_
  refine lv_bipush (v := nI 114) hx hb dX3_readErrand_76 (by decide) ?_
  refine q_eqN (tgt := 94) hx hb (by omega) (by omega) dX3_readErrand_78 (by decide) (fun c7 => absurd c7 (by decide)) (fun c7 => ?_)
  refine lv_aload_n hx hb dX3_readErrand_81 rfl (lv_at hl 0 rfl) ?_
  refine va_get (D := D) (ci := 3) (v := .int (nI 0)) (C := RX3) (T := TX3) (N := 15) hx hb hts hi3 hown hK hP 0 rfl rfl 11 (by decide) hfl113 (fun _ h9 => h9) rfl dX3_readErrand_82 ?_
  refine lv_bipush (v := nI 115) hx hb dX3_readErrand_85 (by decide) ?_
  refine q_eqN (tgt := 94) hx hb (by omega) (by omega) dX3_readErrand_87 (by decide) (fun c8 => absurd c8 (by decide)) (fun c8 => ?_)
  refine lv_iconst (v := nI 1) hx hb dX3_readErrand_90 (by decide) ?_
  refine lv_goto (tgt := 95) hx hb dX3_readErrand_91 (by decide) ?_
  refine q_pt (D := D) (ci := 3) (v := .int (nI 1)) (ty := .boolean) (C := RX3) (T := TX3) (N := 15) hx hb hts hi3 tyX3 tyX3_ok nmX3 hown hK hP hD hS (Or.inl rfl) 0 rfl rfl 10 (by decide) hfl102 (fun _ h9 => h9) rfl (by decide +kernel) rfl rfl (Nat.le_of_ble_eq_true rfl) (ws' := wR o ps pa pv pn px cI (oM ps pa pv pn px th mn kp (nI len) (nI i) (nI 1) (nI 0) wh te dg) (rr f) fa fv fn fx) rfl dX3_readErrand_95 (fun H locs hP hD hS => ?_)
  refine lv_aload_n hx hb dX3_readErrand_98 rfl (lv_at hl 0 rfl) ?_
  refine lv_dup hx hb dX3_readErrand_99 rfl ?_
  refine va_get (D := D) (ci := 3) (v := .int (nI i)) (C := RX3) (T := TX3) (N := 15) hx hb hts hi3 hown hK hP 0 rfl rfl 9 (by decide) hfl106 (fun _ h9 => h9) rfl dX3_readErrand_100 ?_
  refine lv_aload_n hx hb dX3_readErrand_103 rfl (lv_at hl 0 rfl) ?_
  refine va_get (D := D) (ci := 3) (v := .int (nI 1)) (C := RX3) (T := TX3) (N := 15) hx hb hts hi3 hown hK hP 0 rfl rfl 10 (by decide) hfl102 (fun _ h9 => h9) rfl dX3_readErrand_104 ?_
  refine lv_if_eq (tgt := 114) hx hb dX3_readErrand_107 (by decide) (fun c9 => absurd c9 (by decide)) (fun c9 => ?_)
  refine lv_iconst (v := nI 0) hx hb dX3_readErrand_110 (by decide) ?_
  refine lv_goto (tgt := 115) hx hb dX3_readErrand_111 (by decide) ?_
  refine q_addN hx hb i (by omega) dX3_readErrand_115 ?_
  refine q_pt (D := D) (ci := 3) (v := .int (nI i)) (ty := .int) (C := RX3) (T := TX3) (N := 15) hx hb hts hi3 tyX3 tyX3_ok nmX3 hown hK hP hD hS (Or.inl rfl) 0 rfl rfl 9 (by decide) hfl106 (fun _ h9 => h9) rfl (by decide +kernel) rfl rfl (Nat.le_of_ble_eq_true rfl) (ws' := wR o ps pa pv pn px cI (oM ps pa pv pn px th mn kp (nI len) (nI i) (nI 1) (nI 0) wh te dg) (rr f) fa fv fn fx) rfl dX3_readErrand_116 (fun H locs hP hD hS => ?_)
  refine lv_aload_n hx hb dX3_readErrand_119 rfl (lv_at hl 0 rfl) ?_
  refine lv_aload_n hx hb dX3_readErrand_120 rfl (lv_at hl 0 rfl) ?_
  refine lv_bipush (v := nI 48) hx hb dX3_readErrand_121 (by decide) ?_
  refine lv_aload_n hx hb dX3_readErrand_123 rfl (lv_at hl 0 rfl) ?_
  refine va_get (D := D) (ci := 3) (v := .int (nI 0)) (C := RX3) (T := TX3) (N := 15) hx hb hts hi3 hown hK hP 0 rfl rfl 11 (by decide) hfl113 (fun _ h9 => h9) rfl dX3_readErrand_124 ?_
  refine lv_bipush (v := nI 115) hx hb dX3_readErrand_127 (by decide) ?_
  refine q_neN (tgt := 137) hx hb (by omega) (by omega) dX3_readErrand_129 (by decide) (fun c10 => ?_) (fun c10 => absurd c10 (by decide))
  refine lv_bipush (v := nI 50) hx hb dX3_readErrand_137 (by decide) ?_
  refine q_ciF (BH := fun H => va_P D vwCl (wR o ps pa pv pn px cI (oM ps pa pv pn px th mn kp (nI len) (nI i) (nI 1) (nI 0) wh te dg) (rr f) fa fv fn fx) H) (va_runV (rm := { frames := 2, cells := 0, slots := 0, locals := 44 }) (As := [.int (nI 48), .int (nI 50)]) (rest := [.ref o]) ⟨hx, hb, hml, hown, hts⟩ (m3_takes_f l D cI o ps pa pv pn px f fa fv fn fx th mn kp (nI 0) wh te dg ch len i hlen (by omega) hfx hch 48 50 (by omega) (by omega) true rfl hD) (cwV 2 hts gX3_readErrand_X3_takes rfl rfl rfl (by decide +kernel) ⟨Nat.le_of_ble_eq_true rfl, Nat.le_of_ble_eq_true rfl⟩) (q_pV (ci := 3) (q0 := 0) hP hK rfl rfl) rfl rfl hl.1 rfl (lv_room (Nat.le_of_ble_eq_true rfl)) dX3_readErrand_139 ⟨Nat.le_of_ble_eq_true rfl, Nat.le_of_ble_eq_true rfl⟩) (fun t h => h) hS (fun _ h => h) (fun x11 H locs e11 hP hS => ?_)
  have hD := q_D2 (ws' := wR o ps pa pv pn px cI (oM ps pa pv pn px th mn kp (nI len) (nI i) (nI 1) (nI 0) wh te dg) (rr f) fa fv fn fx) hD rfl
  have e11 : x11 = (nI 0) := e11
  subst e11
  refine q_pt (D := D) (ci := 3) (v := .int (nI 0)) (ty := .int) (C := RX3) (T := TX3) (N := 15) hx hb hts hi3 tyX3 tyX3_ok nmX3 hown hK hP hD hS (Or.inl rfl) 0 rfl rfl 12 (by decide) hfl119 (fun _ h9 => h9) rfl (by decide +kernel) rfl rfl (Nat.le_of_ble_eq_true rfl) (ws' := wR o ps pa pv pn px cI (oM ps pa pv pn px th mn kp (nI len) (nI i) (nI 1) (nI 0) (nI 0) te dg) (rr f) fa fv fn fx) rfl dX3_readErrand_142 (fun H locs hP hD hS => ?_)
  refine lv_aload_n hx hb dX3_readErrand_145 rfl (lv_at hl 0 rfl) ?_
  refine va_get (D := D) (ci := 3) (v := .int (nI 0)) (C := RX3) (T := TX3) (N := 15) hx hb hts hi3 hown hK hP 0 rfl rfl 11 (by decide) hfl113 (fun _ h9 => h9) rfl dX3_readErrand_146 ?_
  refine lv_bipush (v := nI 98) hx hb dX3_readErrand_149 (by decide) ?_
  refine q_neN (tgt := 242) hx hb (by omega) (by omega) dX3_readErrand_151 (by decide) (fun c12 => ?_) (fun c12 => absurd c12 (by decide))
  exact hret _ _ _ _ (hP) hS dX3_readErrand_242
set_option maxHeartbeats 4000000 in
set_option maxRecDepth 100000 in
theorem m3_rd_112_F (l : Launch) (D : va_G) (cI : ClassId) (o ps pa pv pn px : Nat) (f fa fv fn fx : Nat → Int32) (th mn kp le wh te : Int32) (dg : Int64) (ch : Nat → Nat) (len i : Nat) (hlen : len ≤ 60) (hi61 : i ≤ 60) (hfx : ∀ j, j < len → fx j = nI (ch j)) (hch : ∀ j, j < len → ch j < 128) (hil : i < len) (hc : ch i = 112) (hn : n_ok ch len (1 + i) false 48 50 = false) (hD : va_D (fun _ => True) (wR o ps pa pv pn px cI (oM ps pa pv pn px th mn kp (nI len) (nI i) (nI 0) le wh te dg) (rr f) fa fv fn fx)) : q_V l yX3_readErrand wsX3_readErrand { frames := 3, cells := 0, slots := 0, locals := 68 } [.ref o] (q_bp D (wR o ps pa pv pn px cI (oM ps pa pv pn px th mn kp (nI len) (nI i) (nI 0) le wh te dg) (rr f) fa fv fn fx) [(cI, .int)]) (fun H => va_P D vwCl (wR o ps pa pv pn px cI (oM ps pa pv pn px th mn kp (nI len) (nI (1 + i)) (nI 1) (nI 112) (nI 0) te dg) (rr f) fa fv fn fx) H) (AM o ps pa pv pn px) 0 0 := by
  refine q_goV (cc := cX3_readErrand) (maxL := 1) (lv0 := [(0, .ref o)]) (by decide) rfl (Nat.le_of_ble_eq_true rfl) rfl ?_
  intro p e s m args below meth c Q ls hx hb hml hts hown hP hK hl hret hnm
  have hi3 : ∀ w ∈ wsX30, w ∈ wsX3_readErrand := by decide +kernel
  have hfl106 := hts (.fieldLink RX3 106 "WhisperedPotsModel" "spot" "I") (by decide +kernel)
  have hfl99 := hts (.fieldLink RX3 99 "WhisperedPotsModel" "length" "I") (by decide +kernel)
  have hfl22 := hts (.fieldLink RX3 22 "WhisperedPotsModel" "text" "[I") (by decide +kernel)
  have hfl113 := hts (.fieldLink RX3 113 "WhisperedPotsModel" "letter" "I") (by decide +kernel)
  have hfl102 := hts (.fieldLink RX3 102 "WhisperedPotsModel" "isWrong" "Z") (by decide +kernel)
  have hfl119 := hts (.fieldLink RX3 119 "WhisperedPotsModel" "whose" "I") (by decide +kernel)
  have hfl122 := hts (.fieldLink RX3 122 "WhisperedPotsModel" "tea" "I") (by decide +kernel)
  have hS : va_S (AM o ps pa pv pn px) s.heap s.heap [] := va_S.rf
  have hne : o ≠ ps := fun h => absurd (hD.1 0 1 _ _ rfl rfl h) (by decide)
  refine lv_aload_n hx hb dX3_readErrand_0 rfl (lv_at hl 0 rfl) ?_
  refine lv_aload_n hx hb dX3_readErrand_1 rfl (lv_at hl 0 rfl) ?_
  refine va_get (D := D) (ci := 3) (v := .int (nI i)) (C := RX3) (T := TX3) (N := 15) hx hb hts hi3 hown hK hP 0 rfl rfl 9 (by decide) hfl106 (fun _ h9 => h9) rfl dX3_readErrand_2 ?_
  refine lv_aload_n hx hb dX3_readErrand_5 rfl (lv_at hl 0 rfl) ?_
  refine va_get (D := D) (ci := 3) (v := .int (nI len)) (C := RX3) (T := TX3) (N := 15) hx hb hts hi3 hown hK hP 0 rfl rfl 8 (by decide) hfl99 (fun _ h9 => h9) rfl dX3_readErrand_6 ?_
  refine q_geN (tgt := 24) hx hb (by omega) (by omega) dX3_readErrand_9 (by decide) (fun c1 => absurd c1 (by omega)) (fun c1 => ?_)
  refine lv_aload_n hx hb dX3_readErrand_12 rfl (lv_at hl 0 rfl) ?_
  refine va_get (D := D) (ci := 3) (v := .ref px) (C := RX3) (T := TX3) (N := 15) hx hb hts hi3 hown hK hP 0 rfl rfl 7 (by decide) hfl22 (fun _ h9 => h9) rfl dX3_readErrand_13 ?_
  refine lv_aload_n hx hb dX3_readErrand_16 rfl (lv_at hl 0 rfl) ?_
  refine va_get (D := D) (ci := 3) (v := .int (nI i)) (C := RX3) (T := TX3) (N := 15) hx hb hts hi3 hown hK hP 0 rfl rfl 9 (by decide) hfl106 (fun _ h9 => h9) rfl dX3_readErrand_17 ?_
  refine q_ld hx hb hK hP 5 0 rfl rfl (j := i) (v := (nI 112)) (by omega) (by omega) ((hfx _ (by omega)).trans (congrArg nI hc)) dX3_readErrand_20 ?_
  refine lv_goto (tgt := 25) hx hb dX3_readErrand_21 (by decide) ?_
  refine q_pt (D := D) (ci := 3) (v := .int (nI 112)) (ty := .int) (C := RX3) (T := TX3) (N := 15) hx hb hts hi3 tyX3 tyX3_ok nmX3 hown hK hP hD hS (Or.inl rfl) 0 rfl rfl 11 (by decide) hfl113 (fun _ h9 => h9) rfl (by decide +kernel) rfl rfl (Nat.le_of_ble_eq_true rfl) (ws' := wR o ps pa pv pn px cI (oM ps pa pv pn px th mn kp (nI len) (nI i) (nI 0) (nI 112) wh te dg) (rr f) fa fv fn fx) rfl dX3_readErrand_25 (fun H locs hP hD hS => ?_)
  refine lv_aload_n hx hb dX3_readErrand_28 rfl (lv_at hl 0 rfl) ?_
  refine lv_aload_n hx hb dX3_readErrand_29 rfl (lv_at hl 0 rfl) ?_
  refine va_get (D := D) (ci := 3) (v := .int (nI 0)) (C := RX3) (T := TX3) (N := 15) hx hb hts hi3 hown hK hP 0 rfl rfl 10 (by decide) hfl102 (fun _ h9 => h9) rfl dX3_readErrand_30 ?_
  refine lv_if_ne (tgt := 90) hx hb dX3_readErrand_33 (by decide) (fun c2 => absurd c2 (by decide)) (fun c2 => ?_)
  refine lv_aload_n hx hb dX3_readErrand_36 rfl (lv_at hl 0 rfl) ?_
  refine va_get (D := D) (ci := 3) (v := .int (nI 112)) (C := RX3) (T := TX3) (N := 15) hx hb hts hi3 hown hK hP 0 rfl rfl 11 (by decide) hfl113 (fun _ h9 => h9) rfl dX3_readErrand_37 ?_
  refine lv_bipush (v := nI 98) hx hb dX3_readErrand_40 (by decide) ?_
  refine q_eqN (tgt := 94) hx hb (by omega) (by omega) dX3_readErrand_42 (by decide) (fun c3 => absurd c3 (by decide)) (fun c3 => ?_)
  refine lv_aload_n hx hb dX3_readErrand_45 rfl (lv_at hl 0 rfl) ?_
  refine va_get (D := D) (ci := 3) (v := .int (nI 112)) (C := RX3) (T := TX3) (N := 15) hx hb hts hi3 hown hK hP 0 rfl rfl 11 (by decide) hfl113 (fun _ h9 => h9) rfl dX3_readErrand_46 ?_
  refine lv_bipush (v := nI 112) hx hb dX3_readErrand_49 (by decide) ?_
  refine q_eqN (tgt := 94) hx hb (by omega) (by omega) dX3_readErrand_51 (by decide) (fun c4 => ?_) (fun c4 => absurd c4 (by decide))
  refine lv_iconst (v := nI 0) hx hb dX3_readErrand_94 (by decide) ?_
  refine q_pt (D := D) (ci := 3) (v := .int (nI 0)) (ty := .boolean) (C := RX3) (T := TX3) (N := 15) hx hb hts hi3 tyX3 tyX3_ok nmX3 hown hK hP hD hS (Or.inl rfl) 0 rfl rfl 10 (by decide) hfl102 (fun _ h9 => h9) rfl (by decide +kernel) rfl rfl (Nat.le_of_ble_eq_true rfl) (ws' := wR o ps pa pv pn px cI (oM ps pa pv pn px th mn kp (nI len) (nI i) (nI 0) (nI 112) wh te dg) (rr f) fa fv fn fx) rfl dX3_readErrand_95 (fun H locs hP hD hS => ?_)
  refine lv_aload_n hx hb dX3_readErrand_98 rfl (lv_at hl 0 rfl) ?_
  refine lv_dup hx hb dX3_readErrand_99 rfl ?_
  refine va_get (D := D) (ci := 3) (v := .int (nI i)) (C := RX3) (T := TX3) (N := 15) hx hb hts hi3 hown hK hP 0 rfl rfl 9 (by decide) hfl106 (fun _ h9 => h9) rfl dX3_readErrand_100 ?_
  refine lv_aload_n hx hb dX3_readErrand_103 rfl (lv_at hl 0 rfl) ?_
  refine va_get (D := D) (ci := 3) (v := .int (nI 0)) (C := RX3) (T := TX3) (N := 15) hx hb hts hi3 hown hK hP 0 rfl rfl 10 (by decide) hfl102 (fun _ h9 => h9) rfl dX3_readErrand_104 ?_
  refine lv_if_eq (tgt := 114) hx hb dX3_readErrand_107 (by decide) (fun c5 => ?_) (fun c5 => absurd c5 (by decide))
  refine lv_iconst (v := nI 1) hx hb dX3_readErrand_114 (by decide) ?_
  refine q_addN hx hb (1 + i) (by omega) dX3_readErrand_115 ?_
  refine q_pt (D := D) (ci := 3) (v := .int (nI (1 + i))) (ty := .int) (C := RX3) (T := TX3) (N := 15) hx hb hts hi3 tyX3 tyX3_ok nmX3 hown hK hP hD hS (Or.inl rfl) 0 rfl rfl 9 (by decide) hfl106 (fun _ h9 => h9) rfl (by decide +kernel) rfl rfl (Nat.le_of_ble_eq_true rfl) (ws' := wR o ps pa pv pn px cI (oM ps pa pv pn px th mn kp (nI len) (nI (1 + i)) (nI 0) (nI 112) wh te dg) (rr f) fa fv fn fx) rfl dX3_readErrand_116 (fun H locs hP hD hS => ?_)
  refine lv_aload_n hx hb dX3_readErrand_119 rfl (lv_at hl 0 rfl) ?_
  refine lv_aload_n hx hb dX3_readErrand_120 rfl (lv_at hl 0 rfl) ?_
  refine lv_bipush (v := nI 48) hx hb dX3_readErrand_121 (by decide) ?_
  refine lv_aload_n hx hb dX3_readErrand_123 rfl (lv_at hl 0 rfl) ?_
  refine va_get (D := D) (ci := 3) (v := .int (nI 112)) (C := RX3) (T := TX3) (N := 15) hx hb hts hi3 hown hK hP 0 rfl rfl 11 (by decide) hfl113 (fun _ h9 => h9) rfl dX3_readErrand_124 ?_
  refine lv_bipush (v := nI 115) hx hb dX3_readErrand_127 (by decide) ?_
  refine q_neN (tgt := 137) hx hb (by omega) (by omega) dX3_readErrand_129 (by decide) (fun c6 => ?_) (fun c6 => absurd c6 (by decide))
  refine lv_bipush (v := nI 50) hx hb dX3_readErrand_137 (by decide) ?_
  refine q_ciF (BH := fun H => va_P D vwCl (wR o ps pa pv pn px cI (oM ps pa pv pn px th mn kp (nI len) (nI (1 + i)) (nI 1) (nI 112) wh te dg) (rr f) fa fv fn fx) H) (va_runV (rm := { frames := 2, cells := 0, slots := 0, locals := 44 }) (As := [.int (nI 48), .int (nI 50)]) (rest := [.ref o]) ⟨hx, hb, hml, hown, hts⟩ (m3_takes_f l D cI o ps pa pv pn px f fa fv fn fx th mn kp (nI 112) wh te dg ch len (1 + i) hlen (by omega) hfx hch 48 50 (by omega) (by omega) false hn hD) (cwV 2 hts gX3_readErrand_X3_takes rfl rfl rfl (by decide +kernel) ⟨Nat.le_of_ble_eq_true rfl, Nat.le_of_ble_eq_true rfl⟩) (q_pV (ci := 3) (q0 := 0) hP hK rfl rfl) rfl rfl hl.1 rfl (lv_room (Nat.le_of_ble_eq_true rfl)) dX3_readErrand_139 ⟨Nat.le_of_ble_eq_true rfl, Nat.le_of_ble_eq_true rfl⟩) (fun t h => h) hS (fun _ h => h) (fun x7 H locs e7 hP hS => ?_)
  have hD := q_D2 (ws' := wR o ps pa pv pn px cI (oM ps pa pv pn px th mn kp (nI len) (nI (1 + i)) (nI 1) (nI 112) wh te dg) (rr f) fa fv fn fx) hD rfl
  have e7 : x7 = (nI 0) := e7
  subst e7
  refine q_pt (D := D) (ci := 3) (v := .int (nI 0)) (ty := .int) (C := RX3) (T := TX3) (N := 15) hx hb hts hi3 tyX3 tyX3_ok nmX3 hown hK hP hD hS (Or.inl rfl) 0 rfl rfl 12 (by decide) hfl119 (fun _ h9 => h9) rfl (by decide +kernel) rfl rfl (Nat.le_of_ble_eq_true rfl) (ws' := wR o ps pa pv pn px cI (oM ps pa pv pn px th mn kp (nI len) (nI (1 + i)) (nI 1) (nI 112) (nI 0) te dg) (rr f) fa fv fn fx) rfl dX3_readErrand_142 (fun H locs hP hD hS => ?_)
  refine lv_aload_n hx hb dX3_readErrand_145 rfl (lv_at hl 0 rfl) ?_
  refine va_get (D := D) (ci := 3) (v := .int (nI 112)) (C := RX3) (T := TX3) (N := 15) hx hb hts hi3 hown hK hP 0 rfl rfl 11 (by decide) hfl113 (fun _ h9 => h9) rfl dX3_readErrand_146 ?_
  refine lv_bipush (v := nI 98) hx hb dX3_readErrand_149 (by decide) ?_
  refine q_neN (tgt := 242) hx hb (by omega) (by omega) dX3_readErrand_151 (by decide) (fun c8 => ?_) (fun c8 => absurd c8 (by decide))
  exact hret _ _ _ _ (hP) hS dX3_readErrand_242
set_option maxHeartbeats 4000000 in
set_option maxRecDepth 100000 in
theorem m3_rd_112_T (l : Launch) (D : va_G) (cI : ClassId) (o ps pa pv pn px : Nat) (f fa fv fn fx : Nat → Int32) (th mn kp le wh te : Int32) (dg : Int64) (ch : Nat → Nat) (len i : Nat) (hlen : len ≤ 60) (hi61 : i ≤ 60) (hfx : ∀ j, j < len → fx j = nI (ch j)) (hch : ∀ j, j < len → ch j < 128) (hil : i < len) (hc : ch i = 112) (h1l : 1 + i < len) (h2l : 48 ≤ ch (1 + i)) (h3l : ch (1 + i) ≤ 50) (hD : va_D (fun _ => True) (wR o ps pa pv pn px cI (oM ps pa pv pn px th mn kp (nI len) (nI i) (nI 0) le wh te dg) (rr f) fa fv fn fx)) : q_V l yX3_readErrand wsX3_readErrand { frames := 3, cells := 0, slots := 0, locals := 68 } [.ref o] (q_bp D (wR o ps pa pv pn px cI (oM ps pa pv pn px th mn kp (nI len) (nI i) (nI 0) le wh te dg) (rr f) fa fv fn fx) [(cI, .int)]) (fun H => va_P D vwCl (wR o ps pa pv pn px cI (oM ps pa pv pn px th mn kp (nI len) (nI (2 + i)) (nI 0) (nI 112) (nI ((ch (1 + i) - 48))) te dg) (rr f) fa fv fn fx) H) (AM o ps pa pv pn px) 0 0 := by
  refine q_goV (cc := cX3_readErrand) (maxL := 1) (lv0 := [(0, .ref o)]) (by decide) rfl (Nat.le_of_ble_eq_true rfl) rfl ?_
  intro p e s m args below meth c Q ls hx hb hml hts hown hP hK hl hret hnm
  have hi3 : ∀ w ∈ wsX30, w ∈ wsX3_readErrand := by decide +kernel
  have hfl106 := hts (.fieldLink RX3 106 "WhisperedPotsModel" "spot" "I") (by decide +kernel)
  have hfl99 := hts (.fieldLink RX3 99 "WhisperedPotsModel" "length" "I") (by decide +kernel)
  have hfl22 := hts (.fieldLink RX3 22 "WhisperedPotsModel" "text" "[I") (by decide +kernel)
  have hfl113 := hts (.fieldLink RX3 113 "WhisperedPotsModel" "letter" "I") (by decide +kernel)
  have hfl102 := hts (.fieldLink RX3 102 "WhisperedPotsModel" "isWrong" "Z") (by decide +kernel)
  have hfl119 := hts (.fieldLink RX3 119 "WhisperedPotsModel" "whose" "I") (by decide +kernel)
  have hfl122 := hts (.fieldLink RX3 122 "WhisperedPotsModel" "tea" "I") (by decide +kernel)
  have hS : va_S (AM o ps pa pv pn px) s.heap s.heap [] := va_S.rf
  have hne : o ≠ ps := fun h => absurd (hD.1 0 1 _ _ rfl rfl h) (by decide)
  refine lv_aload_n hx hb dX3_readErrand_0 rfl (lv_at hl 0 rfl) ?_
  refine lv_aload_n hx hb dX3_readErrand_1 rfl (lv_at hl 0 rfl) ?_
  refine va_get (D := D) (ci := 3) (v := .int (nI i)) (C := RX3) (T := TX3) (N := 15) hx hb hts hi3 hown hK hP 0 rfl rfl 9 (by decide) hfl106 (fun _ h9 => h9) rfl dX3_readErrand_2 ?_
  refine lv_aload_n hx hb dX3_readErrand_5 rfl (lv_at hl 0 rfl) ?_
  refine va_get (D := D) (ci := 3) (v := .int (nI len)) (C := RX3) (T := TX3) (N := 15) hx hb hts hi3 hown hK hP 0 rfl rfl 8 (by decide) hfl99 (fun _ h9 => h9) rfl dX3_readErrand_6 ?_
  refine q_geN (tgt := 24) hx hb (by omega) (by omega) dX3_readErrand_9 (by decide) (fun c1 => absurd c1 (by omega)) (fun c1 => ?_)
  refine lv_aload_n hx hb dX3_readErrand_12 rfl (lv_at hl 0 rfl) ?_
  refine va_get (D := D) (ci := 3) (v := .ref px) (C := RX3) (T := TX3) (N := 15) hx hb hts hi3 hown hK hP 0 rfl rfl 7 (by decide) hfl22 (fun _ h9 => h9) rfl dX3_readErrand_13 ?_
  refine lv_aload_n hx hb dX3_readErrand_16 rfl (lv_at hl 0 rfl) ?_
  refine va_get (D := D) (ci := 3) (v := .int (nI i)) (C := RX3) (T := TX3) (N := 15) hx hb hts hi3 hown hK hP 0 rfl rfl 9 (by decide) hfl106 (fun _ h9 => h9) rfl dX3_readErrand_17 ?_
  refine q_ld hx hb hK hP 5 0 rfl rfl (j := i) (v := (nI 112)) (by omega) (by omega) ((hfx _ (by omega)).trans (congrArg nI hc)) dX3_readErrand_20 ?_
  refine lv_goto (tgt := 25) hx hb dX3_readErrand_21 (by decide) ?_
  refine q_pt (D := D) (ci := 3) (v := .int (nI 112)) (ty := .int) (C := RX3) (T := TX3) (N := 15) hx hb hts hi3 tyX3 tyX3_ok nmX3 hown hK hP hD hS (Or.inl rfl) 0 rfl rfl 11 (by decide) hfl113 (fun _ h9 => h9) rfl (by decide +kernel) rfl rfl (Nat.le_of_ble_eq_true rfl) (ws' := wR o ps pa pv pn px cI (oM ps pa pv pn px th mn kp (nI len) (nI i) (nI 0) (nI 112) wh te dg) (rr f) fa fv fn fx) rfl dX3_readErrand_25 (fun H locs hP hD hS => ?_)
  refine lv_aload_n hx hb dX3_readErrand_28 rfl (lv_at hl 0 rfl) ?_
  refine lv_aload_n hx hb dX3_readErrand_29 rfl (lv_at hl 0 rfl) ?_
  refine va_get (D := D) (ci := 3) (v := .int (nI 0)) (C := RX3) (T := TX3) (N := 15) hx hb hts hi3 hown hK hP 0 rfl rfl 10 (by decide) hfl102 (fun _ h9 => h9) rfl dX3_readErrand_30 ?_
  refine lv_if_ne (tgt := 90) hx hb dX3_readErrand_33 (by decide) (fun c2 => absurd c2 (by decide)) (fun c2 => ?_)
  refine lv_aload_n hx hb dX3_readErrand_36 rfl (lv_at hl 0 rfl) ?_
  refine va_get (D := D) (ci := 3) (v := .int (nI 112)) (C := RX3) (T := TX3) (N := 15) hx hb hts hi3 hown hK hP 0 rfl rfl 11 (by decide) hfl113 (fun _ h9 => h9) rfl dX3_readErrand_37 ?_
  refine lv_bipush (v := nI 98) hx hb dX3_readErrand_40 (by decide) ?_
  refine q_eqN (tgt := 94) hx hb (by omega) (by omega) dX3_readErrand_42 (by decide) (fun c3 => absurd c3 (by decide)) (fun c3 => ?_)
  refine lv_aload_n hx hb dX3_readErrand_45 rfl (lv_at hl 0 rfl) ?_
  refine va_get (D := D) (ci := 3) (v := .int (nI 112)) (C := RX3) (T := TX3) (N := 15) hx hb hts hi3 hown hK hP 0 rfl rfl 11 (by decide) hfl113 (fun _ h9 => h9) rfl dX3_readErrand_46 ?_
  refine lv_bipush (v := nI 112) hx hb dX3_readErrand_49 (by decide) ?_
  refine q_eqN (tgt := 94) hx hb (by omega) (by omega) dX3_readErrand_51 (by decide) (fun c4 => ?_) (fun c4 => absurd c4 (by decide))
  refine lv_iconst (v := nI 0) hx hb dX3_readErrand_94 (by decide) ?_
  refine q_pt (D := D) (ci := 3) (v := .int (nI 0)) (ty := .boolean) (C := RX3) (T := TX3) (N := 15) hx hb hts hi3 tyX3 tyX3_ok nmX3 hown hK hP hD hS (Or.inl rfl) 0 rfl rfl 10 (by decide) hfl102 (fun _ h9 => h9) rfl (by decide +kernel) rfl rfl (Nat.le_of_ble_eq_true rfl) (ws' := wR o ps pa pv pn px cI (oM ps pa pv pn px th mn kp (nI len) (nI i) (nI 0) (nI 112) wh te dg) (rr f) fa fv fn fx) rfl dX3_readErrand_95 (fun H locs hP hD hS => ?_)
  refine lv_aload_n hx hb dX3_readErrand_98 rfl (lv_at hl 0 rfl) ?_
  refine lv_dup hx hb dX3_readErrand_99 rfl ?_
  refine va_get (D := D) (ci := 3) (v := .int (nI i)) (C := RX3) (T := TX3) (N := 15) hx hb hts hi3 hown hK hP 0 rfl rfl 9 (by decide) hfl106 (fun _ h9 => h9) rfl dX3_readErrand_100 ?_
  refine lv_aload_n hx hb dX3_readErrand_103 rfl (lv_at hl 0 rfl) ?_
  refine va_get (D := D) (ci := 3) (v := .int (nI 0)) (C := RX3) (T := TX3) (N := 15) hx hb hts hi3 hown hK hP 0 rfl rfl 10 (by decide) hfl102 (fun _ h9 => h9) rfl dX3_readErrand_104 ?_
  refine lv_if_eq (tgt := 114) hx hb dX3_readErrand_107 (by decide) (fun c5 => ?_) (fun c5 => absurd c5 (by decide))
  refine lv_iconst (v := nI 1) hx hb dX3_readErrand_114 (by decide) ?_
  refine q_addN hx hb (1 + i) (by omega) dX3_readErrand_115 ?_
  refine q_pt (D := D) (ci := 3) (v := .int (nI (1 + i))) (ty := .int) (C := RX3) (T := TX3) (N := 15) hx hb hts hi3 tyX3 tyX3_ok nmX3 hown hK hP hD hS (Or.inl rfl) 0 rfl rfl 9 (by decide) hfl106 (fun _ h9 => h9) rfl (by decide +kernel) rfl rfl (Nat.le_of_ble_eq_true rfl) (ws' := wR o ps pa pv pn px cI (oM ps pa pv pn px th mn kp (nI len) (nI (1 + i)) (nI 0) (nI 112) wh te dg) (rr f) fa fv fn fx) rfl dX3_readErrand_116 (fun H locs hP hD hS => ?_)
  refine lv_aload_n hx hb dX3_readErrand_119 rfl (lv_at hl 0 rfl) ?_
  refine lv_aload_n hx hb dX3_readErrand_120 rfl (lv_at hl 0 rfl) ?_
  refine lv_bipush (v := nI 48) hx hb dX3_readErrand_121 (by decide) ?_
  refine lv_aload_n hx hb dX3_readErrand_123 rfl (lv_at hl 0 rfl) ?_
  refine va_get (D := D) (ci := 3) (v := .int (nI 112)) (C := RX3) (T := TX3) (N := 15) hx hb hts hi3 hown hK hP 0 rfl rfl 11 (by decide) hfl113 (fun _ h9 => h9) rfl dX3_readErrand_124 ?_
  refine lv_bipush (v := nI 115) hx hb dX3_readErrand_127 (by decide) ?_
  refine q_neN (tgt := 137) hx hb (by omega) (by omega) dX3_readErrand_129 (by decide) (fun c6 => ?_) (fun c6 => absurd c6 (by decide))
  refine lv_bipush (v := nI 50) hx hb dX3_readErrand_137 (by decide) ?_
  refine q_ciF (BH := fun H => va_P D vwCl (wR o ps pa pv pn px cI (oM ps pa pv pn px th mn kp (nI len) (nI (2 + i)) (nI 0) (nI 112) wh te dg) (rr f) fa fv fn fx) H) (va_runV (rm := { frames := 2, cells := 0, slots := 0, locals := 44 }) (As := [.int (nI 48), .int (nI 50)]) (rest := [.ref o]) ⟨hx, hb, hml, hown, hts⟩ (m3_takes_t l D cI o ps pa pv pn px f fa fv fn fx th mn kp (nI 112) wh te dg ch len (1 + i) hlen (by omega) hfx hch 48 50 (by omega) (by omega) h1l h2l h3l hD) (cwV 2 hts gX3_readErrand_X3_takes rfl rfl rfl (by decide +kernel) ⟨Nat.le_of_ble_eq_true rfl, Nat.le_of_ble_eq_true rfl⟩) (q_pV (ci := 3) (q0 := 0) hP hK rfl rfl) rfl rfl hl.1 rfl (lv_room (Nat.le_of_ble_eq_true rfl)) dX3_readErrand_139 ⟨Nat.le_of_ble_eq_true rfl, Nat.le_of_ble_eq_true rfl⟩) (fun t h => (show 2 + i = 1 + (1 + i) by omega) ▸ h) hS (fun _ h => h) (fun x7 H locs e7 hP hS => ?_)
  have hD := q_D2 (ws' := wR o ps pa pv pn px cI (oM ps pa pv pn px th mn kp (nI len) (nI (2 + i)) (nI 0) (nI 112) wh te dg) (rr f) fa fv fn fx) hD rfl
  have e7 : x7 = (nI ((ch (1 + i) - 48))) := e7
  subst e7
  refine q_pt (D := D) (ci := 3) (v := .int (nI ((ch (1 + i) - 48)))) (ty := .int) (C := RX3) (T := TX3) (N := 15) hx hb hts hi3 tyX3 tyX3_ok nmX3 hown hK hP hD hS (Or.inl rfl) 0 rfl rfl 12 (by decide) hfl119 (fun _ h9 => h9) rfl (by decide +kernel) rfl rfl (Nat.le_of_ble_eq_true rfl) (ws' := wR o ps pa pv pn px cI (oM ps pa pv pn px th mn kp (nI len) (nI (2 + i)) (nI 0) (nI 112) (nI ((ch (1 + i) - 48))) te dg) (rr f) fa fv fn fx) rfl dX3_readErrand_142 (fun H locs hP hD hS => ?_)
  refine lv_aload_n hx hb dX3_readErrand_145 rfl (lv_at hl 0 rfl) ?_
  refine va_get (D := D) (ci := 3) (v := .int (nI 112)) (C := RX3) (T := TX3) (N := 15) hx hb hts hi3 hown hK hP 0 rfl rfl 11 (by decide) hfl113 (fun _ h9 => h9) rfl dX3_readErrand_146 ?_
  refine lv_bipush (v := nI 98) hx hb dX3_readErrand_149 (by decide) ?_
  refine q_neN (tgt := 242) hx hb (by omega) (by omega) dX3_readErrand_151 (by decide) (fun c8 => ?_) (fun c8 => absurd c8 (by decide))
  exact hret _ _ _ _ (hP) hS dX3_readErrand_242
set_option maxHeartbeats 4000000 in
set_option maxRecDepth 100000 in
theorem m3_rd_110_F (l : Launch) (D : va_G) (cI : ClassId) (o ps pa pv pn px : Nat) (f fa fv fn fx : Nat → Int32) (th mn kp le wh te : Int32) (dg : Int64) (ch : Nat → Nat) (len i : Nat) (hlen : len ≤ 60) (hi61 : i ≤ 60) (hfx : ∀ j, j < len → fx j = nI (ch j)) (hch : ∀ j, j < len → ch j < 128) (hil : i < len) (hc : ch i = 110) (hn : n_ok ch len (1 + i) false 48 50 = false) (hD : va_D (fun _ => True) (wR o ps pa pv pn px cI (oM ps pa pv pn px th mn kp (nI len) (nI i) (nI 0) le wh te dg) (rr f) fa fv fn fx)) : q_V l yX3_readErrand wsX3_readErrand { frames := 3, cells := 0, slots := 0, locals := 68 } [.ref o] (q_bp D (wR o ps pa pv pn px cI (oM ps pa pv pn px th mn kp (nI len) (nI i) (nI 0) le wh te dg) (rr f) fa fv fn fx) [(cI, .int)]) (fun H => va_P D vwCl (wR o ps pa pv pn px cI (oM ps pa pv pn px th mn kp (nI len) (nI (1 + i)) (nI 1) (nI 110) (nI 0) te dg) (rr f) fa fv fn fx) H) (AM o ps pa pv pn px) 0 0 := by
  refine q_goV (cc := cX3_readErrand) (maxL := 1) (lv0 := [(0, .ref o)]) (by decide) rfl (Nat.le_of_ble_eq_true rfl) rfl ?_
  intro p e s m args below meth c Q ls hx hb hml hts hown hP hK hl hret hnm
  have hi3 : ∀ w ∈ wsX30, w ∈ wsX3_readErrand := by decide +kernel
  have hfl106 := hts (.fieldLink RX3 106 "WhisperedPotsModel" "spot" "I") (by decide +kernel)
  have hfl99 := hts (.fieldLink RX3 99 "WhisperedPotsModel" "length" "I") (by decide +kernel)
  have hfl22 := hts (.fieldLink RX3 22 "WhisperedPotsModel" "text" "[I") (by decide +kernel)
  have hfl113 := hts (.fieldLink RX3 113 "WhisperedPotsModel" "letter" "I") (by decide +kernel)
  have hfl102 := hts (.fieldLink RX3 102 "WhisperedPotsModel" "isWrong" "Z") (by decide +kernel)
  have hfl119 := hts (.fieldLink RX3 119 "WhisperedPotsModel" "whose" "I") (by decide +kernel)
  have hfl122 := hts (.fieldLink RX3 122 "WhisperedPotsModel" "tea" "I") (by decide +kernel)
  have hS : va_S (AM o ps pa pv pn px) s.heap s.heap [] := va_S.rf
  have hne : o ≠ ps := fun h => absurd (hD.1 0 1 _ _ rfl rfl h) (by decide)
  refine lv_aload_n hx hb dX3_readErrand_0 rfl (lv_at hl 0 rfl) ?_
  refine lv_aload_n hx hb dX3_readErrand_1 rfl (lv_at hl 0 rfl) ?_
  refine va_get (D := D) (ci := 3) (v := .int (nI i)) (C := RX3) (T := TX3) (N := 15) hx hb hts hi3 hown hK hP 0 rfl rfl 9 (by decide) hfl106 (fun _ h9 => h9) rfl dX3_readErrand_2 ?_
  refine lv_aload_n hx hb dX3_readErrand_5 rfl (lv_at hl 0 rfl) ?_
  refine va_get (D := D) (ci := 3) (v := .int (nI len)) (C := RX3) (T := TX3) (N := 15) hx hb hts hi3 hown hK hP 0 rfl rfl 8 (by decide) hfl99 (fun _ h9 => h9) rfl dX3_readErrand_6 ?_
  refine q_geN (tgt := 24) hx hb (by omega) (by omega) dX3_readErrand_9 (by decide) (fun c1 => absurd c1 (by omega)) (fun c1 => ?_)
  refine lv_aload_n hx hb dX3_readErrand_12 rfl (lv_at hl 0 rfl) ?_
  refine va_get (D := D) (ci := 3) (v := .ref px) (C := RX3) (T := TX3) (N := 15) hx hb hts hi3 hown hK hP 0 rfl rfl 7 (by decide) hfl22 (fun _ h9 => h9) rfl dX3_readErrand_13 ?_
  refine lv_aload_n hx hb dX3_readErrand_16 rfl (lv_at hl 0 rfl) ?_
  refine va_get (D := D) (ci := 3) (v := .int (nI i)) (C := RX3) (T := TX3) (N := 15) hx hb hts hi3 hown hK hP 0 rfl rfl 9 (by decide) hfl106 (fun _ h9 => h9) rfl dX3_readErrand_17 ?_
  refine q_ld hx hb hK hP 5 0 rfl rfl (j := i) (v := (nI 110)) (by omega) (by omega) ((hfx _ (by omega)).trans (congrArg nI hc)) dX3_readErrand_20 ?_
  refine lv_goto (tgt := 25) hx hb dX3_readErrand_21 (by decide) ?_
  refine q_pt (D := D) (ci := 3) (v := .int (nI 110)) (ty := .int) (C := RX3) (T := TX3) (N := 15) hx hb hts hi3 tyX3 tyX3_ok nmX3 hown hK hP hD hS (Or.inl rfl) 0 rfl rfl 11 (by decide) hfl113 (fun _ h9 => h9) rfl (by decide +kernel) rfl rfl (Nat.le_of_ble_eq_true rfl) (ws' := wR o ps pa pv pn px cI (oM ps pa pv pn px th mn kp (nI len) (nI i) (nI 0) (nI 110) wh te dg) (rr f) fa fv fn fx) rfl dX3_readErrand_25 (fun H locs hP hD hS => ?_)
  refine lv_aload_n hx hb dX3_readErrand_28 rfl (lv_at hl 0 rfl) ?_
  refine lv_aload_n hx hb dX3_readErrand_29 rfl (lv_at hl 0 rfl) ?_
  refine va_get (D := D) (ci := 3) (v := .int (nI 0)) (C := RX3) (T := TX3) (N := 15) hx hb hts hi3 hown hK hP 0 rfl rfl 10 (by decide) hfl102 (fun _ h9 => h9) rfl dX3_readErrand_30 ?_
  refine lv_if_ne (tgt := 90) hx hb dX3_readErrand_33 (by decide) (fun c2 => absurd c2 (by decide)) (fun c2 => ?_)
  refine lv_aload_n hx hb dX3_readErrand_36 rfl (lv_at hl 0 rfl) ?_
  refine va_get (D := D) (ci := 3) (v := .int (nI 110)) (C := RX3) (T := TX3) (N := 15) hx hb hts hi3 hown hK hP 0 rfl rfl 11 (by decide) hfl113 (fun _ h9 => h9) rfl dX3_readErrand_37 ?_
  refine lv_bipush (v := nI 98) hx hb dX3_readErrand_40 (by decide) ?_
  refine q_eqN (tgt := 94) hx hb (by omega) (by omega) dX3_readErrand_42 (by decide) (fun c3 => absurd c3 (by decide)) (fun c3 => ?_)
  refine lv_aload_n hx hb dX3_readErrand_45 rfl (lv_at hl 0 rfl) ?_
  refine va_get (D := D) (ci := 3) (v := .int (nI 110)) (C := RX3) (T := TX3) (N := 15) hx hb hts hi3 hown hK hP 0 rfl rfl 11 (by decide) hfl113 (fun _ h9 => h9) rfl dX3_readErrand_46 ?_
  refine lv_bipush (v := nI 112) hx hb dX3_readErrand_49 (by decide) ?_
  refine q_eqN (tgt := 94) hx hb (by omega) (by omega) dX3_readErrand_51 (by decide) (fun c4 => absurd c4 (by decide)) (fun c4 => ?_)
  refine lv_aload_n hx hb dX3_readErrand_54 rfl (lv_at hl 0 rfl) ?_
  refine va_get (D := D) (ci := 3) (v := .int (nI 110)) (C := RX3) (T := TX3) (N := 15) hx hb hts hi3 hown hK hP 0 rfl rfl 11 (by decide) hfl113 (fun _ h9 => h9) rfl dX3_readErrand_55 ?_
  refine lv_bipush (v := nI 110) hx hb dX3_readErrand_58 (by decide) ?_
  refine q_eqN (tgt := 94) hx hb (by omega) (by omega) dX3_readErrand_60 (by decide) (fun c5 => ?_) (fun c5 => absurd c5 (by decide))
  refine lv_iconst (v := nI 0) hx hb dX3_readErrand_94 (by decide) ?_
  refine q_pt (D := D) (ci := 3) (v := .int (nI 0)) (ty := .boolean) (C := RX3) (T := TX3) (N := 15) hx hb hts hi3 tyX3 tyX3_ok nmX3 hown hK hP hD hS (Or.inl rfl) 0 rfl rfl 10 (by decide) hfl102 (fun _ h9 => h9) rfl (by decide +kernel) rfl rfl (Nat.le_of_ble_eq_true rfl) (ws' := wR o ps pa pv pn px cI (oM ps pa pv pn px th mn kp (nI len) (nI i) (nI 0) (nI 110) wh te dg) (rr f) fa fv fn fx) rfl dX3_readErrand_95 (fun H locs hP hD hS => ?_)
  refine lv_aload_n hx hb dX3_readErrand_98 rfl (lv_at hl 0 rfl) ?_
  refine lv_dup hx hb dX3_readErrand_99 rfl ?_
  refine va_get (D := D) (ci := 3) (v := .int (nI i)) (C := RX3) (T := TX3) (N := 15) hx hb hts hi3 hown hK hP 0 rfl rfl 9 (by decide) hfl106 (fun _ h9 => h9) rfl dX3_readErrand_100 ?_
  refine lv_aload_n hx hb dX3_readErrand_103 rfl (lv_at hl 0 rfl) ?_
  refine va_get (D := D) (ci := 3) (v := .int (nI 0)) (C := RX3) (T := TX3) (N := 15) hx hb hts hi3 hown hK hP 0 rfl rfl 10 (by decide) hfl102 (fun _ h9 => h9) rfl dX3_readErrand_104 ?_
  refine lv_if_eq (tgt := 114) hx hb dX3_readErrand_107 (by decide) (fun c6 => ?_) (fun c6 => absurd c6 (by decide))
  refine lv_iconst (v := nI 1) hx hb dX3_readErrand_114 (by decide) ?_
  refine q_addN hx hb (1 + i) (by omega) dX3_readErrand_115 ?_
  refine q_pt (D := D) (ci := 3) (v := .int (nI (1 + i))) (ty := .int) (C := RX3) (T := TX3) (N := 15) hx hb hts hi3 tyX3 tyX3_ok nmX3 hown hK hP hD hS (Or.inl rfl) 0 rfl rfl 9 (by decide) hfl106 (fun _ h9 => h9) rfl (by decide +kernel) rfl rfl (Nat.le_of_ble_eq_true rfl) (ws' := wR o ps pa pv pn px cI (oM ps pa pv pn px th mn kp (nI len) (nI (1 + i)) (nI 0) (nI 110) wh te dg) (rr f) fa fv fn fx) rfl dX3_readErrand_116 (fun H locs hP hD hS => ?_)
  refine lv_aload_n hx hb dX3_readErrand_119 rfl (lv_at hl 0 rfl) ?_
  refine lv_aload_n hx hb dX3_readErrand_120 rfl (lv_at hl 0 rfl) ?_
  refine lv_bipush (v := nI 48) hx hb dX3_readErrand_121 (by decide) ?_
  refine lv_aload_n hx hb dX3_readErrand_123 rfl (lv_at hl 0 rfl) ?_
  refine va_get (D := D) (ci := 3) (v := .int (nI 110)) (C := RX3) (T := TX3) (N := 15) hx hb hts hi3 hown hK hP 0 rfl rfl 11 (by decide) hfl113 (fun _ h9 => h9) rfl dX3_readErrand_124 ?_
  refine lv_bipush (v := nI 115) hx hb dX3_readErrand_127 (by decide) ?_
  refine q_neN (tgt := 137) hx hb (by omega) (by omega) dX3_readErrand_129 (by decide) (fun c7 => ?_) (fun c7 => absurd c7 (by decide))
  refine lv_bipush (v := nI 50) hx hb dX3_readErrand_137 (by decide) ?_
  refine q_ciF (BH := fun H => va_P D vwCl (wR o ps pa pv pn px cI (oM ps pa pv pn px th mn kp (nI len) (nI (1 + i)) (nI 1) (nI 110) wh te dg) (rr f) fa fv fn fx) H) (va_runV (rm := { frames := 2, cells := 0, slots := 0, locals := 44 }) (As := [.int (nI 48), .int (nI 50)]) (rest := [.ref o]) ⟨hx, hb, hml, hown, hts⟩ (m3_takes_f l D cI o ps pa pv pn px f fa fv fn fx th mn kp (nI 110) wh te dg ch len (1 + i) hlen (by omega) hfx hch 48 50 (by omega) (by omega) false hn hD) (cwV 2 hts gX3_readErrand_X3_takes rfl rfl rfl (by decide +kernel) ⟨Nat.le_of_ble_eq_true rfl, Nat.le_of_ble_eq_true rfl⟩) (q_pV (ci := 3) (q0 := 0) hP hK rfl rfl) rfl rfl hl.1 rfl (lv_room (Nat.le_of_ble_eq_true rfl)) dX3_readErrand_139 ⟨Nat.le_of_ble_eq_true rfl, Nat.le_of_ble_eq_true rfl⟩) (fun t h => h) hS (fun _ h => h) (fun x8 H locs e8 hP hS => ?_)
  have hD := q_D2 (ws' := wR o ps pa pv pn px cI (oM ps pa pv pn px th mn kp (nI len) (nI (1 + i)) (nI 1) (nI 110) wh te dg) (rr f) fa fv fn fx) hD rfl
  have e8 : x8 = (nI 0) := e8
  subst e8
  refine q_pt (D := D) (ci := 3) (v := .int (nI 0)) (ty := .int) (C := RX3) (T := TX3) (N := 15) hx hb hts hi3 tyX3 tyX3_ok nmX3 hown hK hP hD hS (Or.inl rfl) 0 rfl rfl 12 (by decide) hfl119 (fun _ h9 => h9) rfl (by decide +kernel) rfl rfl (Nat.le_of_ble_eq_true rfl) (ws' := wR o ps pa pv pn px cI (oM ps pa pv pn px th mn kp (nI len) (nI (1 + i)) (nI 1) (nI 110) (nI 0) te dg) (rr f) fa fv fn fx) rfl dX3_readErrand_142 (fun H locs hP hD hS => ?_)
  refine lv_aload_n hx hb dX3_readErrand_145 rfl (lv_at hl 0 rfl) ?_
  refine va_get (D := D) (ci := 3) (v := .int (nI 110)) (C := RX3) (T := TX3) (N := 15) hx hb hts hi3 hown hK hP 0 rfl rfl 11 (by decide) hfl113 (fun _ h9 => h9) rfl dX3_readErrand_146 ?_
  refine lv_bipush (v := nI 98) hx hb dX3_readErrand_149 (by decide) ?_
  refine q_neN (tgt := 242) hx hb (by omega) (by omega) dX3_readErrand_151 (by decide) (fun c9 => ?_) (fun c9 => absurd c9 (by decide))
  exact hret _ _ _ _ (hP) hS dX3_readErrand_242
set_option maxHeartbeats 4000000 in
set_option maxRecDepth 100000 in
theorem m3_rd_110_T (l : Launch) (D : va_G) (cI : ClassId) (o ps pa pv pn px : Nat) (f fa fv fn fx : Nat → Int32) (th mn kp le wh te : Int32) (dg : Int64) (ch : Nat → Nat) (len i : Nat) (hlen : len ≤ 60) (hi61 : i ≤ 60) (hfx : ∀ j, j < len → fx j = nI (ch j)) (hch : ∀ j, j < len → ch j < 128) (hil : i < len) (hc : ch i = 110) (h1l : 1 + i < len) (h2l : 48 ≤ ch (1 + i)) (h3l : ch (1 + i) ≤ 50) (hD : va_D (fun _ => True) (wR o ps pa pv pn px cI (oM ps pa pv pn px th mn kp (nI len) (nI i) (nI 0) le wh te dg) (rr f) fa fv fn fx)) : q_V l yX3_readErrand wsX3_readErrand { frames := 3, cells := 0, slots := 0, locals := 68 } [.ref o] (q_bp D (wR o ps pa pv pn px cI (oM ps pa pv pn px th mn kp (nI len) (nI i) (nI 0) le wh te dg) (rr f) fa fv fn fx) [(cI, .int)]) (fun H => va_P D vwCl (wR o ps pa pv pn px cI (oM ps pa pv pn px th mn kp (nI len) (nI (2 + i)) (nI 0) (nI 110) (nI ((ch (1 + i) - 48))) te dg) (rr f) fa fv fn fx) H) (AM o ps pa pv pn px) 0 0 := by
  refine q_goV (cc := cX3_readErrand) (maxL := 1) (lv0 := [(0, .ref o)]) (by decide) rfl (Nat.le_of_ble_eq_true rfl) rfl ?_
  intro p e s m args below meth c Q ls hx hb hml hts hown hP hK hl hret hnm
  have hi3 : ∀ w ∈ wsX30, w ∈ wsX3_readErrand := by decide +kernel
  have hfl106 := hts (.fieldLink RX3 106 "WhisperedPotsModel" "spot" "I") (by decide +kernel)
  have hfl99 := hts (.fieldLink RX3 99 "WhisperedPotsModel" "length" "I") (by decide +kernel)
  have hfl22 := hts (.fieldLink RX3 22 "WhisperedPotsModel" "text" "[I") (by decide +kernel)
  have hfl113 := hts (.fieldLink RX3 113 "WhisperedPotsModel" "letter" "I") (by decide +kernel)
  have hfl102 := hts (.fieldLink RX3 102 "WhisperedPotsModel" "isWrong" "Z") (by decide +kernel)
  have hfl119 := hts (.fieldLink RX3 119 "WhisperedPotsModel" "whose" "I") (by decide +kernel)
  have hfl122 := hts (.fieldLink RX3 122 "WhisperedPotsModel" "tea" "I") (by decide +kernel)
  have hS : va_S (AM o ps pa pv pn px) s.heap s.heap [] := va_S.rf
  have hne : o ≠ ps := fun h => absurd (hD.1 0 1 _ _ rfl rfl h) (by decide)
  refine lv_aload_n hx hb dX3_readErrand_0 rfl (lv_at hl 0 rfl) ?_
  refine lv_aload_n hx hb dX3_readErrand_1 rfl (lv_at hl 0 rfl) ?_
  refine va_get (D := D) (ci := 3) (v := .int (nI i)) (C := RX3) (T := TX3) (N := 15) hx hb hts hi3 hown hK hP 0 rfl rfl 9 (by decide) hfl106 (fun _ h9 => h9) rfl dX3_readErrand_2 ?_
  refine lv_aload_n hx hb dX3_readErrand_5 rfl (lv_at hl 0 rfl) ?_
  refine va_get (D := D) (ci := 3) (v := .int (nI len)) (C := RX3) (T := TX3) (N := 15) hx hb hts hi3 hown hK hP 0 rfl rfl 8 (by decide) hfl99 (fun _ h9 => h9) rfl dX3_readErrand_6 ?_
  refine q_geN (tgt := 24) hx hb (by omega) (by omega) dX3_readErrand_9 (by decide) (fun c1 => absurd c1 (by omega)) (fun c1 => ?_)
  refine lv_aload_n hx hb dX3_readErrand_12 rfl (lv_at hl 0 rfl) ?_
  refine va_get (D := D) (ci := 3) (v := .ref px) (C := RX3) (T := TX3) (N := 15) hx hb hts hi3 hown hK hP 0 rfl rfl 7 (by decide) hfl22 (fun _ h9 => h9) rfl dX3_readErrand_13 ?_
  refine lv_aload_n hx hb dX3_readErrand_16 rfl (lv_at hl 0 rfl) ?_
  refine va_get (D := D) (ci := 3) (v := .int (nI i)) (C := RX3) (T := TX3) (N := 15) hx hb hts hi3 hown hK hP 0 rfl rfl 9 (by decide) hfl106 (fun _ h9 => h9) rfl dX3_readErrand_17 ?_
  refine q_ld hx hb hK hP 5 0 rfl rfl (j := i) (v := (nI 110)) (by omega) (by omega) ((hfx _ (by omega)).trans (congrArg nI hc)) dX3_readErrand_20 ?_
  refine lv_goto (tgt := 25) hx hb dX3_readErrand_21 (by decide) ?_
  refine q_pt (D := D) (ci := 3) (v := .int (nI 110)) (ty := .int) (C := RX3) (T := TX3) (N := 15) hx hb hts hi3 tyX3 tyX3_ok nmX3 hown hK hP hD hS (Or.inl rfl) 0 rfl rfl 11 (by decide) hfl113 (fun _ h9 => h9) rfl (by decide +kernel) rfl rfl (Nat.le_of_ble_eq_true rfl) (ws' := wR o ps pa pv pn px cI (oM ps pa pv pn px th mn kp (nI len) (nI i) (nI 0) (nI 110) wh te dg) (rr f) fa fv fn fx) rfl dX3_readErrand_25 (fun H locs hP hD hS => ?_)
  refine lv_aload_n hx hb dX3_readErrand_28 rfl (lv_at hl 0 rfl) ?_
  refine lv_aload_n hx hb dX3_readErrand_29 rfl (lv_at hl 0 rfl) ?_
  refine va_get (D := D) (ci := 3) (v := .int (nI 0)) (C := RX3) (T := TX3) (N := 15) hx hb hts hi3 hown hK hP 0 rfl rfl 10 (by decide) hfl102 (fun _ h9 => h9) rfl dX3_readErrand_30 ?_
  refine lv_if_ne (tgt := 90) hx hb dX3_readErrand_33 (by decide) (fun c2 => absurd c2 (by decide)) (fun c2 => ?_)
  refine lv_aload_n hx hb dX3_readErrand_36 rfl (lv_at hl 0 rfl) ?_
  refine va_get (D := D) (ci := 3) (v := .int (nI 110)) (C := RX3) (T := TX3) (N := 15) hx hb hts hi3 hown hK hP 0 rfl rfl 11 (by decide) hfl113 (fun _ h9 => h9) rfl dX3_readErrand_37 ?_
  refine lv_bipush (v := nI 98) hx hb dX3_readErrand_40 (by decide) ?_
  refine q_eqN (tgt := 94) hx hb (by omega) (by omega) dX3_readErrand_42 (by decide) (fun c3 => absurd c3 (by decide)) (fun c3 => ?_)
  refine lv_aload_n hx hb dX3_readErrand_45 rfl (lv_at hl 0 rfl) ?_
  refine va_get (D := D) (ci := 3) (v := .int (nI 110)) (C := RX3) (T := TX3) (N := 15) hx hb hts hi3 hown hK hP 0 rfl rfl 11 (by decide) hfl113 (fun _ h9 => h9) rfl dX3_readErrand_46 ?_
  refine lv_bipush (v := nI 112) hx hb dX3_readErrand_49 (by decide) ?_
  refine q_eqN (tgt := 94) hx hb (by omega) (by omega) dX3_readErrand_51 (by decide) (fun c4 => absurd c4 (by decide)) (fun c4 => ?_)
  refine lv_aload_n hx hb dX3_readErrand_54 rfl (lv_at hl 0 rfl) ?_
  refine va_get (D := D) (ci := 3) (v := .int (nI 110)) (C := RX3) (T := TX3) (N := 15) hx hb hts hi3 hown hK hP 0 rfl rfl 11 (by decide) hfl113 (fun _ h9 => h9) rfl dX3_readErrand_55 ?_
  refine lv_bipush (v := nI 110) hx hb dX3_readErrand_58 (by decide) ?_
  refine q_eqN (tgt := 94) hx hb (by omega) (by omega) dX3_readErrand_60 (by decide) (fun c5 => ?_) (fun c5 => absurd c5 (by decide))
  refine lv_iconst (v := nI 0) hx hb dX3_readErrand_94 (by decide) ?_
  refine q_pt (D := D) (ci := 3) (v := .int (nI 0)) (ty := .boolean) (C := RX3) (T := TX3) (N := 15) hx hb hts hi3 tyX3 tyX3_ok nmX3 hown hK hP hD hS (Or.inl rfl) 0 rfl rfl 10 (by decide) hfl102 (fun _ h9 => h9) rfl (by decide +kernel) rfl rfl (Nat.le_of_ble_eq_true rfl) (ws' := wR o ps pa pv pn px cI (oM ps pa pv pn px th mn kp (nI len) (nI i) (nI 0) (nI 110) wh te dg) (rr f) fa fv fn fx) rfl dX3_readErrand_95 (fun H locs hP hD hS => ?_)
  refine lv_aload_n hx hb dX3_readErrand_98 rfl (lv_at hl 0 rfl) ?_
  refine lv_dup hx hb dX3_readErrand_99 rfl ?_
  refine va_get (D := D) (ci := 3) (v := .int (nI i)) (C := RX3) (T := TX3) (N := 15) hx hb hts hi3 hown hK hP 0 rfl rfl 9 (by decide) hfl106 (fun _ h9 => h9) rfl dX3_readErrand_100 ?_
  refine lv_aload_n hx hb dX3_readErrand_103 rfl (lv_at hl 0 rfl) ?_
  refine va_get (D := D) (ci := 3) (v := .int (nI 0)) (C := RX3) (T := TX3) (N := 15) hx hb hts hi3 hown hK hP 0 rfl rfl 10 (by decide) hfl102 (fun _ h9 => h9) rfl dX3_readErrand_104 ?_
  refine lv_if_eq (tgt := 114) hx hb dX3_readErrand_107 (by decide) (fun c6 => ?_) (fun c6 => absurd c6 (by decide))
  refine lv_iconst (v := nI 1) hx hb dX3_readErrand_114 (by decide) ?_
  refine q_addN hx hb (1 + i) (by omega) dX3_readErrand_115 ?_
  refine q_pt (D := D) (ci := 3) (v := .int (nI (1 + i))) (ty := .int) (C := RX3) (T := TX3) (N := 15) hx hb hts hi3 tyX3 tyX3_ok nmX3 hown hK hP hD hS (Or.inl rfl) 0 rfl rfl 9 (by decide) hfl106 (fun _ h9 => h9) rfl (by decide +kernel) rfl rfl (Nat.le_of_ble_eq_true rfl) (ws' := wR o ps pa pv pn px cI (oM ps pa pv pn px th mn kp (nI len) (nI (1 + i)) (nI 0) (nI 110) wh te dg) (rr f) fa fv fn fx) rfl dX3_readErrand_116 (fun H locs hP hD hS => ?_)
  refine lv_aload_n hx hb dX3_readErrand_119 rfl (lv_at hl 0 rfl) ?_
  refine lv_aload_n hx hb dX3_readErrand_120 rfl (lv_at hl 0 rfl) ?_
  refine lv_bipush (v := nI 48) hx hb dX3_readErrand_121 (by decide) ?_
  refine lv_aload_n hx hb dX3_readErrand_123 rfl (lv_at hl 0 rfl) ?_
  refine va_get (D := D) (ci := 3) (v := .int (nI 110)) (C := RX3) (T := TX3) (N := 15) hx hb hts hi3 hown hK hP 0 rfl rfl 11 (by decide) hfl113 (fun _ h9 => h9) rfl dX3_readErrand_124 ?_
  refine lv_bipush (v := nI 115) hx hb dX3_readErrand_127 (by decide) ?_
  refine q_neN (tgt := 137) hx hb (by omega) (by omega) dX3_readErrand_129 (by decide) (fun c7 => ?_) (fun c7 => absurd c7 (by decide))
  refine lv_bipush (v := nI 50) hx hb dX3_readErrand_137 (by decide) ?_
  refine q_ciF (BH := fun H => va_P D vwCl (wR o ps pa pv pn px cI (oM ps pa pv pn px th mn kp (nI len) (nI (2 + i)) (nI 0) (nI 110) wh te dg) (rr f) fa fv fn fx) H) (va_runV (rm := { frames := 2, cells := 0, slots := 0, locals := 44 }) (As := [.int (nI 48), .int (nI 50)]) (rest := [.ref o]) ⟨hx, hb, hml, hown, hts⟩ (m3_takes_t l D cI o ps pa pv pn px f fa fv fn fx th mn kp (nI 110) wh te dg ch len (1 + i) hlen (by omega) hfx hch 48 50 (by omega) (by omega) h1l h2l h3l hD) (cwV 2 hts gX3_readErrand_X3_takes rfl rfl rfl (by decide +kernel) ⟨Nat.le_of_ble_eq_true rfl, Nat.le_of_ble_eq_true rfl⟩) (q_pV (ci := 3) (q0 := 0) hP hK rfl rfl) rfl rfl hl.1 rfl (lv_room (Nat.le_of_ble_eq_true rfl)) dX3_readErrand_139 ⟨Nat.le_of_ble_eq_true rfl, Nat.le_of_ble_eq_true rfl⟩) (fun t h => (show 2 + i = 1 + (1 + i) by omega) ▸ h) hS (fun _ h => h) (fun x8 H locs e8 hP hS => ?_)
  have hD := q_D2 (ws' := wR o ps pa pv pn px cI (oM ps pa pv pn px th mn kp (nI len) (nI (2 + i)) (nI 0) (nI 110) wh te dg) (rr f) fa fv fn fx) hD rfl
  have e8 : x8 = (nI ((ch (1 + i) - 48))) := e8
  subst e8
  refine q_pt (D := D) (ci := 3) (v := .int (nI ((ch (1 + i) - 48)))) (ty := .int) (C := RX3) (T := TX3) (N := 15) hx hb hts hi3 tyX3 tyX3_ok nmX3 hown hK hP hD hS (Or.inl rfl) 0 rfl rfl 12 (by decide) hfl119 (fun _ h9 => h9) rfl (by decide +kernel) rfl rfl (Nat.le_of_ble_eq_true rfl) (ws' := wR o ps pa pv pn px cI (oM ps pa pv pn px th mn kp (nI len) (nI (2 + i)) (nI 0) (nI 110) (nI ((ch (1 + i) - 48))) te dg) (rr f) fa fv fn fx) rfl dX3_readErrand_142 (fun H locs hP hD hS => ?_)
  refine lv_aload_n hx hb dX3_readErrand_145 rfl (lv_at hl 0 rfl) ?_
  refine va_get (D := D) (ci := 3) (v := .int (nI 110)) (C := RX3) (T := TX3) (N := 15) hx hb hts hi3 hown hK hP 0 rfl rfl 11 (by decide) hfl113 (fun _ h9 => h9) rfl dX3_readErrand_146 ?_
  refine lv_bipush (v := nI 98) hx hb dX3_readErrand_149 (by decide) ?_
  refine q_neN (tgt := 242) hx hb (by omega) (by omega) dX3_readErrand_151 (by decide) (fun c9 => ?_) (fun c9 => absurd c9 (by decide))
  exact hret _ _ _ _ (hP) hS dX3_readErrand_242
set_option maxHeartbeats 4000000 in
set_option maxRecDepth 100000 in
theorem m3_rd_108_F (l : Launch) (D : va_G) (cI : ClassId) (o ps pa pv pn px : Nat) (f fa fv fn fx : Nat → Int32) (th mn kp le wh te : Int32) (dg : Int64) (ch : Nat → Nat) (len i : Nat) (hlen : len ≤ 60) (hi61 : i ≤ 60) (hfx : ∀ j, j < len → fx j = nI (ch j)) (hch : ∀ j, j < len → ch j < 128) (hil : i < len) (hc : ch i = 108) (hn : n_ok ch len (1 + i) false 48 50 = false) (hD : va_D (fun _ => True) (wR o ps pa pv pn px cI (oM ps pa pv pn px th mn kp (nI len) (nI i) (nI 0) le wh te dg) (rr f) fa fv fn fx)) : q_V l yX3_readErrand wsX3_readErrand { frames := 3, cells := 0, slots := 0, locals := 68 } [.ref o] (q_bp D (wR o ps pa pv pn px cI (oM ps pa pv pn px th mn kp (nI len) (nI i) (nI 0) le wh te dg) (rr f) fa fv fn fx) [(cI, .int)]) (fun H => va_P D vwCl (wR o ps pa pv pn px cI (oM ps pa pv pn px th mn kp (nI len) (nI (1 + i)) (nI 1) (nI 108) (nI 0) te dg) (rr f) fa fv fn fx) H) (AM o ps pa pv pn px) 0 0 := by
  refine q_goV (cc := cX3_readErrand) (maxL := 1) (lv0 := [(0, .ref o)]) (by decide) rfl (Nat.le_of_ble_eq_true rfl) rfl ?_
  intro p e s m args below meth c Q ls hx hb hml hts hown hP hK hl hret hnm
  have hi3 : ∀ w ∈ wsX30, w ∈ wsX3_readErrand := by decide +kernel
  have hfl106 := hts (.fieldLink RX3 106 "WhisperedPotsModel" "spot" "I") (by decide +kernel)
  have hfl99 := hts (.fieldLink RX3 99 "WhisperedPotsModel" "length" "I") (by decide +kernel)
  have hfl22 := hts (.fieldLink RX3 22 "WhisperedPotsModel" "text" "[I") (by decide +kernel)
  have hfl113 := hts (.fieldLink RX3 113 "WhisperedPotsModel" "letter" "I") (by decide +kernel)
  have hfl102 := hts (.fieldLink RX3 102 "WhisperedPotsModel" "isWrong" "Z") (by decide +kernel)
  have hfl119 := hts (.fieldLink RX3 119 "WhisperedPotsModel" "whose" "I") (by decide +kernel)
  have hfl122 := hts (.fieldLink RX3 122 "WhisperedPotsModel" "tea" "I") (by decide +kernel)
  have hS : va_S (AM o ps pa pv pn px) s.heap s.heap [] := va_S.rf
  have hne : o ≠ ps := fun h => absurd (hD.1 0 1 _ _ rfl rfl h) (by decide)
  refine lv_aload_n hx hb dX3_readErrand_0 rfl (lv_at hl 0 rfl) ?_
  refine lv_aload_n hx hb dX3_readErrand_1 rfl (lv_at hl 0 rfl) ?_
  refine va_get (D := D) (ci := 3) (v := .int (nI i)) (C := RX3) (T := TX3) (N := 15) hx hb hts hi3 hown hK hP 0 rfl rfl 9 (by decide) hfl106 (fun _ h9 => h9) rfl dX3_readErrand_2 ?_
  refine lv_aload_n hx hb dX3_readErrand_5 rfl (lv_at hl 0 rfl) ?_
  refine va_get (D := D) (ci := 3) (v := .int (nI len)) (C := RX3) (T := TX3) (N := 15) hx hb hts hi3 hown hK hP 0 rfl rfl 8 (by decide) hfl99 (fun _ h9 => h9) rfl dX3_readErrand_6 ?_
  refine q_geN (tgt := 24) hx hb (by omega) (by omega) dX3_readErrand_9 (by decide) (fun c1 => absurd c1 (by omega)) (fun c1 => ?_)
  refine lv_aload_n hx hb dX3_readErrand_12 rfl (lv_at hl 0 rfl) ?_
  refine va_get (D := D) (ci := 3) (v := .ref px) (C := RX3) (T := TX3) (N := 15) hx hb hts hi3 hown hK hP 0 rfl rfl 7 (by decide) hfl22 (fun _ h9 => h9) rfl dX3_readErrand_13 ?_
  refine lv_aload_n hx hb dX3_readErrand_16 rfl (lv_at hl 0 rfl) ?_
  refine va_get (D := D) (ci := 3) (v := .int (nI i)) (C := RX3) (T := TX3) (N := 15) hx hb hts hi3 hown hK hP 0 rfl rfl 9 (by decide) hfl106 (fun _ h9 => h9) rfl dX3_readErrand_17 ?_
  refine q_ld hx hb hK hP 5 0 rfl rfl (j := i) (v := (nI 108)) (by omega) (by omega) ((hfx _ (by omega)).trans (congrArg nI hc)) dX3_readErrand_20 ?_
  refine lv_goto (tgt := 25) hx hb dX3_readErrand_21 (by decide) ?_
  refine q_pt (D := D) (ci := 3) (v := .int (nI 108)) (ty := .int) (C := RX3) (T := TX3) (N := 15) hx hb hts hi3 tyX3 tyX3_ok nmX3 hown hK hP hD hS (Or.inl rfl) 0 rfl rfl 11 (by decide) hfl113 (fun _ h9 => h9) rfl (by decide +kernel) rfl rfl (Nat.le_of_ble_eq_true rfl) (ws' := wR o ps pa pv pn px cI (oM ps pa pv pn px th mn kp (nI len) (nI i) (nI 0) (nI 108) wh te dg) (rr f) fa fv fn fx) rfl dX3_readErrand_25 (fun H locs hP hD hS => ?_)
  refine lv_aload_n hx hb dX3_readErrand_28 rfl (lv_at hl 0 rfl) ?_
  refine lv_aload_n hx hb dX3_readErrand_29 rfl (lv_at hl 0 rfl) ?_
  refine va_get (D := D) (ci := 3) (v := .int (nI 0)) (C := RX3) (T := TX3) (N := 15) hx hb hts hi3 hown hK hP 0 rfl rfl 10 (by decide) hfl102 (fun _ h9 => h9) rfl dX3_readErrand_30 ?_
  refine lv_if_ne (tgt := 90) hx hb dX3_readErrand_33 (by decide) (fun c2 => absurd c2 (by decide)) (fun c2 => ?_)
  refine lv_aload_n hx hb dX3_readErrand_36 rfl (lv_at hl 0 rfl) ?_
  refine va_get (D := D) (ci := 3) (v := .int (nI 108)) (C := RX3) (T := TX3) (N := 15) hx hb hts hi3 hown hK hP 0 rfl rfl 11 (by decide) hfl113 (fun _ h9 => h9) rfl dX3_readErrand_37 ?_
  refine lv_bipush (v := nI 98) hx hb dX3_readErrand_40 (by decide) ?_
  refine q_eqN (tgt := 94) hx hb (by omega) (by omega) dX3_readErrand_42 (by decide) (fun c3 => absurd c3 (by decide)) (fun c3 => ?_)
  refine lv_aload_n hx hb dX3_readErrand_45 rfl (lv_at hl 0 rfl) ?_
  refine va_get (D := D) (ci := 3) (v := .int (nI 108)) (C := RX3) (T := TX3) (N := 15) hx hb hts hi3 hown hK hP 0 rfl rfl 11 (by decide) hfl113 (fun _ h9 => h9) rfl dX3_readErrand_46 ?_
  refine lv_bipush (v := nI 112) hx hb dX3_readErrand_49 (by decide) ?_
  refine q_eqN (tgt := 94) hx hb (by omega) (by omega) dX3_readErrand_51 (by decide) (fun c4 => absurd c4 (by decide)) (fun c4 => ?_)
  refine lv_aload_n hx hb dX3_readErrand_54 rfl (lv_at hl 0 rfl) ?_
  refine va_get (D := D) (ci := 3) (v := .int (nI 108)) (C := RX3) (T := TX3) (N := 15) hx hb hts hi3 hown hK hP 0 rfl rfl 11 (by decide) hfl113 (fun _ h9 => h9) rfl dX3_readErrand_55 ?_
  refine lv_bipush (v := nI 110) hx hb dX3_readErrand_58 (by decide) ?_
  refine q_eqN (tgt := 94) hx hb (by omega) (by omega) dX3_readErrand_60 (by decide) (fun c5 => absurd c5 (by decide)) (fun c5 => ?_)
  refine lv_aload_n hx hb dX3_readErrand_63 rfl (lv_at hl 0 rfl) ?_
  refine va_get (D := D) (ci := 3) (v := .int (nI 108)) (C := RX3) (T := TX3) (N := 15) hx hb hts hi3 hown hK hP 0 rfl rfl 11 (by decide) hfl113 (fun _ h9 => h9) rfl dX3_readErrand_64 ?_
  refine lv_bipush (v := nI 108) hx hb dX3_readErrand_67 (by decide) ?_
  refine q_eqN (tgt := 94) hx hb (by omega) (by omega) dX3_readErrand_69 (by decide) (fun c6 => ?_) (fun c6 => absurd c6 (by decide))
  refine lv_iconst (v := nI 0) hx hb dX3_readErrand_94 (by decide) ?_
  refine q_pt (D := D) (ci := 3) (v := .int (nI 0)) (ty := .boolean) (C := RX3) (T := TX3) (N := 15) hx hb hts hi3 tyX3 tyX3_ok nmX3 hown hK hP hD hS (Or.inl rfl) 0 rfl rfl 10 (by decide) hfl102 (fun _ h9 => h9) rfl (by decide +kernel) rfl rfl (Nat.le_of_ble_eq_true rfl) (ws' := wR o ps pa pv pn px cI (oM ps pa pv pn px th mn kp (nI len) (nI i) (nI 0) (nI 108) wh te dg) (rr f) fa fv fn fx) rfl dX3_readErrand_95 (fun H locs hP hD hS => ?_)
  refine lv_aload_n hx hb dX3_readErrand_98 rfl (lv_at hl 0 rfl) ?_
  refine lv_dup hx hb dX3_readErrand_99 rfl ?_
  refine va_get (D := D) (ci := 3) (v := .int (nI i)) (C := RX3) (T := TX3) (N := 15) hx hb hts hi3 hown hK hP 0 rfl rfl 9 (by decide) hfl106 (fun _ h9 => h9) rfl dX3_readErrand_100 ?_
  refine lv_aload_n hx hb dX3_readErrand_103 rfl (lv_at hl 0 rfl) ?_
  refine va_get (D := D) (ci := 3) (v := .int (nI 0)) (C := RX3) (T := TX3) (N := 15) hx hb hts hi3 hown hK hP 0 rfl rfl 10 (by decide) hfl102 (fun _ h9 => h9) rfl dX3_readErrand_104 ?_
  refine lv_if_eq (tgt := 114) hx hb dX3_readErrand_107 (by decide) (fun c7 => ?_) (fun c7 => absurd c7 (by decide))
  refine lv_iconst (v := nI 1) hx hb dX3_readErrand_114 (by decide) ?_
  refine q_addN hx hb (1 + i) (by omega) dX3_readErrand_115 ?_
  refine q_pt (D := D) (ci := 3) (v := .int (nI (1 + i))) (ty := .int) (C := RX3) (T := TX3) (N := 15) hx hb hts hi3 tyX3 tyX3_ok nmX3 hown hK hP hD hS (Or.inl rfl) 0 rfl rfl 9 (by decide) hfl106 (fun _ h9 => h9) rfl (by decide +kernel) rfl rfl (Nat.le_of_ble_eq_true rfl) (ws' := wR o ps pa pv pn px cI (oM ps pa pv pn px th mn kp (nI len) (nI (1 + i)) (nI 0) (nI 108) wh te dg) (rr f) fa fv fn fx) rfl dX3_readErrand_116 (fun H locs hP hD hS => ?_)
  refine lv_aload_n hx hb dX3_readErrand_119 rfl (lv_at hl 0 rfl) ?_
  refine lv_aload_n hx hb dX3_readErrand_120 rfl (lv_at hl 0 rfl) ?_
  refine lv_bipush (v := nI 48) hx hb dX3_readErrand_121 (by decide) ?_
  refine lv_aload_n hx hb dX3_readErrand_123 rfl (lv_at hl 0 rfl) ?_
  refine va_get (D := D) (ci := 3) (v := .int (nI 108)) (C := RX3) (T := TX3) (N := 15) hx hb hts hi3 hown hK hP 0 rfl rfl 11 (by decide) hfl113 (fun _ h9 => h9) rfl dX3_readErrand_124 ?_
  refine lv_bipush (v := nI 115) hx hb dX3_readErrand_127 (by decide) ?_
  refine q_neN (tgt := 137) hx hb (by omega) (by omega) dX3_readErrand_129 (by decide) (fun c8 => ?_) (fun c8 => absurd c8 (by decide))
  refine lv_bipush (v := nI 50) hx hb dX3_readErrand_137 (by decide) ?_
  refine q_ciF (BH := fun H => va_P D vwCl (wR o ps pa pv pn px cI (oM ps pa pv pn px th mn kp (nI len) (nI (1 + i)) (nI 1) (nI 108) wh te dg) (rr f) fa fv fn fx) H) (va_runV (rm := { frames := 2, cells := 0, slots := 0, locals := 44 }) (As := [.int (nI 48), .int (nI 50)]) (rest := [.ref o]) ⟨hx, hb, hml, hown, hts⟩ (m3_takes_f l D cI o ps pa pv pn px f fa fv fn fx th mn kp (nI 108) wh te dg ch len (1 + i) hlen (by omega) hfx hch 48 50 (by omega) (by omega) false hn hD) (cwV 2 hts gX3_readErrand_X3_takes rfl rfl rfl (by decide +kernel) ⟨Nat.le_of_ble_eq_true rfl, Nat.le_of_ble_eq_true rfl⟩) (q_pV (ci := 3) (q0 := 0) hP hK rfl rfl) rfl rfl hl.1 rfl (lv_room (Nat.le_of_ble_eq_true rfl)) dX3_readErrand_139 ⟨Nat.le_of_ble_eq_true rfl, Nat.le_of_ble_eq_true rfl⟩) (fun t h => h) hS (fun _ h => h) (fun x9 H locs e9 hP hS => ?_)
  have hD := q_D2 (ws' := wR o ps pa pv pn px cI (oM ps pa pv pn px th mn kp (nI len) (nI (1 + i)) (nI 1) (nI 108) wh te dg) (rr f) fa fv fn fx) hD rfl
  have e9 : x9 = (nI 0) := e9
  subst e9
  refine q_pt (D := D) (ci := 3) (v := .int (nI 0)) (ty := .int) (C := RX3) (T := TX3) (N := 15) hx hb hts hi3 tyX3 tyX3_ok nmX3 hown hK hP hD hS (Or.inl rfl) 0 rfl rfl 12 (by decide) hfl119 (fun _ h9 => h9) rfl (by decide +kernel) rfl rfl (Nat.le_of_ble_eq_true rfl) (ws' := wR o ps pa pv pn px cI (oM ps pa pv pn px th mn kp (nI len) (nI (1 + i)) (nI 1) (nI 108) (nI 0) te dg) (rr f) fa fv fn fx) rfl dX3_readErrand_142 (fun H locs hP hD hS => ?_)
  refine lv_aload_n hx hb dX3_readErrand_145 rfl (lv_at hl 0 rfl) ?_
  refine va_get (D := D) (ci := 3) (v := .int (nI 108)) (C := RX3) (T := TX3) (N := 15) hx hb hts hi3 hown hK hP 0 rfl rfl 11 (by decide) hfl113 (fun _ h9 => h9) rfl dX3_readErrand_146 ?_
  refine lv_bipush (v := nI 98) hx hb dX3_readErrand_149 (by decide) ?_
  refine q_neN (tgt := 242) hx hb (by omega) (by omega) dX3_readErrand_151 (by decide) (fun c10 => ?_) (fun c10 => absurd c10 (by decide))
  exact hret _ _ _ _ (hP) hS dX3_readErrand_242
set_option maxHeartbeats 4000000 in
set_option maxRecDepth 100000 in
theorem m3_rd_108_T (l : Launch) (D : va_G) (cI : ClassId) (o ps pa pv pn px : Nat) (f fa fv fn fx : Nat → Int32) (th mn kp le wh te : Int32) (dg : Int64) (ch : Nat → Nat) (len i : Nat) (hlen : len ≤ 60) (hi61 : i ≤ 60) (hfx : ∀ j, j < len → fx j = nI (ch j)) (hch : ∀ j, j < len → ch j < 128) (hil : i < len) (hc : ch i = 108) (h1l : 1 + i < len) (h2l : 48 ≤ ch (1 + i)) (h3l : ch (1 + i) ≤ 50) (hD : va_D (fun _ => True) (wR o ps pa pv pn px cI (oM ps pa pv pn px th mn kp (nI len) (nI i) (nI 0) le wh te dg) (rr f) fa fv fn fx)) : q_V l yX3_readErrand wsX3_readErrand { frames := 3, cells := 0, slots := 0, locals := 68 } [.ref o] (q_bp D (wR o ps pa pv pn px cI (oM ps pa pv pn px th mn kp (nI len) (nI i) (nI 0) le wh te dg) (rr f) fa fv fn fx) [(cI, .int)]) (fun H => va_P D vwCl (wR o ps pa pv pn px cI (oM ps pa pv pn px th mn kp (nI len) (nI (2 + i)) (nI 0) (nI 108) (nI ((ch (1 + i) - 48))) te dg) (rr f) fa fv fn fx) H) (AM o ps pa pv pn px) 0 0 := by
  refine q_goV (cc := cX3_readErrand) (maxL := 1) (lv0 := [(0, .ref o)]) (by decide) rfl (Nat.le_of_ble_eq_true rfl) rfl ?_
  intro p e s m args below meth c Q ls hx hb hml hts hown hP hK hl hret hnm
  have hi3 : ∀ w ∈ wsX30, w ∈ wsX3_readErrand := by decide +kernel
  have hfl106 := hts (.fieldLink RX3 106 "WhisperedPotsModel" "spot" "I") (by decide +kernel)
  have hfl99 := hts (.fieldLink RX3 99 "WhisperedPotsModel" "length" "I") (by decide +kernel)
  have hfl22 := hts (.fieldLink RX3 22 "WhisperedPotsModel" "text" "[I") (by decide +kernel)
  have hfl113 := hts (.fieldLink RX3 113 "WhisperedPotsModel" "letter" "I") (by decide +kernel)
  have hfl102 := hts (.fieldLink RX3 102 "WhisperedPotsModel" "isWrong" "Z") (by decide +kernel)
  have hfl119 := hts (.fieldLink RX3 119 "WhisperedPotsModel" "whose" "I") (by decide +kernel)
  have hfl122 := hts (.fieldLink RX3 122 "WhisperedPotsModel" "tea" "I") (by decide +kernel)
  have hS : va_S (AM o ps pa pv pn px) s.heap s.heap [] := va_S.rf
  have hne : o ≠ ps := fun h => absurd (hD.1 0 1 _ _ rfl rfl h) (by decide)
  refine lv_aload_n hx hb dX3_readErrand_0 rfl (lv_at hl 0 rfl) ?_
  refine lv_aload_n hx hb dX3_readErrand_1 rfl (lv_at hl 0 rfl) ?_
  refine va_get (D := D) (ci := 3) (v := .int (nI i)) (C := RX3) (T := TX3) (N := 15) hx hb hts hi3 hown hK hP 0 rfl rfl 9 (by decide) hfl106 (fun _ h9 => h9) rfl dX3_readErrand_2 ?_
  refine lv_aload_n hx hb dX3_readErrand_5 rfl (lv_at hl 0 rfl) ?_
  refine va_get (D := D) (ci := 3) (v := .int (nI len)) (C := RX3) (T := TX3) (N := 15) hx hb hts hi3 hown hK hP 0 rfl rfl 8 (by decide) hfl99 (fun _ h9 => h9) rfl dX3_readErrand_6 ?_
  refine q_geN (tgt := 24) hx hb (by omega) (by omega) dX3_readErrand_9 (by decide) (fun c1 => absurd c1 (by omega)) (fun c1 => ?_)
  refine lv_aload_n hx hb dX3_readErrand_12 rfl (lv_at hl 0 rfl) ?_
  refine va_get (D := D) (ci := 3) (v := .ref px) (C := RX3) (T := TX3) (N := 15) hx hb hts hi3 hown hK hP 0 rfl rfl 7 (by decide) hfl22 (fun _ h9 => h9) rfl dX3_readErrand_13 ?_
  refine lv_aload_n hx hb dX3_readErrand_16 rfl (lv_at hl 0 rfl) ?_
  refine va_get (D := D) (ci := 3) (v := .int (nI i)) (C := RX3) (T := TX3) (N := 15) hx hb hts hi3 hown hK hP 0 rfl rfl 9 (by decide) hfl106 (fun _ h9 => h9) rfl dX3_readErrand_17 ?_
  refine q_ld hx hb hK hP 5 0 rfl rfl (j := i) (v := (nI 108)) (by omega) (by omega) ((hfx _ (by omega)).trans (congrArg nI hc)) dX3_readErrand_20 ?_
  refine lv_goto (tgt := 25) hx hb dX3_readErrand_21 (by decide) ?_
  refine q_pt (D := D) (ci := 3) (v := .int (nI 108)) (ty := .int) (C := RX3) (T := TX3) (N := 15) hx hb hts hi3 tyX3 tyX3_ok nmX3 hown hK hP hD hS (Or.inl rfl) 0 rfl rfl 11 (by decide) hfl113 (fun _ h9 => h9) rfl (by decide +kernel) rfl rfl (Nat.le_of_ble_eq_true rfl) (ws' := wR o ps pa pv pn px cI (oM ps pa pv pn px th mn kp (nI len) (nI i) (nI 0) (nI 108) wh te dg) (rr f) fa fv fn fx) rfl dX3_readErrand_25 (fun H locs hP hD hS => ?_)
  refine lv_aload_n hx hb dX3_readErrand_28 rfl (lv_at hl 0 rfl) ?_
  refine lv_aload_n hx hb dX3_readErrand_29 rfl (lv_at hl 0 rfl) ?_
  refine va_get (D := D) (ci := 3) (v := .int (nI 0)) (C := RX3) (T := TX3) (N := 15) hx hb hts hi3 hown hK hP 0 rfl rfl 10 (by decide) hfl102 (fun _ h9 => h9) rfl dX3_readErrand_30 ?_
  refine lv_if_ne (tgt := 90) hx hb dX3_readErrand_33 (by decide) (fun c2 => absurd c2 (by decide)) (fun c2 => ?_)
  refine lv_aload_n hx hb dX3_readErrand_36 rfl (lv_at hl 0 rfl) ?_
  refine va_get (D := D) (ci := 3) (v := .int (nI 108)) (C := RX3) (T := TX3) (N := 15) hx hb hts hi3 hown hK hP 0 rfl rfl 11 (by decide) hfl113 (fun _ h9 => h9) rfl dX3_readErrand_37 ?_
  refine lv_bipush (v := nI 98) hx hb dX3_readErrand_40 (by decide) ?_
  refine q_eqN (tgt := 94) hx hb (by omega) (by omega) dX3_readErrand_42 (by decide) (fun c3 => absurd c3 (by decide)) (fun c3 => ?_)
  refine lv_aload_n hx hb dX3_readErrand_45 rfl (lv_at hl 0 rfl) ?_
  refine va_get (D := D) (ci := 3) (v := .int (nI 108)) (C := RX3) (T := TX3) (N := 15) hx hb hts hi3 hown hK hP 0 rfl rfl 11 (by decide) hfl113 (fun _ h9 => h9) rfl dX3_readErrand_46 ?_
  refine lv_bipush (v := nI 112) hx hb dX3_readErrand_49 (by decide) ?_
  refine q_eqN (tgt := 94) hx hb (by omega) (by omega) dX3_readErrand_51 (by decide) (fun c4 => absurd c4 (by decide)) (fun c4 => ?_)
  refine lv_aload_n hx hb dX3_readErrand_54 rfl (lv_at hl 0 rfl) ?_
  refine va_get (D := D) (ci := 3) (v := .int (nI 108)) (C := RX3) (T := TX3) (N := 15) hx hb hts hi3 hown hK hP 0 rfl rfl 11 (by decide) hfl113 (fun _ h9 => h9) rfl dX3_readErrand_55 ?_
  refine lv_bipush (v := nI 110) hx hb dX3_readErrand_58 (by decide) ?_
  refine q_eqN (tgt := 94) hx hb (by omega) (by omega) dX3_readErrand_60 (by decide) (fun c5 => absurd c5 (by decide)) (fun c5 => ?_)
  refine lv_aload_n hx hb dX3_readErrand_63 rfl (lv_at hl 0 rfl) ?_
  refine va_get (D := D) (ci := 3) (v := .int (nI 108)) (C := RX3) (T := TX3) (N := 15) hx hb hts hi3 hown hK hP 0 rfl rfl 11 (by decide) hfl113 (fun _ h9 => h9) rfl dX3_readErrand_64 ?_
  refine lv_bipush (v := nI 108) hx hb dX3_readErrand_67 (by decide) ?_
  refine q_eqN (tgt := 94) hx hb (by omega) (by omega) dX3_readErrand_69 (by decide) (fun c6 => ?_) (fun c6 => absurd c6 (by decide))
  refine lv_iconst (v := nI 0) hx hb dX3_readErrand_94 (by decide) ?_
  refine q_pt (D := D) (ci := 3) (v := .int (nI 0)) (ty := .boolean) (C := RX3) (T := TX3) (N := 15) hx hb hts hi3 tyX3 tyX3_ok nmX3 hown hK hP hD hS (Or.inl rfl) 0 rfl rfl 10 (by decide) hfl102 (fun _ h9 => h9) rfl (by decide +kernel) rfl rfl (Nat.le_of_ble_eq_true rfl) (ws' := wR o ps pa pv pn px cI (oM ps pa pv pn px th mn kp (nI len) (nI i) (nI 0) (nI 108) wh te dg) (rr f) fa fv fn fx) rfl dX3_readErrand_95 (fun H locs hP hD hS => ?_)
  refine lv_aload_n hx hb dX3_readErrand_98 rfl (lv_at hl 0 rfl) ?_
  refine lv_dup hx hb dX3_readErrand_99 rfl ?_
  refine va_get (D := D) (ci := 3) (v := .int (nI i)) (C := RX3) (T := TX3) (N := 15) hx hb hts hi3 hown hK hP 0 rfl rfl 9 (by decide) hfl106 (fun _ h9 => h9) rfl dX3_readErrand_100 ?_
  refine lv_aload_n hx hb dX3_readErrand_103 rfl (lv_at hl 0 rfl) ?_
  refine va_get (D := D) (ci := 3) (v := .int (nI 0)) (C := RX3) (T := TX3) (N := 15) hx hb hts hi3 hown hK hP 0 rfl rfl 10 (by decide) hfl102 (fun _ h9 => h9) rfl dX3_readErrand_104 ?_
  refine lv_if_eq (tgt := 114) hx hb dX3_readErrand_107 (by decide) (fun c7 => ?_) (fun c7 => absurd c7 (by decide))
  refine lv_iconst (v := nI 1) hx hb dX3_readErrand_114 (by decide) ?_
  refine q_addN hx hb (1 + i) (by omega) dX3_readErrand_115 ?_
  refine q_pt (D := D) (ci := 3) (v := .int (nI (1 + i))) (ty := .int) (C := RX3) (T := TX3) (N := 15) hx hb hts hi3 tyX3 tyX3_ok nmX3 hown hK hP hD hS (Or.inl rfl) 0 rfl rfl 9 (by decide) hfl106 (fun _ h9 => h9) rfl (by decide +kernel) rfl rfl (Nat.le_of_ble_eq_true rfl) (ws' := wR o ps pa pv pn px cI (oM ps pa pv pn px th mn kp (nI len) (nI (1 + i)) (nI 0) (nI 108) wh te dg) (rr f) fa fv fn fx) rfl dX3_readErrand_116 (fun H locs hP hD hS => ?_)
  refine lv_aload_n hx hb dX3_readErrand_119 rfl (lv_at hl 0 rfl) ?_
  refine lv_aload_n hx hb dX3_readErrand_120 rfl (lv_at hl 0 rfl) ?_
  refine lv_bipush (v := nI 48) hx hb dX3_readErrand_121 (by decide) ?_
  refine lv_aload_n hx hb dX3_readErrand_123 rfl (lv_at hl 0 rfl) ?_
  refine va_get (D := D) (ci := 3) (v := .int (nI 108)) (C := RX3) (T := TX3) (N := 15) hx hb hts hi3 hown hK hP 0 rfl rfl 11 (by decide) hfl113 (fun _ h9 => h9) rfl dX3_readErrand_124 ?_
  refine lv_bipush (v := nI 115) hx hb dX3_readErrand_127 (by decide) ?_
  refine q_neN (tgt := 137) hx hb (by omega) (by omega) dX3_readErrand_129 (by decide) (fun c8 => ?_) (fun c8 => absurd c8 (by decide))
  refine lv_bipush (v := nI 50) hx hb dX3_readErrand_137 (by decide) ?_
  refine q_ciF (BH := fun H => va_P D vwCl (wR o ps pa pv pn px cI (oM ps pa pv pn px th mn kp (nI len) (nI (2 + i)) (nI 0) (nI 108) wh te dg) (rr f) fa fv fn fx) H) (va_runV (rm := { frames := 2, cells := 0, slots := 0, locals := 44 }) (As := [.int (nI 48), .int (nI 50)]) (rest := [.ref o]) ⟨hx, hb, hml, hown, hts⟩ (m3_takes_t l D cI o ps pa pv pn px f fa fv fn fx th mn kp (nI 108) wh te dg ch len (1 + i) hlen (by omega) hfx hch 48 50 (by omega) (by omega) h1l h2l h3l hD) (cwV 2 hts gX3_readErrand_X3_takes rfl rfl rfl (by decide +kernel) ⟨Nat.le_of_ble_eq_true rfl, Nat.le_of_ble_eq_true rfl⟩) (q_pV (ci := 3) (q0 := 0) hP hK rfl rfl) rfl rfl hl.1 rfl (lv_room (Nat.le_of_ble_eq_true rfl)) dX3_readErrand_139 ⟨Nat.le_of_ble_eq_true rfl, Nat.le_of_ble_eq_true rfl⟩) (fun t h => (show 2 + i = 1 + (1 + i) by omega) ▸ h) hS (fun _ h => h) (fun x9 H locs e9 hP hS => ?_)
  have hD := q_D2 (ws' := wR o ps pa pv pn px cI (oM ps pa pv pn px th mn kp (nI len) (nI (2 + i)) (nI 0) (nI 108) wh te dg) (rr f) fa fv fn fx) hD rfl
  have e9 : x9 = (nI ((ch (1 + i) - 48))) := e9
  subst e9
  refine q_pt (D := D) (ci := 3) (v := .int (nI ((ch (1 + i) - 48)))) (ty := .int) (C := RX3) (T := TX3) (N := 15) hx hb hts hi3 tyX3 tyX3_ok nmX3 hown hK hP hD hS (Or.inl rfl) 0 rfl rfl 12 (by decide) hfl119 (fun _ h9 => h9) rfl (by decide +kernel) rfl rfl (Nat.le_of_ble_eq_true rfl) (ws' := wR o ps pa pv pn px cI (oM ps pa pv pn px th mn kp (nI len) (nI (2 + i)) (nI 0) (nI 108) (nI ((ch (1 + i) - 48))) te dg) (rr f) fa fv fn fx) rfl dX3_readErrand_142 (fun H locs hP hD hS => ?_)
  refine lv_aload_n hx hb dX3_readErrand_145 rfl (lv_at hl 0 rfl) ?_
  refine va_get (D := D) (ci := 3) (v := .int (nI 108)) (C := RX3) (T := TX3) (N := 15) hx hb hts hi3 hown hK hP 0 rfl rfl 11 (by decide) hfl113 (fun _ h9 => h9) rfl dX3_readErrand_146 ?_
  refine lv_bipush (v := nI 98) hx hb dX3_readErrand_149 (by decide) ?_
  refine q_neN (tgt := 242) hx hb (by omega) (by omega) dX3_readErrand_151 (by decide) (fun c10 => ?_) (fun c10 => absurd c10 (by decide))
  exact hret _ _ _ _ (hP) hS dX3_readErrand_242
set_option maxHeartbeats 4000000 in
set_option maxRecDepth 100000 in
theorem m3_rd_114_F (l : Launch) (D : va_G) (cI : ClassId) (o ps pa pv pn px : Nat) (f fa fv fn fx : Nat → Int32) (th mn kp le wh te : Int32) (dg : Int64) (ch : Nat → Nat) (len i : Nat) (hlen : len ≤ 60) (hi61 : i ≤ 60) (hfx : ∀ j, j < len → fx j = nI (ch j)) (hch : ∀ j, j < len → ch j < 128) (hil : i < len) (hc : ch i = 114) (hn : n_ok ch len (1 + i) false 48 50 = false) (hD : va_D (fun _ => True) (wR o ps pa pv pn px cI (oM ps pa pv pn px th mn kp (nI len) (nI i) (nI 0) le wh te dg) (rr f) fa fv fn fx)) : q_V l yX3_readErrand wsX3_readErrand { frames := 3, cells := 0, slots := 0, locals := 68 } [.ref o] (q_bp D (wR o ps pa pv pn px cI (oM ps pa pv pn px th mn kp (nI len) (nI i) (nI 0) le wh te dg) (rr f) fa fv fn fx) [(cI, .int)]) (fun H => va_P D vwCl (wR o ps pa pv pn px cI (oM ps pa pv pn px th mn kp (nI len) (nI (1 + i)) (nI 1) (nI 114) (nI 0) te dg) (rr f) fa fv fn fx) H) (AM o ps pa pv pn px) 0 0 := by
  refine q_goV (cc := cX3_readErrand) (maxL := 1) (lv0 := [(0, .ref o)]) (by decide) rfl (Nat.le_of_ble_eq_true rfl) rfl ?_
  intro p e s m args below meth c Q ls hx hb hml hts hown hP hK hl hret hnm
  have hi3 : ∀ w ∈ wsX30, w ∈ wsX3_readErrand := by decide +kernel
  have hfl106 := hts (.fieldLink RX3 106 "WhisperedPotsModel" "spot" "I") (by decide +kernel)
  have hfl99 := hts (.fieldLink RX3 99 "WhisperedPotsModel" "length" "I") (by decide +kernel)
  have hfl22 := hts (.fieldLink RX3 22 "WhisperedPotsModel" "text" "[I") (by decide +kernel)
  have hfl113 := hts (.fieldLink RX3 113 "WhisperedPotsModel" "letter" "I") (by decide +kernel)
  have hfl102 := hts (.fieldLink RX3 102 "WhisperedPotsModel" "isWrong" "Z") (by decide +kernel)
  have hfl119 := hts (.fieldLink RX3 119 "WhisperedPotsModel" "whose" "I") (by decide +kernel)
  have hfl122 := hts (.fieldLink RX3 122 "WhisperedPotsModel" "tea" "I") (by decide +kernel)
  have hS : va_S (AM o ps pa pv pn px) s.heap s.heap [] := va_S.rf
  have hne : o ≠ ps := fun h => absurd (hD.1 0 1 _ _ rfl rfl h) (by decide)
  refine lv_aload_n hx hb dX3_readErrand_0 rfl (lv_at hl 0 rfl) ?_
  refine lv_aload_n hx hb dX3_readErrand_1 rfl (lv_at hl 0 rfl) ?_
  refine va_get (D := D) (ci := 3) (v := .int (nI i)) (C := RX3) (T := TX3) (N := 15) hx hb hts hi3 hown hK hP 0 rfl rfl 9 (by decide) hfl106 (fun _ h9 => h9) rfl dX3_readErrand_2 ?_
  refine lv_aload_n hx hb dX3_readErrand_5 rfl (lv_at hl 0 rfl) ?_
  refine va_get (D := D) (ci := 3) (v := .int (nI len)) (C := RX3) (T := TX3) (N := 15) hx hb hts hi3 hown hK hP 0 rfl rfl 8 (by decide) hfl99 (fun _ h9 => h9) rfl dX3_readErrand_6 ?_
  refine q_geN (tgt := 24) hx hb (by omega) (by omega) dX3_readErrand_9 (by decide) (fun c1 => absurd c1 (by omega)) (fun c1 => ?_)
  refine lv_aload_n hx hb dX3_readErrand_12 rfl (lv_at hl 0 rfl) ?_
  refine va_get (D := D) (ci := 3) (v := .ref px) (C := RX3) (T := TX3) (N := 15) hx hb hts hi3 hown hK hP 0 rfl rfl 7 (by decide) hfl22 (fun _ h9 => h9) rfl dX3_readErrand_13 ?_
  refine lv_aload_n hx hb dX3_readErrand_16 rfl (lv_at hl 0 rfl) ?_
  refine va_get (D := D) (ci := 3) (v := .int (nI i)) (C := RX3) (T := TX3) (N := 15) hx hb hts hi3 hown hK hP 0 rfl rfl 9 (by decide) hfl106 (fun _ h9 => h9) rfl dX3_readErrand_17 ?_
  refine q_ld hx hb hK hP 5 0 rfl rfl (j := i) (v := (nI 114)) (by omega) (by omega) ((hfx _ (by omega)).trans (congrArg nI hc)) dX3_readErrand_20 ?_
  refine lv_goto (tgt := 25) hx hb dX3_readErrand_21 (by decide) ?_
  refine q_pt (D := D) (ci := 3) (v := .int (nI 114)) (ty := .int) (C := RX3) (T := TX3) (N := 15) hx hb hts hi3 tyX3 tyX3_ok nmX3 hown hK hP hD hS (Or.inl rfl) 0 rfl rfl 11 (by decide) hfl113 (fun _ h9 => h9) rfl (by decide +kernel) rfl rfl (Nat.le_of_ble_eq_true rfl) (ws' := wR o ps pa pv pn px cI (oM ps pa pv pn px th mn kp (nI len) (nI i) (nI 0) (nI 114) wh te dg) (rr f) fa fv fn fx) rfl dX3_readErrand_25 (fun H locs hP hD hS => ?_)
  refine lv_aload_n hx hb dX3_readErrand_28 rfl (lv_at hl 0 rfl) ?_
  refine lv_aload_n hx hb dX3_readErrand_29 rfl (lv_at hl 0 rfl) ?_
  refine va_get (D := D) (ci := 3) (v := .int (nI 0)) (C := RX3) (T := TX3) (N := 15) hx hb hts hi3 hown hK hP 0 rfl rfl 10 (by decide) hfl102 (fun _ h9 => h9) rfl dX3_readErrand_30 ?_
  refine lv_if_ne (tgt := 90) hx hb dX3_readErrand_33 (by decide) (fun c2 => absurd c2 (by decide)) (fun c2 => ?_)
  refine lv_aload_n hx hb dX3_readErrand_36 rfl (lv_at hl 0 rfl) ?_
  refine va_get (D := D) (ci := 3) (v := .int (nI 114)) (C := RX3) (T := TX3) (N := 15) hx hb hts hi3 hown hK hP 0 rfl rfl 11 (by decide) hfl113 (fun _ h9 => h9) rfl dX3_readErrand_37 ?_
  refine lv_bipush (v := nI 98) hx hb dX3_readErrand_40 (by decide) ?_
  refine q_eqN (tgt := 94) hx hb (by omega) (by omega) dX3_readErrand_42 (by decide) (fun c3 => absurd c3 (by decide)) (fun c3 => ?_)
  refine lv_aload_n hx hb dX3_readErrand_45 rfl (lv_at hl 0 rfl) ?_
  refine va_get (D := D) (ci := 3) (v := .int (nI 114)) (C := RX3) (T := TX3) (N := 15) hx hb hts hi3 hown hK hP 0 rfl rfl 11 (by decide) hfl113 (fun _ h9 => h9) rfl dX3_readErrand_46 ?_
  refine lv_bipush (v := nI 112) hx hb dX3_readErrand_49 (by decide) ?_
  refine q_eqN (tgt := 94) hx hb (by omega) (by omega) dX3_readErrand_51 (by decide) (fun c4 => absurd c4 (by decide)) (fun c4 => ?_)
  refine lv_aload_n hx hb dX3_readErrand_54 rfl (lv_at hl 0 rfl) ?_
  refine va_get (D := D) (ci := 3) (v := .int (nI 114)) (C := RX3) (T := TX3) (N := 15) hx hb hts hi3 hown hK hP 0 rfl rfl 11 (by decide) hfl113 (fun _ h9 => h9) rfl dX3_readErrand_55 ?_
  refine lv_bipush (v := nI 110) hx hb dX3_readErrand_58 (by decide) ?_
  refine q_eqN (tgt := 94) hx hb (by omega) (by omega) dX3_readErrand_60 (by decide) (fun c5 => absurd c5 (by decide)) (fun c5 => ?_)
  refine lv_aload_n hx hb dX3_readErrand_63 rfl (lv_at hl 0 rfl) ?_
  refine va_get (D := D) (ci := 3) (v := .int (nI 114)) (C := RX3) (T := TX3) (N := 15) hx hb hts hi3 hown hK hP 0 rfl rfl 11 (by decide) hfl113 (fun _ h9 => h9) rfl dX3_readErrand_64 ?_
  refine lv_bipush (v := nI 108) hx hb dX3_readErrand_67 (by decide) ?_
  refine q_eqN (tgt := 94) hx hb (by omega) (by omega) dX3_readErrand_69 (by decide) (fun c6 => absurd c6 (by decide)) (fun c6 => ?_)
  refine lv_aload_n hx hb dX3_readErrand_72 rfl (lv_at hl 0 rfl) ?_
  refine va_get (D := D) (ci := 3) (v := .int (nI 114)) (C := RX3) (T := TX3) (N := 15) hx hb hts hi3 hown hK hP 0 rfl rfl 11 (by decide) hfl113 (fun _ h9 => h9) rfl dX3_readErrand_73 ?_
  refine lv_bipush (v := nI 114) hx hb dX3_readErrand_76 (by decide) ?_
  refine q_eqN (tgt := 94) hx hb (by omega) (by omega) dX3_readErrand_78 (by decide) (fun c7 => ?_) (fun c7 => absurd c7 (by decide))
  refine lv_iconst (v := nI 0) hx hb dX3_readErrand_94 (by decide) ?_
  refine q_pt (D := D) (ci := 3) (v := .int (nI 0)) (ty := .boolean) (C := RX3) (T := TX3) (N := 15) hx hb hts hi3 tyX3 tyX3_ok nmX3 hown hK hP hD hS (Or.inl rfl) 0 rfl rfl 10 (by decide) hfl102 (fun _ h9 => h9) rfl (by decide +kernel) rfl rfl (Nat.le_of_ble_eq_true rfl) (ws' := wR o ps pa pv pn px cI (oM ps pa pv pn px th mn kp (nI len) (nI i) (nI 0) (nI 114) wh te dg) (rr f) fa fv fn fx) rfl dX3_readErrand_95 (fun H locs hP hD hS => ?_)
  refine lv_aload_n hx hb dX3_readErrand_98 rfl (lv_at hl 0 rfl) ?_
  refine lv_dup hx hb dX3_readErrand_99 rfl ?_
  refine va_get (D := D) (ci := 3) (v := .int (nI i)) (C := RX3) (T := TX3) (N := 15) hx hb hts hi3 hown hK hP 0 rfl rfl 9 (by decide) hfl106 (fun _ h9 => h9) rfl dX3_readErrand_100 ?_
  refine lv_aload_n hx hb dX3_readErrand_103 rfl (lv_at hl 0 rfl) ?_
  refine va_get (D := D) (ci := 3) (v := .int (nI 0)) (C := RX3) (T := TX3) (N := 15) hx hb hts hi3 hown hK hP 0 rfl rfl 10 (by decide) hfl102 (fun _ h9 => h9) rfl dX3_readErrand_104 ?_
  refine lv_if_eq (tgt := 114) hx hb dX3_readErrand_107 (by decide) (fun c8 => ?_) (fun c8 => absurd c8 (by decide))
  refine lv_iconst (v := nI 1) hx hb dX3_readErrand_114 (by decide) ?_
  refine q_addN hx hb (1 + i) (by omega) dX3_readErrand_115 ?_
  refine q_pt (D := D) (ci := 3) (v := .int (nI (1 + i))) (ty := .int) (C := RX3) (T := TX3) (N := 15) hx hb hts hi3 tyX3 tyX3_ok nmX3 hown hK hP hD hS (Or.inl rfl) 0 rfl rfl 9 (by decide) hfl106 (fun _ h9 => h9) rfl (by decide +kernel) rfl rfl (Nat.le_of_ble_eq_true rfl) (ws' := wR o ps pa pv pn px cI (oM ps pa pv pn px th mn kp (nI len) (nI (1 + i)) (nI 0) (nI 114) wh te dg) (rr f) fa fv fn fx) rfl dX3_readErrand_116 (fun H locs hP hD hS => ?_)
  refine lv_aload_n hx hb dX3_readErrand_119 rfl (lv_at hl 0 rfl) ?_
  refine lv_aload_n hx hb dX3_readErrand_120 rfl (lv_at hl 0 rfl) ?_
  refine lv_bipush (v := nI 48) hx hb dX3_readErrand_121 (by decide) ?_
  refine lv_aload_n hx hb dX3_readErrand_123 rfl (lv_at hl 0 rfl) ?_
  refine va_get (D := D) (ci := 3) (v := .int (nI 114)) (C := RX3) (T := TX3) (N := 15) hx hb hts hi3 hown hK hP 0 rfl rfl 11 (by decide) hfl113 (fun _ h9 => h9) rfl dX3_readErrand_124 ?_
  refine lv_bipush (v := nI 115) hx hb dX3_readErrand_127 (by decide) ?_
  refine q_neN (tgt := 137) hx hb (by omega) (by omega) dX3_readErrand_129 (by decide) (fun c9 => ?_) (fun c9 => absurd c9 (by decide))
  refine lv_bipush (v := nI 50) hx hb dX3_readErrand_137 (by decide) ?_
  refine q_ciF (BH := fun H => va_P D vwCl (wR o ps pa pv pn px cI (oM ps pa pv pn px th mn kp (nI len) (nI (1 + i)) (nI 1) (nI 114) wh te dg) (rr f) fa fv fn fx) H) (va_runV (rm := { frames := 2, cells := 0, slots := 0, locals := 44 }) (As := [.int (nI 48), .int (nI 50)]) (rest := [.ref o]) ⟨hx, hb, hml, hown, hts⟩ (m3_takes_f l D cI o ps pa pv pn px f fa fv fn fx th mn kp (nI 114) wh te dg ch len (1 + i) hlen (by omega) hfx hch 48 50 (by omega) (by omega) false hn hD) (cwV 2 hts gX3_readErrand_X3_takes rfl rfl rfl (by decide +kernel) ⟨Nat.le_of_ble_eq_true rfl, Nat.le_of_ble_eq_true rfl⟩) (q_pV (ci := 3) (q0 := 0) hP hK rfl rfl) rfl rfl hl.1 rfl (lv_room (Nat.le_of_ble_eq_true rfl)) dX3_readErrand_139 ⟨Nat.le_of_ble_eq_true rfl, Nat.le_of_ble_eq_true rfl⟩) (fun t h => h) hS (fun _ h => h) (fun x10 H locs e10 hP hS => ?_)
  have hD := q_D2 (ws' := wR o ps pa pv pn px cI (oM ps pa pv pn px th mn kp (nI len) (nI (1 + i)) (nI 1) (nI 114) wh te dg) (rr f) fa fv fn fx) hD rfl
  have e10 : x10 = (nI 0) := e10
  subst e10
  refine q_pt (D := D) (ci := 3) (v := .int (nI 0)) (ty := .int) (C := RX3) (T := TX3) (N := 15) hx hb hts hi3 tyX3 tyX3_ok nmX3 hown hK hP hD hS (Or.inl rfl) 0 rfl rfl 12 (by decide) hfl119 (fun _ h9 => h9) rfl (by decide +kernel) rfl rfl (Nat.le_of_ble_eq_true rfl) (ws' := wR o ps pa pv pn px cI (oM ps pa pv pn px th mn kp (nI len) (nI (1 + i)) (nI 1) (nI 114) (nI 0) te dg) (rr f) fa fv fn fx) rfl dX3_readErrand_142 (fun H locs hP hD hS => ?_)
  refine lv_aload_n hx hb dX3_readErrand_145 rfl (lv_at hl 0 rfl) ?_
  refine va_get (D := D) (ci := 3) (v := .int (nI 114)) (C := RX3) (T := TX3) (N := 15) hx hb hts hi3 hown hK hP 0 rfl rfl 11 (by decide) hfl113 (fun _ h9 => h9) rfl dX3_readErrand_146 ?_
  refine lv_bipush (v := nI 98) hx hb dX3_readErrand_149 (by decide) ?_
  refine q_neN (tgt := 242) hx hb (by omega) (by omega) dX3_readErrand_151 (by decide) (fun c11 => ?_) (fun c11 => absurd c11 (by decide))
  exact hret _ _ _ _ (hP) hS dX3_readErrand_242
set_option maxHeartbeats 4000000 in
set_option maxRecDepth 100000 in
theorem m3_rd_114_T (l : Launch) (D : va_G) (cI : ClassId) (o ps pa pv pn px : Nat) (f fa fv fn fx : Nat → Int32) (th mn kp le wh te : Int32) (dg : Int64) (ch : Nat → Nat) (len i : Nat) (hlen : len ≤ 60) (hi61 : i ≤ 60) (hfx : ∀ j, j < len → fx j = nI (ch j)) (hch : ∀ j, j < len → ch j < 128) (hil : i < len) (hc : ch i = 114) (h1l : 1 + i < len) (h2l : 48 ≤ ch (1 + i)) (h3l : ch (1 + i) ≤ 50) (hD : va_D (fun _ => True) (wR o ps pa pv pn px cI (oM ps pa pv pn px th mn kp (nI len) (nI i) (nI 0) le wh te dg) (rr f) fa fv fn fx)) : q_V l yX3_readErrand wsX3_readErrand { frames := 3, cells := 0, slots := 0, locals := 68 } [.ref o] (q_bp D (wR o ps pa pv pn px cI (oM ps pa pv pn px th mn kp (nI len) (nI i) (nI 0) le wh te dg) (rr f) fa fv fn fx) [(cI, .int)]) (fun H => va_P D vwCl (wR o ps pa pv pn px cI (oM ps pa pv pn px th mn kp (nI len) (nI (2 + i)) (nI 0) (nI 114) (nI ((ch (1 + i) - 48))) te dg) (rr f) fa fv fn fx) H) (AM o ps pa pv pn px) 0 0 := by
  refine q_goV (cc := cX3_readErrand) (maxL := 1) (lv0 := [(0, .ref o)]) (by decide) rfl (Nat.le_of_ble_eq_true rfl) rfl ?_
  intro p e s m args below meth c Q ls hx hb hml hts hown hP hK hl hret hnm
  have hi3 : ∀ w ∈ wsX30, w ∈ wsX3_readErrand := by decide +kernel
  have hfl106 := hts (.fieldLink RX3 106 "WhisperedPotsModel" "spot" "I") (by decide +kernel)
  have hfl99 := hts (.fieldLink RX3 99 "WhisperedPotsModel" "length" "I") (by decide +kernel)
  have hfl22 := hts (.fieldLink RX3 22 "WhisperedPotsModel" "text" "[I") (by decide +kernel)
  have hfl113 := hts (.fieldLink RX3 113 "WhisperedPotsModel" "letter" "I") (by decide +kernel)
  have hfl102 := hts (.fieldLink RX3 102 "WhisperedPotsModel" "isWrong" "Z") (by decide +kernel)
  have hfl119 := hts (.fieldLink RX3 119 "WhisperedPotsModel" "whose" "I") (by decide +kernel)
  have hfl122 := hts (.fieldLink RX3 122 "WhisperedPotsModel" "tea" "I") (by decide +kernel)
  have hS : va_S (AM o ps pa pv pn px) s.heap s.heap [] := va_S.rf
  have hne : o ≠ ps := fun h => absurd (hD.1 0 1 _ _ rfl rfl h) (by decide)
  refine lv_aload_n hx hb dX3_readErrand_0 rfl (lv_at hl 0 rfl) ?_
  refine lv_aload_n hx hb dX3_readErrand_1 rfl (lv_at hl 0 rfl) ?_
  refine va_get (D := D) (ci := 3) (v := .int (nI i)) (C := RX3) (T := TX3) (N := 15) hx hb hts hi3 hown hK hP 0 rfl rfl 9 (by decide) hfl106 (fun _ h9 => h9) rfl dX3_readErrand_2 ?_
  refine lv_aload_n hx hb dX3_readErrand_5 rfl (lv_at hl 0 rfl) ?_
  refine va_get (D := D) (ci := 3) (v := .int (nI len)) (C := RX3) (T := TX3) (N := 15) hx hb hts hi3 hown hK hP 0 rfl rfl 8 (by decide) hfl99 (fun _ h9 => h9) rfl dX3_readErrand_6 ?_
  refine q_geN (tgt := 24) hx hb (by omega) (by omega) dX3_readErrand_9 (by decide) (fun c1 => absurd c1 (by omega)) (fun c1 => ?_)
  refine lv_aload_n hx hb dX3_readErrand_12 rfl (lv_at hl 0 rfl) ?_
  refine va_get (D := D) (ci := 3) (v := .ref px) (C := RX3) (T := TX3) (N := 15) hx hb hts hi3 hown hK hP 0 rfl rfl 7 (by decide) hfl22 (fun _ h9 => h9) rfl dX3_readErrand_13 ?_
  refine lv_aload_n hx hb dX3_readErrand_16 rfl (lv_at hl 0 rfl) ?_
  refine va_get (D := D) (ci := 3) (v := .int (nI i)) (C := RX3) (T := TX3) (N := 15) hx hb hts hi3 hown hK hP 0 rfl rfl 9 (by decide) hfl106 (fun _ h9 => h9) rfl dX3_readErrand_17 ?_
  refine q_ld hx hb hK hP 5 0 rfl rfl (j := i) (v := (nI 114)) (by omega) (by omega) ((hfx _ (by omega)).trans (congrArg nI hc)) dX3_readErrand_20 ?_
  refine lv_goto (tgt := 25) hx hb dX3_readErrand_21 (by decide) ?_
  refine q_pt (D := D) (ci := 3) (v := .int (nI 114)) (ty := .int) (C := RX3) (T := TX3) (N := 15) hx hb hts hi3 tyX3 tyX3_ok nmX3 hown hK hP hD hS (Or.inl rfl) 0 rfl rfl 11 (by decide) hfl113 (fun _ h9 => h9) rfl (by decide +kernel) rfl rfl (Nat.le_of_ble_eq_true rfl) (ws' := wR o ps pa pv pn px cI (oM ps pa pv pn px th mn kp (nI len) (nI i) (nI 0) (nI 114) wh te dg) (rr f) fa fv fn fx) rfl dX3_readErrand_25 (fun H locs hP hD hS => ?_)
  refine lv_aload_n hx hb dX3_readErrand_28 rfl (lv_at hl 0 rfl) ?_
  refine lv_aload_n hx hb dX3_readErrand_29 rfl (lv_at hl 0 rfl) ?_
  refine va_get (D := D) (ci := 3) (v := .int (nI 0)) (C := RX3) (T := TX3) (N := 15) hx hb hts hi3 hown hK hP 0 rfl rfl 10 (by decide) hfl102 (fun _ h9 => h9) rfl dX3_readErrand_30 ?_
  refine lv_if_ne (tgt := 90) hx hb dX3_readErrand_33 (by decide) (fun c2 => absurd c2 (by decide)) (fun c2 => ?_)
  refine lv_aload_n hx hb dX3_readErrand_36 rfl (lv_at hl 0 rfl) ?_
  refine va_get (D := D) (ci := 3) (v := .int (nI 114)) (C := RX3) (T := TX3) (N := 15) hx hb hts hi3 hown hK hP 0 rfl rfl 11 (by decide) hfl113 (fun _ h9 => h9) rfl dX3_readErrand_37 ?_
  refine lv_bipush (v := nI 98) hx hb dX3_readErrand_40 (by decide) ?_
  refine q_eqN (tgt := 94) hx hb (by omega) (by omega) dX3_readErrand_42 (by decide) (fun c3 => absurd c3 (by decide)) (fun c3 => ?_)
  refine lv_aload_n hx hb dX3_readErrand_45 rfl (lv_at hl 0 rfl) ?_
  refine va_get (D := D) (ci := 3) (v := .int (nI 114)) (C := RX3) (T := TX3) (N := 15) hx hb hts hi3 hown hK hP 0 rfl rfl 11 (by decide) hfl113 (fun _ h9 => h9) rfl dX3_readErrand_46 ?_
  refine lv_bipush (v := nI 112) hx hb dX3_readErrand_49 (by decide) ?_
  refine q_eqN (tgt := 94) hx hb (by omega) (by omega) dX3_readErrand_51 (by decide) (fun c4 => absurd c4 (by decide)) (fun c4 => ?_)
  refine lv_aload_n hx hb dX3_readErrand_54 rfl (lv_at hl 0 rfl) ?_
  refine va_get (D := D) (ci := 3) (v := .int (nI 114)) (C := RX3) (T := TX3) (N := 15) hx hb hts hi3 hown hK hP 0 rfl rfl 11 (by decide) hfl113 (fun _ h9 => h9) rfl dX3_readErrand_55 ?_
  refine lv_bipush (v := nI 110) hx hb dX3_readErrand_58 (by decide) ?_
  refine q_eqN (tgt := 94) hx hb (by omega) (by omega) dX3_readErrand_60 (by decide) (fun c5 => absurd c5 (by decide)) (fun c5 => ?_)
  refine lv_aload_n hx hb dX3_readErrand_63 rfl (lv_at hl 0 rfl) ?_
  refine va_get (D := D) (ci := 3) (v := .int (nI 114)) (C := RX3) (T := TX3) (N := 15) hx hb hts hi3 hown hK hP 0 rfl rfl 11 (by decide) hfl113 (fun _ h9 => h9) rfl dX3_readErrand_64 ?_
  refine lv_bipush (v := nI 108) hx hb dX3_readErrand_67 (by decide) ?_
  refine q_eqN (tgt := 94) hx hb (by omega) (by omega) dX3_readErrand_69 (by decide) (fun c6 => absurd c6 (by decide)) (fun c6 => ?_)
  refine lv_aload_n hx hb dX3_readErrand_72 rfl (lv_at hl 0 rfl) ?_
  refine va_get (D := D) (ci := 3) (v := .int (nI 114)) (C := RX3) (T := TX3) (N := 15) hx hb hts hi3 hown hK hP 0 rfl rfl 11 (by decide) hfl113 (fun _ h9 => h9) rfl dX3_readErrand_73 ?_
  refine lv_bipush (v := nI 114) hx hb dX3_readErrand_76 (by decide) ?_
  refine q_eqN (tgt := 94) hx hb (by omega) (by omega) dX3_readErrand_78 (by decide) (fun c7 => ?_) (fun c7 => absurd c7 (by decide))
  refine lv_iconst (v := nI 0) hx hb dX3_readErrand_94 (by decide) ?_
  refine q_pt (D := D) (ci := 3) (v := .int (nI 0)) (ty := .boolean) (C := RX3) (T := TX3) (N := 15) hx hb hts hi3 tyX3 tyX3_ok nmX3 hown hK hP hD hS (Or.inl rfl) 0 rfl rfl 10 (by decide) hfl102 (fun _ h9 => h9) rfl (by decide +kernel) rfl rfl (Nat.le_of_ble_eq_true rfl) (ws' := wR o ps pa pv pn px cI (oM ps pa pv pn px th mn kp (nI len) (nI i) (nI 0) (nI 114) wh te dg) (rr f) fa fv fn fx) rfl dX3_readErrand_95 (fun H locs hP hD hS => ?_)
  refine lv_aload_n hx hb dX3_readErrand_98 rfl (lv_at hl 0 rfl) ?_
  refine lv_dup hx hb dX3_readErrand_99 rfl ?_
  refine va_get (D := D) (ci := 3) (v := .int (nI i)) (C := RX3) (T := TX3) (N := 15) hx hb hts hi3 hown hK hP 0 rfl rfl 9 (by decide) hfl106 (fun _ h9 => h9) rfl dX3_readErrand_100 ?_
  refine lv_aload_n hx hb dX3_readErrand_103 rfl (lv_at hl 0 rfl) ?_
  refine va_get (D := D) (ci := 3) (v := .int (nI 0)) (C := RX3) (T := TX3) (N := 15) hx hb hts hi3 hown hK hP 0 rfl rfl 10 (by decide) hfl102 (fun _ h9 => h9) rfl dX3_readErrand_104 ?_
  refine lv_if_eq (tgt := 114) hx hb dX3_readErrand_107 (by decide) (fun c8 => ?_) (fun c8 => absurd c8 (by decide))
  refine lv_iconst (v := nI 1) hx hb dX3_readErrand_114 (by decide) ?_
  refine q_addN hx hb (1 + i) (by omega) dX3_readErrand_115 ?_
  refine q_pt (D := D) (ci := 3) (v := .int (nI (1 + i))) (ty := .int) (C := RX3) (T := TX3) (N := 15) hx hb hts hi3 tyX3 tyX3_ok nmX3 hown hK hP hD hS (Or.inl rfl) 0 rfl rfl 9 (by decide) hfl106 (fun _ h9 => h9) rfl (by decide +kernel) rfl rfl (Nat.le_of_ble_eq_true rfl) (ws' := wR o ps pa pv pn px cI (oM ps pa pv pn px th mn kp (nI len) (nI (1 + i)) (nI 0) (nI 114) wh te dg) (rr f) fa fv fn fx) rfl dX3_readErrand_116 (fun H locs hP hD hS => ?_)
  refine lv_aload_n hx hb dX3_readErrand_119 rfl (lv_at hl 0 rfl) ?_
  refine lv_aload_n hx hb dX3_readErrand_120 rfl (lv_at hl 0 rfl) ?_
  refine lv_bipush (v := nI 48) hx hb dX3_readErrand_121 (by decide) ?_
  refine lv_aload_n hx hb dX3_readErrand_123 rfl (lv_at hl 0 rfl) ?_
  refine va_get (D := D) (ci := 3) (v := .int (nI 114)) (C := RX3) (T := TX3) (N := 15) hx hb hts hi3 hown hK hP 0 rfl rfl 11 (by decide) hfl113 (fun _ h9 => h9) rfl dX3_readErrand_124 ?_
  refine lv_bipush (v := nI 115) hx hb dX3_readErrand_127 (by decide) ?_
  refine q_neN (tgt := 137) hx hb (by omega) (by omega) dX3_readErrand_129 (by decide) (fun c9 => ?_) (fun c9 => absurd c9 (by decide))
  refine lv_bipush (v := nI 50) hx hb dX3_readErrand_137 (by decide) ?_
  refine q_ciF (BH := fun H => va_P D vwCl (wR o ps pa pv pn px cI (oM ps pa pv pn px th mn kp (nI len) (nI (2 + i)) (nI 0) (nI 114) wh te dg) (rr f) fa fv fn fx) H) (va_runV (rm := { frames := 2, cells := 0, slots := 0, locals := 44 }) (As := [.int (nI 48), .int (nI 50)]) (rest := [.ref o]) ⟨hx, hb, hml, hown, hts⟩ (m3_takes_t l D cI o ps pa pv pn px f fa fv fn fx th mn kp (nI 114) wh te dg ch len (1 + i) hlen (by omega) hfx hch 48 50 (by omega) (by omega) h1l h2l h3l hD) (cwV 2 hts gX3_readErrand_X3_takes rfl rfl rfl (by decide +kernel) ⟨Nat.le_of_ble_eq_true rfl, Nat.le_of_ble_eq_true rfl⟩) (q_pV (ci := 3) (q0 := 0) hP hK rfl rfl) rfl rfl hl.1 rfl (lv_room (Nat.le_of_ble_eq_true rfl)) dX3_readErrand_139 ⟨Nat.le_of_ble_eq_true rfl, Nat.le_of_ble_eq_true rfl⟩) (fun t h => (show 2 + i = 1 + (1 + i) by omega) ▸ h) hS (fun _ h => h) (fun x10 H locs e10 hP hS => ?_)
  have hD := q_D2 (ws' := wR o ps pa pv pn px cI (oM ps pa pv pn px th mn kp (nI len) (nI (2 + i)) (nI 0) (nI 114) wh te dg) (rr f) fa fv fn fx) hD rfl
  have e10 : x10 = (nI ((ch (1 + i) - 48))) := e10
  subst e10
  refine q_pt (D := D) (ci := 3) (v := .int (nI ((ch (1 + i) - 48)))) (ty := .int) (C := RX3) (T := TX3) (N := 15) hx hb hts hi3 tyX3 tyX3_ok nmX3 hown hK hP hD hS (Or.inl rfl) 0 rfl rfl 12 (by decide) hfl119 (fun _ h9 => h9) rfl (by decide +kernel) rfl rfl (Nat.le_of_ble_eq_true rfl) (ws' := wR o ps pa pv pn px cI (oM ps pa pv pn px th mn kp (nI len) (nI (2 + i)) (nI 0) (nI 114) (nI ((ch (1 + i) - 48))) te dg) (rr f) fa fv fn fx) rfl dX3_readErrand_142 (fun H locs hP hD hS => ?_)
  refine lv_aload_n hx hb dX3_readErrand_145 rfl (lv_at hl 0 rfl) ?_
  refine va_get (D := D) (ci := 3) (v := .int (nI 114)) (C := RX3) (T := TX3) (N := 15) hx hb hts hi3 hown hK hP 0 rfl rfl 11 (by decide) hfl113 (fun _ h9 => h9) rfl dX3_readErrand_146 ?_
  refine lv_bipush (v := nI 98) hx hb dX3_readErrand_149 (by decide) ?_
  refine q_neN (tgt := 242) hx hb (by omega) (by omega) dX3_readErrand_151 (by decide) (fun c11 => ?_) (fun c11 => absurd c11 (by decide))
  exact hret _ _ _ _ (hP) hS dX3_readErrand_242
set_option maxHeartbeats 4000000 in
set_option maxRecDepth 100000 in
theorem m3_rd_115_F (l : Launch) (D : va_G) (cI : ClassId) (o ps pa pv pn px : Nat) (f fa fv fn fx : Nat → Int32) (th mn kp le wh te : Int32) (dg : Int64) (ch : Nat → Nat) (len i : Nat) (hlen : len ≤ 60) (hi61 : i ≤ 60) (hfx : ∀ j, j < len → fx j = nI (ch j)) (hch : ∀ j, j < len → ch j < 128) (hil : i < len) (hc : ch i = 115) (hn : n_ok ch len (1 + i) false 48 55 = false) (hD : va_D (fun _ => True) (wR o ps pa pv pn px cI (oM ps pa pv pn px th mn kp (nI len) (nI i) (nI 0) le wh te dg) (rr f) fa fv fn fx)) : q_V l yX3_readErrand wsX3_readErrand { frames := 3, cells := 0, slots := 0, locals := 68 } [.ref o] (q_bp D (wR o ps pa pv pn px cI (oM ps pa pv pn px th mn kp (nI len) (nI i) (nI 0) le wh te dg) (rr f) fa fv fn fx) [(cI, .int)]) (fun H => va_P D vwCl (wR o ps pa pv pn px cI (oM ps pa pv pn px th mn kp (nI len) (nI (1 + i)) (nI 1) (nI 115) (nI 0) te dg) (rr f) fa fv fn fx) H) (AM o ps pa pv pn px) 0 0 := by
  refine q_goV (cc := cX3_readErrand) (maxL := 1) (lv0 := [(0, .ref o)]) (by decide) rfl (Nat.le_of_ble_eq_true rfl) rfl ?_
  intro p e s m args below meth c Q ls hx hb hml hts hown hP hK hl hret hnm
  have hi3 : ∀ w ∈ wsX30, w ∈ wsX3_readErrand := by decide +kernel
  have hfl106 := hts (.fieldLink RX3 106 "WhisperedPotsModel" "spot" "I") (by decide +kernel)
  have hfl99 := hts (.fieldLink RX3 99 "WhisperedPotsModel" "length" "I") (by decide +kernel)
  have hfl22 := hts (.fieldLink RX3 22 "WhisperedPotsModel" "text" "[I") (by decide +kernel)
  have hfl113 := hts (.fieldLink RX3 113 "WhisperedPotsModel" "letter" "I") (by decide +kernel)
  have hfl102 := hts (.fieldLink RX3 102 "WhisperedPotsModel" "isWrong" "Z") (by decide +kernel)
  have hfl119 := hts (.fieldLink RX3 119 "WhisperedPotsModel" "whose" "I") (by decide +kernel)
  have hfl122 := hts (.fieldLink RX3 122 "WhisperedPotsModel" "tea" "I") (by decide +kernel)
  have hS : va_S (AM o ps pa pv pn px) s.heap s.heap [] := va_S.rf
  have hne : o ≠ ps := fun h => absurd (hD.1 0 1 _ _ rfl rfl h) (by decide)
  refine lv_aload_n hx hb dX3_readErrand_0 rfl (lv_at hl 0 rfl) ?_
  refine lv_aload_n hx hb dX3_readErrand_1 rfl (lv_at hl 0 rfl) ?_
  refine va_get (D := D) (ci := 3) (v := .int (nI i)) (C := RX3) (T := TX3) (N := 15) hx hb hts hi3 hown hK hP 0 rfl rfl 9 (by decide) hfl106 (fun _ h9 => h9) rfl dX3_readErrand_2 ?_
  refine lv_aload_n hx hb dX3_readErrand_5 rfl (lv_at hl 0 rfl) ?_
  refine va_get (D := D) (ci := 3) (v := .int (nI len)) (C := RX3) (T := TX3) (N := 15) hx hb hts hi3 hown hK hP 0 rfl rfl 8 (by decide) hfl99 (fun _ h9 => h9) rfl dX3_readErrand_6 ?_
  refine q_geN (tgt := 24) hx hb (by omega) (by omega) dX3_readErrand_9 (by decide) (fun c1 => absurd c1 (by omega)) (fun c1 => ?_)
  refine lv_aload_n hx hb dX3_readErrand_12 rfl (lv_at hl 0 rfl) ?_
  refine va_get (D := D) (ci := 3) (v := .ref px) (C := RX3) (T := TX3) (N := 15) hx hb hts hi3 hown hK hP 0 rfl rfl 7 (by decide) hfl22 (fun _ h9 => h9) rfl dX3_readErrand_13 ?_
  refine lv_aload_n hx hb dX3_readErrand_16 rfl (lv_at hl 0 rfl) ?_
  refine va_get (D := D) (ci := 3) (v := .int (nI i)) (C := RX3) (T := TX3) (N := 15) hx hb hts hi3 hown hK hP 0 rfl rfl 9 (by decide) hfl106 (fun _ h9 => h9) rfl dX3_readErrand_17 ?_
  refine q_ld hx hb hK hP 5 0 rfl rfl (j := i) (v := (nI 115)) (by omega) (by omega) ((hfx _ (by omega)).trans (congrArg nI hc)) dX3_readErrand_20 ?_
  refine lv_goto (tgt := 25) hx hb dX3_readErrand_21 (by decide) ?_
  refine q_pt (D := D) (ci := 3) (v := .int (nI 115)) (ty := .int) (C := RX3) (T := TX3) (N := 15) hx hb hts hi3 tyX3 tyX3_ok nmX3 hown hK hP hD hS (Or.inl rfl) 0 rfl rfl 11 (by decide) hfl113 (fun _ h9 => h9) rfl (by decide +kernel) rfl rfl (Nat.le_of_ble_eq_true rfl) (ws' := wR o ps pa pv pn px cI (oM ps pa pv pn px th mn kp (nI len) (nI i) (nI 0) (nI 115) wh te dg) (rr f) fa fv fn fx) rfl dX3_readErrand_25 (fun H locs hP hD hS => ?_)
  refine lv_aload_n hx hb dX3_readErrand_28 rfl (lv_at hl 0 rfl) ?_
  refine lv_aload_n hx hb dX3_readErrand_29 rfl (lv_at hl 0 rfl) ?_
  refine va_get (D := D) (ci := 3) (v := .int (nI 0)) (C := RX3) (T := TX3) (N := 15) hx hb hts hi3 hown hK hP 0 rfl rfl 10 (by decide) hfl102 (fun _ h9 => h9) rfl dX3_readErrand_30 ?_
  refine lv_if_ne (tgt := 90) hx hb dX3_readErrand_33 (by decide) (fun c2 => absurd c2 (by decide)) (fun c2 => ?_)
  refine lv_aload_n hx hb dX3_readErrand_36 rfl (lv_at hl 0 rfl) ?_
  refine va_get (D := D) (ci := 3) (v := .int (nI 115)) (C := RX3) (T := TX3) (N := 15) hx hb hts hi3 hown hK hP 0 rfl rfl 11 (by decide) hfl113 (fun _ h9 => h9) rfl dX3_readErrand_37 ?_
  refine lv_bipush (v := nI 98) hx hb dX3_readErrand_40 (by decide) ?_
  refine q_eqN (tgt := 94) hx hb (by omega) (by omega) dX3_readErrand_42 (by decide) (fun c3 => absurd c3 (by decide)) (fun c3 => ?_)
  refine lv_aload_n hx hb dX3_readErrand_45 rfl (lv_at hl 0 rfl) ?_
  refine va_get (D := D) (ci := 3) (v := .int (nI 115)) (C := RX3) (T := TX3) (N := 15) hx hb hts hi3 hown hK hP 0 rfl rfl 11 (by decide) hfl113 (fun _ h9 => h9) rfl dX3_readErrand_46 ?_
  refine lv_bipush (v := nI 112) hx hb dX3_readErrand_49 (by decide) ?_
  refine q_eqN (tgt := 94) hx hb (by omega) (by omega) dX3_readErrand_51 (by decide) (fun c4 => absurd c4 (by decide)) (fun c4 => ?_)
  refine lv_aload_n hx hb dX3_readErrand_54 rfl (lv_at hl 0 rfl) ?_
  refine va_get (D := D) (ci := 3) (v := .int (nI 115)) (C := RX3) (T := TX3) (N := 15) hx hb hts hi3 hown hK hP 0 rfl rfl 11 (by decide) hfl113 (fun _ h9 => h9) rfl dX3_readErrand_55 ?_
  refine lv_bipush (v := nI 110) hx hb dX3_readErrand_58 (by decide) ?_
  refine q_eqN (tgt := 94) hx hb (by omega) (by omega) dX3_readErrand_60 (by decide) (fun c5 => absurd c5 (by decide)) (fun c5 => ?_)
  refine lv_aload_n hx hb dX3_readErrand_63 rfl (lv_at hl 0 rfl) ?_
  refine va_get (D := D) (ci := 3) (v := .int (nI 115)) (C := RX3) (T := TX3) (N := 15) hx hb hts hi3 hown hK hP 0 rfl rfl 11 (by decide) hfl113 (fun _ h9 => h9) rfl dX3_readErrand_64 ?_
  refine lv_bipush (v := nI 108) hx hb dX3_readErrand_67 (by decide) ?_
  refine q_eqN (tgt := 94) hx hb (by omega) (by omega) dX3_readErrand_69 (by decide) (fun c6 => absurd c6 (by decide)) (fun c6 => ?_)
  refine lv_aload_n hx hb dX3_readErrand_72 rfl (lv_at hl 0 rfl) ?_
  refine va_get (D := D) (ci := 3) (v := .int (nI 115)) (C := RX3) (T := TX3) (N := 15) hx hb hts hi3 hown hK hP 0 rfl rfl 11 (by decide) hfl113 (fun _ h9 => h9) rfl dX3_readErrand_73 ?_
  refine lv_bipush (v := nI 114) hx hb dX3_readErrand_76 (by decide) ?_
  refine q_eqN (tgt := 94) hx hb (by omega) (by omega) dX3_readErrand_78 (by decide) (fun c7 => absurd c7 (by decide)) (fun c7 => ?_)
  refine lv_aload_n hx hb dX3_readErrand_81 rfl (lv_at hl 0 rfl) ?_
  refine va_get (D := D) (ci := 3) (v := .int (nI 115)) (C := RX3) (T := TX3) (N := 15) hx hb hts hi3 hown hK hP 0 rfl rfl 11 (by decide) hfl113 (fun _ h9 => h9) rfl dX3_readErrand_82 ?_
  refine lv_bipush (v := nI 115) hx hb dX3_readErrand_85 (by decide) ?_
  refine q_eqN (tgt := 94) hx hb (by omega) (by omega) dX3_readErrand_87 (by decide) (fun c8 => ?_) (fun c8 => absurd c8 (by decide))
  refine lv_iconst (v := nI 0) hx hb dX3_readErrand_94 (by decide) ?_
  refine q_pt (D := D) (ci := 3) (v := .int (nI 0)) (ty := .boolean) (C := RX3) (T := TX3) (N := 15) hx hb hts hi3 tyX3 tyX3_ok nmX3 hown hK hP hD hS (Or.inl rfl) 0 rfl rfl 10 (by decide) hfl102 (fun _ h9 => h9) rfl (by decide +kernel) rfl rfl (Nat.le_of_ble_eq_true rfl) (ws' := wR o ps pa pv pn px cI (oM ps pa pv pn px th mn kp (nI len) (nI i) (nI 0) (nI 115) wh te dg) (rr f) fa fv fn fx) rfl dX3_readErrand_95 (fun H locs hP hD hS => ?_)
  refine lv_aload_n hx hb dX3_readErrand_98 rfl (lv_at hl 0 rfl) ?_
  refine lv_dup hx hb dX3_readErrand_99 rfl ?_
  refine va_get (D := D) (ci := 3) (v := .int (nI i)) (C := RX3) (T := TX3) (N := 15) hx hb hts hi3 hown hK hP 0 rfl rfl 9 (by decide) hfl106 (fun _ h9 => h9) rfl dX3_readErrand_100 ?_
  refine lv_aload_n hx hb dX3_readErrand_103 rfl (lv_at hl 0 rfl) ?_
  refine va_get (D := D) (ci := 3) (v := .int (nI 0)) (C := RX3) (T := TX3) (N := 15) hx hb hts hi3 hown hK hP 0 rfl rfl 10 (by decide) hfl102 (fun _ h9 => h9) rfl dX3_readErrand_104 ?_
  refine lv_if_eq (tgt := 114) hx hb dX3_readErrand_107 (by decide) (fun c9 => ?_) (fun c9 => absurd c9 (by decide))
  refine lv_iconst (v := nI 1) hx hb dX3_readErrand_114 (by decide) ?_
  refine q_addN hx hb (1 + i) (by omega) dX3_readErrand_115 ?_
  refine q_pt (D := D) (ci := 3) (v := .int (nI (1 + i))) (ty := .int) (C := RX3) (T := TX3) (N := 15) hx hb hts hi3 tyX3 tyX3_ok nmX3 hown hK hP hD hS (Or.inl rfl) 0 rfl rfl 9 (by decide) hfl106 (fun _ h9 => h9) rfl (by decide +kernel) rfl rfl (Nat.le_of_ble_eq_true rfl) (ws' := wR o ps pa pv pn px cI (oM ps pa pv pn px th mn kp (nI len) (nI (1 + i)) (nI 0) (nI 115) wh te dg) (rr f) fa fv fn fx) rfl dX3_readErrand_116 (fun H locs hP hD hS => ?_)
  refine lv_aload_n hx hb dX3_readErrand_119 rfl (lv_at hl 0 rfl) ?_
  refine lv_aload_n hx hb dX3_readErrand_120 rfl (lv_at hl 0 rfl) ?_
  refine lv_bipush (v := nI 48) hx hb dX3_readErrand_121 (by decide) ?_
  refine lv_aload_n hx hb dX3_readErrand_123 rfl (lv_at hl 0 rfl) ?_
  refine va_get (D := D) (ci := 3) (v := .int (nI 115)) (C := RX3) (T := TX3) (N := 15) hx hb hts hi3 hown hK hP 0 rfl rfl 11 (by decide) hfl113 (fun _ h9 => h9) rfl dX3_readErrand_124 ?_
  refine lv_bipush (v := nI 115) hx hb dX3_readErrand_127 (by decide) ?_
  refine q_neN (tgt := 137) hx hb (by omega) (by omega) dX3_readErrand_129 (by decide) (fun c10 => absurd c10 (by decide)) (fun c10 => ?_)
  refine lv_bipush (v := nI 55) hx hb dX3_readErrand_132 (by decide) ?_
  refine lv_goto (tgt := 139) hx hb dX3_readErrand_134 (by decide) ?_
  refine q_ciF (BH := fun H => va_P D vwCl (wR o ps pa pv pn px cI (oM ps pa pv pn px th mn kp (nI len) (nI (1 + i)) (nI 1) (nI 115) wh te dg) (rr f) fa fv fn fx) H) (va_runV (rm := { frames := 2, cells := 0, slots := 0, locals := 44 }) (As := [.int (nI 48), .int (nI 55)]) (rest := [.ref o]) ⟨hx, hb, hml, hown, hts⟩ (m3_takes_f l D cI o ps pa pv pn px f fa fv fn fx th mn kp (nI 115) wh te dg ch len (1 + i) hlen (by omega) hfx hch 48 55 (by omega) (by omega) false hn hD) (cwV 2 hts gX3_readErrand_X3_takes rfl rfl rfl (by decide +kernel) ⟨Nat.le_of_ble_eq_true rfl, Nat.le_of_ble_eq_true rfl⟩) (q_pV (ci := 3) (q0 := 0) hP hK rfl rfl) rfl rfl hl.1 rfl (lv_room (Nat.le_of_ble_eq_true rfl)) dX3_readErrand_139 ⟨Nat.le_of_ble_eq_true rfl, Nat.le_of_ble_eq_true rfl⟩) (fun t h => h) hS (fun _ h => h) (fun x11 H locs e11 hP hS => ?_)
  have hD := q_D2 (ws' := wR o ps pa pv pn px cI (oM ps pa pv pn px th mn kp (nI len) (nI (1 + i)) (nI 1) (nI 115) wh te dg) (rr f) fa fv fn fx) hD rfl
  have e11 : x11 = (nI 0) := e11
  subst e11
  refine q_pt (D := D) (ci := 3) (v := .int (nI 0)) (ty := .int) (C := RX3) (T := TX3) (N := 15) hx hb hts hi3 tyX3 tyX3_ok nmX3 hown hK hP hD hS (Or.inl rfl) 0 rfl rfl 12 (by decide) hfl119 (fun _ h9 => h9) rfl (by decide +kernel) rfl rfl (Nat.le_of_ble_eq_true rfl) (ws' := wR o ps pa pv pn px cI (oM ps pa pv pn px th mn kp (nI len) (nI (1 + i)) (nI 1) (nI 115) (nI 0) te dg) (rr f) fa fv fn fx) rfl dX3_readErrand_142 (fun H locs hP hD hS => ?_)
  refine lv_aload_n hx hb dX3_readErrand_145 rfl (lv_at hl 0 rfl) ?_
  refine va_get (D := D) (ci := 3) (v := .int (nI 115)) (C := RX3) (T := TX3) (N := 15) hx hb hts hi3 hown hK hP 0 rfl rfl 11 (by decide) hfl113 (fun _ h9 => h9) rfl dX3_readErrand_146 ?_
  refine lv_bipush (v := nI 98) hx hb dX3_readErrand_149 (by decide) ?_
  refine q_neN (tgt := 242) hx hb (by omega) (by omega) dX3_readErrand_151 (by decide) (fun c12 => ?_) (fun c12 => absurd c12 (by decide))
  exact hret _ _ _ _ (hP) hS dX3_readErrand_242
set_option maxHeartbeats 4000000 in
set_option maxRecDepth 100000 in
theorem m3_rd_115_T (l : Launch) (D : va_G) (cI : ClassId) (o ps pa pv pn px : Nat) (f fa fv fn fx : Nat → Int32) (th mn kp le wh te : Int32) (dg : Int64) (ch : Nat → Nat) (len i : Nat) (hlen : len ≤ 60) (hi61 : i ≤ 60) (hfx : ∀ j, j < len → fx j = nI (ch j)) (hch : ∀ j, j < len → ch j < 128) (hil : i < len) (hc : ch i = 115) (h1l : 1 + i < len) (h2l : 48 ≤ ch (1 + i)) (h3l : ch (1 + i) ≤ 55) (hD : va_D (fun _ => True) (wR o ps pa pv pn px cI (oM ps pa pv pn px th mn kp (nI len) (nI i) (nI 0) le wh te dg) (rr f) fa fv fn fx)) : q_V l yX3_readErrand wsX3_readErrand { frames := 3, cells := 0, slots := 0, locals := 68 } [.ref o] (q_bp D (wR o ps pa pv pn px cI (oM ps pa pv pn px th mn kp (nI len) (nI i) (nI 0) le wh te dg) (rr f) fa fv fn fx) [(cI, .int)]) (fun H => va_P D vwCl (wR o ps pa pv pn px cI (oM ps pa pv pn px th mn kp (nI len) (nI (2 + i)) (nI 0) (nI 115) (nI ((ch (1 + i) - 48))) te dg) (rr f) fa fv fn fx) H) (AM o ps pa pv pn px) 0 0 := by
  refine q_goV (cc := cX3_readErrand) (maxL := 1) (lv0 := [(0, .ref o)]) (by decide) rfl (Nat.le_of_ble_eq_true rfl) rfl ?_
  intro p e s m args below meth c Q ls hx hb hml hts hown hP hK hl hret hnm
  have hi3 : ∀ w ∈ wsX30, w ∈ wsX3_readErrand := by decide +kernel
  have hfl106 := hts (.fieldLink RX3 106 "WhisperedPotsModel" "spot" "I") (by decide +kernel)
  have hfl99 := hts (.fieldLink RX3 99 "WhisperedPotsModel" "length" "I") (by decide +kernel)
  have hfl22 := hts (.fieldLink RX3 22 "WhisperedPotsModel" "text" "[I") (by decide +kernel)
  have hfl113 := hts (.fieldLink RX3 113 "WhisperedPotsModel" "letter" "I") (by decide +kernel)
  have hfl102 := hts (.fieldLink RX3 102 "WhisperedPotsModel" "isWrong" "Z") (by decide +kernel)
  have hfl119 := hts (.fieldLink RX3 119 "WhisperedPotsModel" "whose" "I") (by decide +kernel)
  have hfl122 := hts (.fieldLink RX3 122 "WhisperedPotsModel" "tea" "I") (by decide +kernel)
  have hS : va_S (AM o ps pa pv pn px) s.heap s.heap [] := va_S.rf
  have hne : o ≠ ps := fun h => absurd (hD.1 0 1 _ _ rfl rfl h) (by decide)
  refine lv_aload_n hx hb dX3_readErrand_0 rfl (lv_at hl 0 rfl) ?_
  refine lv_aload_n hx hb dX3_readErrand_1 rfl (lv_at hl 0 rfl) ?_
  refine va_get (D := D) (ci := 3) (v := .int (nI i)) (C := RX3) (T := TX3) (N := 15) hx hb hts hi3 hown hK hP 0 rfl rfl 9 (by decide) hfl106 (fun _ h9 => h9) rfl dX3_readErrand_2 ?_
  refine lv_aload_n hx hb dX3_readErrand_5 rfl (lv_at hl 0 rfl) ?_
  refine va_get (D := D) (ci := 3) (v := .int (nI len)) (C := RX3) (T := TX3) (N := 15) hx hb hts hi3 hown hK hP 0 rfl rfl 8 (by decide) hfl99 (fun _ h9 => h9) rfl dX3_readErrand_6 ?_
  refine q_geN (tgt := 24) hx hb (by omega) (by omega) dX3_readErrand_9 (by decide) (fun c1 => absurd c1 (by omega)) (fun c1 => ?_)
  refine lv_aload_n hx hb dX3_readErrand_12 rfl (lv_at hl 0 rfl) ?_
  refine va_get (D := D) (ci := 3) (v := .ref px) (C := RX3) (T := TX3) (N := 15) hx hb hts hi3 hown hK hP 0 rfl rfl 7 (by decide) hfl22 (fun _ h9 => h9) rfl dX3_readErrand_13 ?_
  refine lv_aload_n hx hb dX3_readErrand_16 rfl (lv_at hl 0 rfl) ?_
  refine va_get (D := D) (ci := 3) (v := .int (nI i)) (C := RX3) (T := TX3) (N := 15) hx hb hts hi3 hown hK hP 0 rfl rfl 9 (by decide) hfl106 (fun _ h9 => h9) rfl dX3_readErrand_17 ?_
  refine q_ld hx hb hK hP 5 0 rfl rfl (j := i) (v := (nI 115)) (by omega) (by omega) ((hfx _ (by omega)).trans (congrArg nI hc)) dX3_readErrand_20 ?_
  refine lv_goto (tgt := 25) hx hb dX3_readErrand_21 (by decide) ?_
  refine q_pt (D := D) (ci := 3) (v := .int (nI 115)) (ty := .int) (C := RX3) (T := TX3) (N := 15) hx hb hts hi3 tyX3 tyX3_ok nmX3 hown hK hP hD hS (Or.inl rfl) 0 rfl rfl 11 (by decide) hfl113 (fun _ h9 => h9) rfl (by decide +kernel) rfl rfl (Nat.le_of_ble_eq_true rfl) (ws' := wR o ps pa pv pn px cI (oM ps pa pv pn px th mn kp (nI len) (nI i) (nI 0) (nI 115) wh te dg) (rr f) fa fv fn fx) rfl dX3_readErrand_25 (fun H locs hP hD hS => ?_)
  refine lv_aload_n hx hb dX3_readErrand_28 rfl (lv_at hl 0 rfl) ?_
  refine lv_aload_n hx hb dX3_readErrand_29 rfl (lv_at hl 0 rfl) ?_
  refine va_get (D := D) (ci := 3) (v := .int (nI 0)) (C := RX3) (T := TX3) (N := 15) hx hb hts hi3 hown hK hP 0 rfl rfl 10 (by decide) hfl102 (fun _ h9 => h9) rfl dX3_readErrand_30 ?_
  refine lv_if_ne (tgt := 90) hx hb dX3_readErrand_33 (by decide) (fun c2 => absurd c2 (by decide)) (fun c2 => ?_)
  refine lv_aload_n hx hb dX3_readErrand_36 rfl (lv_at hl 0 rfl) ?_
  refine va_get (D := D) (ci := 3) (v := .int (nI 115)) (C := RX3) (T := TX3) (N := 15) hx hb hts hi3 hown hK hP 0 rfl rfl 11 (by decide) hfl113 (fun _ h9 => h9) rfl dX3_readErrand_37 ?_
  refine lv_bipush (v := nI 98) hx hb dX3_readErrand_40 (by decide) ?_
  refine q_eqN (tgt := 94) hx hb (by omega) (by omega) dX3_readErrand_42 (by decide) (fun c3 => absurd c3 (by decide)) (fun c3 => ?_)
  refine lv_aload_n hx hb dX3_readErrand_45 rfl (lv_at hl 0 rfl) ?_
  refine va_get (D := D) (ci := 3) (v := .int (nI 115)) (C := RX3) (T := TX3) (N := 15) hx hb hts hi3 hown hK hP 0 rfl rfl 11 (by decide) hfl113 (fun _ h9 => h9) rfl dX3_readErrand_46 ?_
  refine lv_bipush (v := nI 112) hx hb dX3_readErrand_49 (by decide) ?_
  refine q_eqN (tgt := 94) hx hb (by omega) (by omega) dX3_readErrand_51 (by decide) (fun c4 => absurd c4 (by decide)) (fun c4 => ?_)
  refine lv_aload_n hx hb dX3_readErrand_54 rfl (lv_at hl 0 rfl) ?_
  refine va_get (D := D) (ci := 3) (v := .int (nI 115)) (C := RX3) (T := TX3) (N := 15) hx hb hts hi3 hown hK hP 0 rfl rfl 11 (by decide) hfl113 (fun _ h9 => h9) rfl dX3_readErrand_55 ?_
  refine lv_bipush (v := nI 110) hx hb dX3_readErrand_58 (by decide) ?_
  refine q_eqN (tgt := 94) hx hb (by omega) (by omega) dX3_readErrand_60 (by decide) (fun c5 => absurd c5 (by decide)) (fun c5 => ?_)
  refine lv_aload_n hx hb dX3_readErrand_63 rfl (lv_at hl 0 rfl) ?_
  refine va_get (D := D) (ci := 3) (v := .int (nI 115)) (C := RX3) (T := TX3) (N := 15) hx hb hts hi3 hown hK hP 0 rfl rfl 11 (by decide) hfl113 (fun _ h9 => h9) rfl dX3_readErrand_64 ?_
  refine lv_bipush (v := nI 108) hx hb dX3_readErrand_67 (by decide) ?_
  refine q_eqN (tgt := 94) hx hb (by omega) (by omega) dX3_readErrand_69 (by decide) (fun c6 => absurd c6 (by decide)) (fun c6 => ?_)
  refine lv_aload_n hx hb dX3_readErrand_72 rfl (lv_at hl 0 rfl) ?_
  refine va_get (D := D) (ci := 3) (v := .int (nI 115)) (C := RX3) (T := TX3) (N := 15) hx hb hts hi3 hown hK hP 0 rfl rfl 11 (by decide) hfl113 (fun _ h9 => h9) rfl dX3_readErrand_73 ?_
  refine lv_bipush (v := nI 114) hx hb dX3_readErrand_76 (by decide) ?_
  refine q_eqN (tgt := 94) hx hb (by omega) (by omega) dX3_readErrand_78 (by decide) (fun c7 => absurd c7 (by decide)) (fun c7 => ?_)
  refine lv_aload_n hx hb dX3_readErrand_81 rfl (lv_at hl 0 rfl) ?_
  refine va_get (D := D) (ci := 3) (v := .int (nI 115)) (C := RX3) (T := TX3) (N := 15) hx hb hts hi3 hown hK hP 0 rfl rfl 11 (by decide) hfl113 (fun _ h9 => h9) rfl dX3_readErrand_82 ?_
  refine lv_bipush (v := nI 115) hx hb dX3_readErrand_85 (by decide) ?_
  refine q_eqN (tgt := 94) hx hb (by omega) (by omega) dX3_readErrand_87 (by decide) (fun c8 => ?_) (fun c8 => absurd c8 (by decide))
  refine lv_iconst (v := nI 0) hx hb dX3_readErrand_94 (by decide) ?_
  refine q_pt (D := D) (ci := 3) (v := .int (nI 0)) (ty := .boolean) (C := RX3) (T := TX3) (N := 15) hx hb hts hi3 tyX3 tyX3_ok nmX3 hown hK hP hD hS (Or.inl rfl) 0 rfl rfl 10 (by decide) hfl102 (fun _ h9 => h9) rfl (by decide +kernel) rfl rfl (Nat.le_of_ble_eq_true rfl) (ws' := wR o ps pa pv pn px cI (oM ps pa pv pn px th mn kp (nI len) (nI i) (nI 0) (nI 115) wh te dg) (rr f) fa fv fn fx) rfl dX3_readErrand_95 (fun H locs hP hD hS => ?_)
  refine lv_aload_n hx hb dX3_readErrand_98 rfl (lv_at hl 0 rfl) ?_
  refine lv_dup hx hb dX3_readErrand_99 rfl ?_
  refine va_get (D := D) (ci := 3) (v := .int (nI i)) (C := RX3) (T := TX3) (N := 15) hx hb hts hi3 hown hK hP 0 rfl rfl 9 (by decide) hfl106 (fun _ h9 => h9) rfl dX3_readErrand_100 ?_
  refine lv_aload_n hx hb dX3_readErrand_103 rfl (lv_at hl 0 rfl) ?_
  refine va_get (D := D) (ci := 3) (v := .int (nI 0)) (C := RX3) (T := TX3) (N := 15) hx hb hts hi3 hown hK hP 0 rfl rfl 10 (by decide) hfl102 (fun _ h9 => h9) rfl dX3_readErrand_104 ?_
  refine lv_if_eq (tgt := 114) hx hb dX3_readErrand_107 (by decide) (fun c9 => ?_) (fun c9 => absurd c9 (by decide))
  refine lv_iconst (v := nI 1) hx hb dX3_readErrand_114 (by decide) ?_
  refine q_addN hx hb (1 + i) (by omega) dX3_readErrand_115 ?_
  refine q_pt (D := D) (ci := 3) (v := .int (nI (1 + i))) (ty := .int) (C := RX3) (T := TX3) (N := 15) hx hb hts hi3 tyX3 tyX3_ok nmX3 hown hK hP hD hS (Or.inl rfl) 0 rfl rfl 9 (by decide) hfl106 (fun _ h9 => h9) rfl (by decide +kernel) rfl rfl (Nat.le_of_ble_eq_true rfl) (ws' := wR o ps pa pv pn px cI (oM ps pa pv pn px th mn kp (nI len) (nI (1 + i)) (nI 0) (nI 115) wh te dg) (rr f) fa fv fn fx) rfl dX3_readErrand_116 (fun H locs hP hD hS => ?_)
  refine lv_aload_n hx hb dX3_readErrand_119 rfl (lv_at hl 0 rfl) ?_
  refine lv_aload_n hx hb dX3_readErrand_120 rfl (lv_at hl 0 rfl) ?_
  refine lv_bipush (v := nI 48) hx hb dX3_readErrand_121 (by decide) ?_
  refine lv_aload_n hx hb dX3_readErrand_123 rfl (lv_at hl 0 rfl) ?_
  refine va_get (D := D) (ci := 3) (v := .int (nI 115)) (C := RX3) (T := TX3) (N := 15) hx hb hts hi3 hown hK hP 0 rfl rfl 11 (by decide) hfl113 (fun _ h9 => h9) rfl dX3_readErrand_124 ?_
  refine lv_bipush (v := nI 115) hx hb dX3_readErrand_127 (by decide) ?_
  refine q_neN (tgt := 137) hx hb (by omega) (by omega) dX3_readErrand_129 (by decide) (fun c10 => absurd c10 (by decide)) (fun c10 => ?_)
  refine lv_bipush (v := nI 55) hx hb dX3_readErrand_132 (by decide) ?_
  refine lv_goto (tgt := 139) hx hb dX3_readErrand_134 (by decide) ?_
  refine q_ciF (BH := fun H => va_P D vwCl (wR o ps pa pv pn px cI (oM ps pa pv pn px th mn kp (nI len) (nI (2 + i)) (nI 0) (nI 115) wh te dg) (rr f) fa fv fn fx) H) (va_runV (rm := { frames := 2, cells := 0, slots := 0, locals := 44 }) (As := [.int (nI 48), .int (nI 55)]) (rest := [.ref o]) ⟨hx, hb, hml, hown, hts⟩ (m3_takes_t l D cI o ps pa pv pn px f fa fv fn fx th mn kp (nI 115) wh te dg ch len (1 + i) hlen (by omega) hfx hch 48 55 (by omega) (by omega) h1l h2l h3l hD) (cwV 2 hts gX3_readErrand_X3_takes rfl rfl rfl (by decide +kernel) ⟨Nat.le_of_ble_eq_true rfl, Nat.le_of_ble_eq_true rfl⟩) (q_pV (ci := 3) (q0 := 0) hP hK rfl rfl) rfl rfl hl.1 rfl (lv_room (Nat.le_of_ble_eq_true rfl)) dX3_readErrand_139 ⟨Nat.le_of_ble_eq_true rfl, Nat.le_of_ble_eq_true rfl⟩) (fun t h => (show 2 + i = 1 + (1 + i) by omega) ▸ h) hS (fun _ h => h) (fun x11 H locs e11 hP hS => ?_)
  have hD := q_D2 (ws' := wR o ps pa pv pn px cI (oM ps pa pv pn px th mn kp (nI len) (nI (2 + i)) (nI 0) (nI 115) wh te dg) (rr f) fa fv fn fx) hD rfl
  have e11 : x11 = (nI ((ch (1 + i) - 48))) := e11
  subst e11
  refine q_pt (D := D) (ci := 3) (v := .int (nI ((ch (1 + i) - 48)))) (ty := .int) (C := RX3) (T := TX3) (N := 15) hx hb hts hi3 tyX3 tyX3_ok nmX3 hown hK hP hD hS (Or.inl rfl) 0 rfl rfl 12 (by decide) hfl119 (fun _ h9 => h9) rfl (by decide +kernel) rfl rfl (Nat.le_of_ble_eq_true rfl) (ws' := wR o ps pa pv pn px cI (oM ps pa pv pn px th mn kp (nI len) (nI (2 + i)) (nI 0) (nI 115) (nI ((ch (1 + i) - 48))) te dg) (rr f) fa fv fn fx) rfl dX3_readErrand_142 (fun H locs hP hD hS => ?_)
  refine lv_aload_n hx hb dX3_readErrand_145 rfl (lv_at hl 0 rfl) ?_
  refine va_get (D := D) (ci := 3) (v := .int (nI 115)) (C := RX3) (T := TX3) (N := 15) hx hb hts hi3 hown hK hP 0 rfl rfl 11 (by decide) hfl113 (fun _ h9 => h9) rfl dX3_readErrand_146 ?_
  refine lv_bipush (v := nI 98) hx hb dX3_readErrand_149 (by decide) ?_
  refine q_neN (tgt := 242) hx hb (by omega) (by omega) dX3_readErrand_151 (by decide) (fun c12 => ?_) (fun c12 => absurd c12 (by decide))
  exact hret _ _ _ _ (hP) hS dX3_readErrand_242
set_option maxHeartbeats 4000000 in
set_option maxRecDepth 100000 in
theorem m3_rd_98_F (l : Launch) (D : va_G) (cI : ClassId) (o ps pa pv pn px : Nat) (f fa fv fn fx : Nat → Int32) (th mn kp le wh te : Int32) (dg : Int64) (ch : Nat → Nat) (len i : Nat) (hlen : len ≤ 60) (hi61 : i ≤ 60) (hfx : ∀ j, j < len → fx j = nI (ch j)) (hch : ∀ j, j < len → ch j < 128) (hil : i < len) (hc : ch i = 98) (hn : n_ok ch len (1 + i) false 48 50 = false) (hD : va_D (fun _ => True) (wR o ps pa pv pn px cI (oM ps pa pv pn px th mn kp (nI len) (nI i) (nI 0) le wh te dg) (rr f) fa fv fn fx)) : q_V l yX3_readErrand wsX3_readErrand { frames := 3, cells := 0, slots := 0, locals := 68 } [.ref o] (q_bp D (wR o ps pa pv pn px cI (oM ps pa pv pn px th mn kp (nI len) (nI i) (nI 0) le wh te dg) (rr f) fa fv fn fx) [(cI, .int)]) (fun H => va_P D vwCl (wR o ps pa pv pn px cI (oM ps pa pv pn px th mn kp (nI len) (nI (1 + i)) (nI 1) (nI 98) (nI 0) (nI 1) dg) (rr f) fa fv fn fx) H) (AM o ps pa pv pn px) 0 0 := by
  refine q_goV (cc := cX3_readErrand) (maxL := 1) (lv0 := [(0, .ref o)]) (by decide) rfl (Nat.le_of_ble_eq_true rfl) rfl ?_
  intro p e s m args below meth c Q ls hx hb hml hts hown hP hK hl hret hnm
  have hi3 : ∀ w ∈ wsX30, w ∈ wsX3_readErrand := by decide +kernel
  have hfl106 := hts (.fieldLink RX3 106 "WhisperedPotsModel" "spot" "I") (by decide +kernel)
  have hfl99 := hts (.fieldLink RX3 99 "WhisperedPotsModel" "length" "I") (by decide +kernel)
  have hfl22 := hts (.fieldLink RX3 22 "WhisperedPotsModel" "text" "[I") (by decide +kernel)
  have hfl113 := hts (.fieldLink RX3 113 "WhisperedPotsModel" "letter" "I") (by decide +kernel)
  have hfl102 := hts (.fieldLink RX3 102 "WhisperedPotsModel" "isWrong" "Z") (by decide +kernel)
  have hfl119 := hts (.fieldLink RX3 119 "WhisperedPotsModel" "whose" "I") (by decide +kernel)
  have hfl122 := hts (.fieldLink RX3 122 "WhisperedPotsModel" "tea" "I") (by decide +kernel)
  have hS : va_S (AM o ps pa pv pn px) s.heap s.heap [] := va_S.rf
  have hne : o ≠ ps := fun h => absurd (hD.1 0 1 _ _ rfl rfl h) (by decide)
  refine lv_aload_n hx hb dX3_readErrand_0 rfl (lv_at hl 0 rfl) ?_
  refine lv_aload_n hx hb dX3_readErrand_1 rfl (lv_at hl 0 rfl) ?_
  refine va_get (D := D) (ci := 3) (v := .int (nI i)) (C := RX3) (T := TX3) (N := 15) hx hb hts hi3 hown hK hP 0 rfl rfl 9 (by decide) hfl106 (fun _ h9 => h9) rfl dX3_readErrand_2 ?_
  refine lv_aload_n hx hb dX3_readErrand_5 rfl (lv_at hl 0 rfl) ?_
  refine va_get (D := D) (ci := 3) (v := .int (nI len)) (C := RX3) (T := TX3) (N := 15) hx hb hts hi3 hown hK hP 0 rfl rfl 8 (by decide) hfl99 (fun _ h9 => h9) rfl dX3_readErrand_6 ?_
  refine q_geN (tgt := 24) hx hb (by omega) (by omega) dX3_readErrand_9 (by decide) (fun c1 => absurd c1 (by omega)) (fun c1 => ?_)
  refine lv_aload_n hx hb dX3_readErrand_12 rfl (lv_at hl 0 rfl) ?_
  refine va_get (D := D) (ci := 3) (v := .ref px) (C := RX3) (T := TX3) (N := 15) hx hb hts hi3 hown hK hP 0 rfl rfl 7 (by decide) hfl22 (fun _ h9 => h9) rfl dX3_readErrand_13 ?_
  refine lv_aload_n hx hb dX3_readErrand_16 rfl (lv_at hl 0 rfl) ?_
  refine va_get (D := D) (ci := 3) (v := .int (nI i)) (C := RX3) (T := TX3) (N := 15) hx hb hts hi3 hown hK hP 0 rfl rfl 9 (by decide) hfl106 (fun _ h9 => h9) rfl dX3_readErrand_17 ?_
  refine q_ld hx hb hK hP 5 0 rfl rfl (j := i) (v := (nI 98)) (by omega) (by omega) ((hfx _ (by omega)).trans (congrArg nI hc)) dX3_readErrand_20 ?_
  refine lv_goto (tgt := 25) hx hb dX3_readErrand_21 (by decide) ?_
  refine q_pt (D := D) (ci := 3) (v := .int (nI 98)) (ty := .int) (C := RX3) (T := TX3) (N := 15) hx hb hts hi3 tyX3 tyX3_ok nmX3 hown hK hP hD hS (Or.inl rfl) 0 rfl rfl 11 (by decide) hfl113 (fun _ h9 => h9) rfl (by decide +kernel) rfl rfl (Nat.le_of_ble_eq_true rfl) (ws' := wR o ps pa pv pn px cI (oM ps pa pv pn px th mn kp (nI len) (nI i) (nI 0) (nI 98) wh te dg) (rr f) fa fv fn fx) rfl dX3_readErrand_25 (fun H locs hP hD hS => ?_)
  refine lv_aload_n hx hb dX3_readErrand_28 rfl (lv_at hl 0 rfl) ?_
  refine lv_aload_n hx hb dX3_readErrand_29 rfl (lv_at hl 0 rfl) ?_
  refine va_get (D := D) (ci := 3) (v := .int (nI 0)) (C := RX3) (T := TX3) (N := 15) hx hb hts hi3 hown hK hP 0 rfl rfl 10 (by decide) hfl102 (fun _ h9 => h9) rfl dX3_readErrand_30 ?_
  refine lv_if_ne (tgt := 90) hx hb dX3_readErrand_33 (by decide) (fun c2 => absurd c2 (by decide)) (fun c2 => ?_)
  refine lv_aload_n hx hb dX3_readErrand_36 rfl (lv_at hl 0 rfl) ?_
  refine va_get (D := D) (ci := 3) (v := .int (nI 98)) (C := RX3) (T := TX3) (N := 15) hx hb hts hi3 hown hK hP 0 rfl rfl 11 (by decide) hfl113 (fun _ h9 => h9) rfl dX3_readErrand_37 ?_
  refine lv_bipush (v := nI 98) hx hb dX3_readErrand_40 (by decide) ?_
  refine q_eqN (tgt := 94) hx hb (by omega) (by omega) dX3_readErrand_42 (by decide) (fun c3 => ?_) (fun c3 => absurd c3 (by decide))
  refine lv_iconst (v := nI 0) hx hb dX3_readErrand_94 (by decide) ?_
  refine q_pt (D := D) (ci := 3) (v := .int (nI 0)) (ty := .boolean) (C := RX3) (T := TX3) (N := 15) hx hb hts hi3 tyX3 tyX3_ok nmX3 hown hK hP hD hS (Or.inl rfl) 0 rfl rfl 10 (by decide) hfl102 (fun _ h9 => h9) rfl (by decide +kernel) rfl rfl (Nat.le_of_ble_eq_true rfl) (ws' := wR o ps pa pv pn px cI (oM ps pa pv pn px th mn kp (nI len) (nI i) (nI 0) (nI 98) wh te dg) (rr f) fa fv fn fx) rfl dX3_readErrand_95 (fun H locs hP hD hS => ?_)
  refine lv_aload_n hx hb dX3_readErrand_98 rfl (lv_at hl 0 rfl) ?_
  refine lv_dup hx hb dX3_readErrand_99 rfl ?_
  refine va_get (D := D) (ci := 3) (v := .int (nI i)) (C := RX3) (T := TX3) (N := 15) hx hb hts hi3 hown hK hP 0 rfl rfl 9 (by decide) hfl106 (fun _ h9 => h9) rfl dX3_readErrand_100 ?_
  refine lv_aload_n hx hb dX3_readErrand_103 rfl (lv_at hl 0 rfl) ?_
  refine va_get (D := D) (ci := 3) (v := .int (nI 0)) (C := RX3) (T := TX3) (N := 15) hx hb hts hi3 hown hK hP 0 rfl rfl 10 (by decide) hfl102 (fun _ h9 => h9) rfl dX3_readErrand_104 ?_
  refine lv_if_eq (tgt := 114) hx hb dX3_readErrand_107 (by decide) (fun c4 => ?_) (fun c4 => absurd c4 (by decide))
  refine lv_iconst (v := nI 1) hx hb dX3_readErrand_114 (by decide) ?_
  refine q_addN hx hb (1 + i) (by omega) dX3_readErrand_115 ?_
  refine q_pt (D := D) (ci := 3) (v := .int (nI (1 + i))) (ty := .int) (C := RX3) (T := TX3) (N := 15) hx hb hts hi3 tyX3 tyX3_ok nmX3 hown hK hP hD hS (Or.inl rfl) 0 rfl rfl 9 (by decide) hfl106 (fun _ h9 => h9) rfl (by decide +kernel) rfl rfl (Nat.le_of_ble_eq_true rfl) (ws' := wR o ps pa pv pn px cI (oM ps pa pv pn px th mn kp (nI len) (nI (1 + i)) (nI 0) (nI 98) wh te dg) (rr f) fa fv fn fx) rfl dX3_readErrand_116 (fun H locs hP hD hS => ?_)
  refine lv_aload_n hx hb dX3_readErrand_119 rfl (lv_at hl 0 rfl) ?_
  refine lv_aload_n hx hb dX3_readErrand_120 rfl (lv_at hl 0 rfl) ?_
  refine lv_bipush (v := nI 48) hx hb dX3_readErrand_121 (by decide) ?_
  refine lv_aload_n hx hb dX3_readErrand_123 rfl (lv_at hl 0 rfl) ?_
  refine va_get (D := D) (ci := 3) (v := .int (nI 98)) (C := RX3) (T := TX3) (N := 15) hx hb hts hi3 hown hK hP 0 rfl rfl 11 (by decide) hfl113 (fun _ h9 => h9) rfl dX3_readErrand_124 ?_
  refine lv_bipush (v := nI 115) hx hb dX3_readErrand_127 (by decide) ?_
  refine q_neN (tgt := 137) hx hb (by omega) (by omega) dX3_readErrand_129 (by decide) (fun c5 => ?_) (fun c5 => absurd c5 (by decide))
  refine lv_bipush (v := nI 50) hx hb dX3_readErrand_137 (by decide) ?_
  refine q_ciF (BH := fun H => va_P D vwCl (wR o ps pa pv pn px cI (oM ps pa pv pn px th mn kp (nI len) (nI (1 + i)) (nI 1) (nI 98) wh te dg) (rr f) fa fv fn fx) H) (va_runV (rm := { frames := 2, cells := 0, slots := 0, locals := 44 }) (As := [.int (nI 48), .int (nI 50)]) (rest := [.ref o]) ⟨hx, hb, hml, hown, hts⟩ (m3_takes_f l D cI o ps pa pv pn px f fa fv fn fx th mn kp (nI 98) wh te dg ch len (1 + i) hlen (by omega) hfx hch 48 50 (by omega) (by omega) false hn hD) (cwV 2 hts gX3_readErrand_X3_takes rfl rfl rfl (by decide +kernel) ⟨Nat.le_of_ble_eq_true rfl, Nat.le_of_ble_eq_true rfl⟩) (q_pV (ci := 3) (q0 := 0) hP hK rfl rfl) rfl rfl hl.1 rfl (lv_room (Nat.le_of_ble_eq_true rfl)) dX3_readErrand_139 ⟨Nat.le_of_ble_eq_true rfl, Nat.le_of_ble_eq_true rfl⟩) (fun t h => h) hS (fun _ h => h) (fun x6 H locs e6 hP hS => ?_)
  have hD := q_D2 (ws' := wR o ps pa pv pn px cI (oM ps pa pv pn px th mn kp (nI len) (nI (1 + i)) (nI 1) (nI 98) wh te dg) (rr f) fa fv fn fx) hD rfl
  have e6 : x6 = (nI 0) := e6
  subst e6
  refine q_pt (D := D) (ci := 3) (v := .int (nI 0)) (ty := .int) (C := RX3) (T := TX3) (N := 15) hx hb hts hi3 tyX3 tyX3_ok nmX3 hown hK hP hD hS (Or.inl rfl) 0 rfl rfl 12 (by decide) hfl119 (fun _ h9 => h9) rfl (by decide +kernel) rfl rfl (Nat.le_of_ble_eq_true rfl) (ws' := wR o ps pa pv pn px cI (oM ps pa pv pn px th mn kp (nI len) (nI (1 + i)) (nI 1) (nI 98) (nI 0) te dg) (rr f) fa fv fn fx) rfl dX3_readErrand_142 (fun H locs hP hD hS => ?_)
  refine lv_aload_n hx hb dX3_readErrand_145 rfl (lv_at hl 0 rfl) ?_
  refine va_get (D := D) (ci := 3) (v := .int (nI 98)) (C := RX3) (T := TX3) (N := 15) hx hb hts hi3 hown hK hP 0 rfl rfl 11 (by decide) hfl113 (fun _ h9 => h9) rfl dX3_readErrand_146 ?_
  refine lv_bipush (v := nI 98) hx hb dX3_readErrand_149 (by decide) ?_
  refine q_neN (tgt := 242) hx hb (by omega) (by omega) dX3_readErrand_151 (by decide) (fun c7 => absurd c7 (by decide)) (fun c7 => ?_)
  refine lv_aload_n hx hb dX3_readErrand_154 rfl (lv_at hl 0 rfl) ?_
  refine lv_iconst (v := nI 1) hx hb dX3_readErrand_155 (by decide) ?_
  refine lv_aload_n hx hb dX3_readErrand_156 rfl (lv_at hl 0 rfl) ?_
  refine lv_bipush (v := nI 49) hx hb dX3_readErrand_157 (by decide) ?_
  refine lv_bipush (v := nI 57) hx hb dX3_readErrand_159 (by decide) ?_
  refine q_ciF (BH := fun H => va_P D vwCl (wR o ps pa pv pn px cI (oM ps pa pv pn px th mn kp (nI len) (nI (1 + i)) (nI 1) (nI 98) (nI 0) te dg) (rr f) fa fv fn fx) H) (va_runV (rm := { frames := 2, cells := 0, slots := 0, locals := 44 }) (As := [.int (nI 49), .int (nI 57)]) (rest := [.int (nI 1), .ref o]) ⟨hx, hb, hml, hown, hts⟩ (m3_takes_f l D cI o ps pa pv pn px f fa fv fn fx th mn kp (nI 98) (nI 0) te dg ch len (1 + i) hlen (by omega) hfx hch 49 57 (by omega) (by omega) true rfl hD) (cwV 2 hts gX3_readErrand_X3_takes rfl rfl rfl (by decide +kernel) ⟨Nat.le_of_ble_eq_true rfl, Nat.le_of_ble_eq_true rfl⟩) (q_pV (ci := 3) (q0 := 0) hP hK rfl rfl) rfl rfl hl.1 rfl (lv_room (Nat.le_of_ble_eq_true rfl)) dX3_readErrand_161 ⟨Nat.le_of_ble_eq_true rfl, Nat.le_of_ble_eq_true rfl⟩) (fun t h => h) hS (fun _ h => h) (fun x8 H locs e8 hP hS => ?_)
  have hD := q_D2 (ws' := wR o ps pa pv pn px cI (oM ps pa pv pn px th mn kp (nI len) (nI (1 + i)) (nI 1) (nI 98) (nI 0) te dg) (rr f) fa fv fn fx) hD rfl
  have e8 : x8 = (nI 0) := e8
  subst e8
  refine q_addN hx hb 1 (by omega) dX3_readErrand_164 ?_
  refine q_pt (D := D) (ci := 3) (v := .int (nI 1)) (ty := .int) (C := RX3) (T := TX3) (N := 15) hx hb hts hi3 tyX3 tyX3_ok nmX3 hown hK hP hD hS (Or.inl rfl) 0 rfl rfl 13 (by decide) hfl122 (fun _ h9 => h9) rfl (by decide +kernel) rfl rfl (Nat.le_of_ble_eq_true rfl) (ws' := wR o ps pa pv pn px cI (oM ps pa pv pn px th mn kp (nI len) (nI (1 + i)) (nI 1) (nI 98) (nI 0) (nI 1) dg) (rr f) fa fv fn fx) rfl dX3_readErrand_165 (fun H locs hP hD hS => ?_)
  refine lv_aload_n hx hb dX3_readErrand_168 rfl (lv_at hl 0 rfl) ?_
  refine lv_bipush (v := nI 48) hx hb dX3_readErrand_169 (by decide) ?_
  refine lv_bipush (v := nI 57) hx hb dX3_readErrand_171 (by decide) ?_
  refine q_ciF (BH := fun H => va_P D vwCl (wR o ps pa pv pn px cI (oM ps pa pv pn px th mn kp (nI len) (nI (1 + i)) (nI 1) (nI 98) (nI 0) (nI 1) dg) (rr f) fa fv fn fx) H) (va_runV (rm := { frames := 1, cells := 0, slots := 0, locals := 22 }) (As := [.int (nI 48), .int (nI 57)]) (rest := []) ⟨hx, hb, hml, hown, hts⟩ (m3_isNext_1 l D cI o ps pa pv pn px f fa fv fn fx th mn kp (nI 98) (nI 0) (nI 1) dg ch len (1 + i) hlen (by omega) hfx hch 48 57 (by omega) (by omega)  hD) (cwV 2 hts gX3_readErrand_X3_isNext rfl rfl rfl (by decide +kernel) ⟨Nat.le_of_ble_eq_true rfl, Nat.le_of_ble_eq_true rfl⟩) (q_pV (ci := 3) (q0 := 0) hP hK rfl rfl) rfl rfl hl.1 rfl (lv_room (Nat.le_of_ble_eq_true rfl)) dX3_readErrand_173 ⟨Nat.le_of_ble_eq_true rfl, Nat.le_of_ble_eq_true rfl⟩) (fun _ h => h) hS (fun _ h => h) (fun x9 H locs e9 hP hS => ?_)
  have e9 : x9 = nI 0 := e9
  subst e9
  refine lv_if_eq (tgt := 242) hx hb dX3_readErrand_176 (by decide) (fun c10 => ?_) (fun c10 => absurd c10 (by decide))
  exact hret _ _ _ _ (hP) hS dX3_readErrand_242
set_option maxHeartbeats 4000000 in
set_option maxRecDepth 100000 in
theorem m3_rd_98_F2 (l : Launch) (D : va_G) (cI : ClassId) (o ps pa pv pn px : Nat) (f fa fv fn fx : Nat → Int32) (th mn kp le wh te : Int32) (dg : Int64) (ch : Nat → Nat) (len i : Nat) (hlen : len ≤ 60) (hi61 : i ≤ 60) (hfx : ∀ j, j < len → fx j = nI (ch j)) (hch : ∀ j, j < len → ch j < 128) (hil : i < len) (hc : ch i = 98) (h1l : 1 + i < len) (h2l : 48 ≤ ch (1 + i)) (h3l : ch (1 + i) ≤ 50) (hn : n_ok ch len (2 + i) false 49 57 = false) (hD : va_D (fun _ => True) (wR o ps pa pv pn px cI (oM ps pa pv pn px th mn kp (nI len) (nI i) (nI 0) le wh te dg) (rr f) fa fv fn fx)) : q_V l yX3_readErrand wsX3_readErrand { frames := 3, cells := 0, slots := 0, locals := 68 } [.ref o] (q_bp D (wR o ps pa pv pn px cI (oM ps pa pv pn px th mn kp (nI len) (nI i) (nI 0) le wh te dg) (rr f) fa fv fn fx) [(cI, .int)]) (fun H => va_P D vwCl (wR o ps pa pv pn px cI (oM ps pa pv pn px th mn kp (nI len) (nI (2 + i)) (nI 1) (nI 98) (nI ((ch (1 + i) - 48))) (nI 1) dg) (rr f) fa fv fn fx) H) (AM o ps pa pv pn px) 0 0 := by
  refine q_goV (cc := cX3_readErrand) (maxL := 1) (lv0 := [(0, .ref o)]) (by decide) rfl (Nat.le_of_ble_eq_true rfl) rfl ?_
  intro p e s m args below meth c Q ls hx hb hml hts hown hP hK hl hret hnm
  have hi3 : ∀ w ∈ wsX30, w ∈ wsX3_readErrand := by decide +kernel
  have hfl106 := hts (.fieldLink RX3 106 "WhisperedPotsModel" "spot" "I") (by decide +kernel)
  have hfl99 := hts (.fieldLink RX3 99 "WhisperedPotsModel" "length" "I") (by decide +kernel)
  have hfl22 := hts (.fieldLink RX3 22 "WhisperedPotsModel" "text" "[I") (by decide +kernel)
  have hfl113 := hts (.fieldLink RX3 113 "WhisperedPotsModel" "letter" "I") (by decide +kernel)
  have hfl102 := hts (.fieldLink RX3 102 "WhisperedPotsModel" "isWrong" "Z") (by decide +kernel)
  have hfl119 := hts (.fieldLink RX3 119 "WhisperedPotsModel" "whose" "I") (by decide +kernel)
  have hfl122 := hts (.fieldLink RX3 122 "WhisperedPotsModel" "tea" "I") (by decide +kernel)
  have hS : va_S (AM o ps pa pv pn px) s.heap s.heap [] := va_S.rf
  have hne : o ≠ ps := fun h => absurd (hD.1 0 1 _ _ rfl rfl h) (by decide)
  refine lv_aload_n hx hb dX3_readErrand_0 rfl (lv_at hl 0 rfl) ?_
  refine lv_aload_n hx hb dX3_readErrand_1 rfl (lv_at hl 0 rfl) ?_
  refine va_get (D := D) (ci := 3) (v := .int (nI i)) (C := RX3) (T := TX3) (N := 15) hx hb hts hi3 hown hK hP 0 rfl rfl 9 (by decide) hfl106 (fun _ h9 => h9) rfl dX3_readErrand_2 ?_
  refine lv_aload_n hx hb dX3_readErrand_5 rfl (lv_at hl 0 rfl) ?_
  refine va_get (D := D) (ci := 3) (v := .int (nI len)) (C := RX3) (T := TX3) (N := 15) hx hb hts hi3 hown hK hP 0 rfl rfl 8 (by decide) hfl99 (fun _ h9 => h9) rfl dX3_readErrand_6 ?_
  refine q_geN (tgt := 24) hx hb (by omega) (by omega) dX3_readErrand_9 (by decide) (fun c1 => absurd c1 (by omega)) (fun c1 => ?_)
  refine lv_aload_n hx hb dX3_readErrand_12 rfl (lv_at hl 0 rfl) ?_
  refine va_get (D := D) (ci := 3) (v := .ref px) (C := RX3) (T := TX3) (N := 15) hx hb hts hi3 hown hK hP 0 rfl rfl 7 (by decide) hfl22 (fun _ h9 => h9) rfl dX3_readErrand_13 ?_
  refine lv_aload_n hx hb dX3_readErrand_16 rfl (lv_at hl 0 rfl) ?_
  refine va_get (D := D) (ci := 3) (v := .int (nI i)) (C := RX3) (T := TX3) (N := 15) hx hb hts hi3 hown hK hP 0 rfl rfl 9 (by decide) hfl106 (fun _ h9 => h9) rfl dX3_readErrand_17 ?_
  refine q_ld hx hb hK hP 5 0 rfl rfl (j := i) (v := (nI 98)) (by omega) (by omega) ((hfx _ (by omega)).trans (congrArg nI hc)) dX3_readErrand_20 ?_
  refine lv_goto (tgt := 25) hx hb dX3_readErrand_21 (by decide) ?_
  refine q_pt (D := D) (ci := 3) (v := .int (nI 98)) (ty := .int) (C := RX3) (T := TX3) (N := 15) hx hb hts hi3 tyX3 tyX3_ok nmX3 hown hK hP hD hS (Or.inl rfl) 0 rfl rfl 11 (by decide) hfl113 (fun _ h9 => h9) rfl (by decide +kernel) rfl rfl (Nat.le_of_ble_eq_true rfl) (ws' := wR o ps pa pv pn px cI (oM ps pa pv pn px th mn kp (nI len) (nI i) (nI 0) (nI 98) wh te dg) (rr f) fa fv fn fx) rfl dX3_readErrand_25 (fun H locs hP hD hS => ?_)
  refine lv_aload_n hx hb dX3_readErrand_28 rfl (lv_at hl 0 rfl) ?_
  refine lv_aload_n hx hb dX3_readErrand_29 rfl (lv_at hl 0 rfl) ?_
  refine va_get (D := D) (ci := 3) (v := .int (nI 0)) (C := RX3) (T := TX3) (N := 15) hx hb hts hi3 hown hK hP 0 rfl rfl 10 (by decide) hfl102 (fun _ h9 => h9) rfl dX3_readErrand_30 ?_
  refine lv_if_ne (tgt := 90) hx hb dX3_readErrand_33 (by decide) (fun c2 => absurd c2 (by decide)) (fun c2 => ?_)
  refine lv_aload_n hx hb dX3_readErrand_36 rfl (lv_at hl 0 rfl) ?_
  refine va_get (D := D) (ci := 3) (v := .int (nI 98)) (C := RX3) (T := TX3) (N := 15) hx hb hts hi3 hown hK hP 0 rfl rfl 11 (by decide) hfl113 (fun _ h9 => h9) rfl dX3_readErrand_37 ?_
  refine lv_bipush (v := nI 98) hx hb dX3_readErrand_40 (by decide) ?_
  refine q_eqN (tgt := 94) hx hb (by omega) (by omega) dX3_readErrand_42 (by decide) (fun c3 => ?_) (fun c3 => absurd c3 (by decide))
  refine lv_iconst (v := nI 0) hx hb dX3_readErrand_94 (by decide) ?_
  refine q_pt (D := D) (ci := 3) (v := .int (nI 0)) (ty := .boolean) (C := RX3) (T := TX3) (N := 15) hx hb hts hi3 tyX3 tyX3_ok nmX3 hown hK hP hD hS (Or.inl rfl) 0 rfl rfl 10 (by decide) hfl102 (fun _ h9 => h9) rfl (by decide +kernel) rfl rfl (Nat.le_of_ble_eq_true rfl) (ws' := wR o ps pa pv pn px cI (oM ps pa pv pn px th mn kp (nI len) (nI i) (nI 0) (nI 98) wh te dg) (rr f) fa fv fn fx) rfl dX3_readErrand_95 (fun H locs hP hD hS => ?_)
  refine lv_aload_n hx hb dX3_readErrand_98 rfl (lv_at hl 0 rfl) ?_
  refine lv_dup hx hb dX3_readErrand_99 rfl ?_
  refine va_get (D := D) (ci := 3) (v := .int (nI i)) (C := RX3) (T := TX3) (N := 15) hx hb hts hi3 hown hK hP 0 rfl rfl 9 (by decide) hfl106 (fun _ h9 => h9) rfl dX3_readErrand_100 ?_
  refine lv_aload_n hx hb dX3_readErrand_103 rfl (lv_at hl 0 rfl) ?_
  refine va_get (D := D) (ci := 3) (v := .int (nI 0)) (C := RX3) (T := TX3) (N := 15) hx hb hts hi3 hown hK hP 0 rfl rfl 10 (by decide) hfl102 (fun _ h9 => h9) rfl dX3_readErrand_104 ?_
  refine lv_if_eq (tgt := 114) hx hb dX3_readErrand_107 (by decide) (fun c4 => ?_) (fun c4 => absurd c4 (by decide))
  refine lv_iconst (v := nI 1) hx hb dX3_readErrand_114 (by decide) ?_
  refine q_addN hx hb (1 + i) (by omega) dX3_readErrand_115 ?_
  refine q_pt (D := D) (ci := 3) (v := .int (nI (1 + i))) (ty := .int) (C := RX3) (T := TX3) (N := 15) hx hb hts hi3 tyX3 tyX3_ok nmX3 hown hK hP hD hS (Or.inl rfl) 0 rfl rfl 9 (by decide) hfl106 (fun _ h9 => h9) rfl (by decide +kernel) rfl rfl (Nat.le_of_ble_eq_true rfl) (ws' := wR o ps pa pv pn px cI (oM ps pa pv pn px th mn kp (nI len) (nI (1 + i)) (nI 0) (nI 98) wh te dg) (rr f) fa fv fn fx) rfl dX3_readErrand_116 (fun H locs hP hD hS => ?_)
  refine lv_aload_n hx hb dX3_readErrand_119 rfl (lv_at hl 0 rfl) ?_
  refine lv_aload_n hx hb dX3_readErrand_120 rfl (lv_at hl 0 rfl) ?_
  refine lv_bipush (v := nI 48) hx hb dX3_readErrand_121 (by decide) ?_
  refine lv_aload_n hx hb dX3_readErrand_123 rfl (lv_at hl 0 rfl) ?_
  refine va_get (D := D) (ci := 3) (v := .int (nI 98)) (C := RX3) (T := TX3) (N := 15) hx hb hts hi3 hown hK hP 0 rfl rfl 11 (by decide) hfl113 (fun _ h9 => h9) rfl dX3_readErrand_124 ?_
  refine lv_bipush (v := nI 115) hx hb dX3_readErrand_127 (by decide) ?_
  refine q_neN (tgt := 137) hx hb (by omega) (by omega) dX3_readErrand_129 (by decide) (fun c5 => ?_) (fun c5 => absurd c5 (by decide))
  refine lv_bipush (v := nI 50) hx hb dX3_readErrand_137 (by decide) ?_
  refine q_ciF (BH := fun H => va_P D vwCl (wR o ps pa pv pn px cI (oM ps pa pv pn px th mn kp (nI len) (nI (2 + i)) (nI 0) (nI 98) wh te dg) (rr f) fa fv fn fx) H) (va_runV (rm := { frames := 2, cells := 0, slots := 0, locals := 44 }) (As := [.int (nI 48), .int (nI 50)]) (rest := [.ref o]) ⟨hx, hb, hml, hown, hts⟩ (m3_takes_t l D cI o ps pa pv pn px f fa fv fn fx th mn kp (nI 98) wh te dg ch len (1 + i) hlen (by omega) hfx hch 48 50 (by omega) (by omega) h1l h2l h3l hD) (cwV 2 hts gX3_readErrand_X3_takes rfl rfl rfl (by decide +kernel) ⟨Nat.le_of_ble_eq_true rfl, Nat.le_of_ble_eq_true rfl⟩) (q_pV (ci := 3) (q0 := 0) hP hK rfl rfl) rfl rfl hl.1 rfl (lv_room (Nat.le_of_ble_eq_true rfl)) dX3_readErrand_139 ⟨Nat.le_of_ble_eq_true rfl, Nat.le_of_ble_eq_true rfl⟩) (fun t h => (show 2 + i = 1 + (1 + i) by omega) ▸ h) hS (fun _ h => h) (fun x6 H locs e6 hP hS => ?_)
  have hD := q_D2 (ws' := wR o ps pa pv pn px cI (oM ps pa pv pn px th mn kp (nI len) (nI (2 + i)) (nI 0) (nI 98) wh te dg) (rr f) fa fv fn fx) hD rfl
  have e6 : x6 = (nI ((ch (1 + i) - 48))) := e6
  subst e6
  refine q_pt (D := D) (ci := 3) (v := .int (nI ((ch (1 + i) - 48)))) (ty := .int) (C := RX3) (T := TX3) (N := 15) hx hb hts hi3 tyX3 tyX3_ok nmX3 hown hK hP hD hS (Or.inl rfl) 0 rfl rfl 12 (by decide) hfl119 (fun _ h9 => h9) rfl (by decide +kernel) rfl rfl (Nat.le_of_ble_eq_true rfl) (ws' := wR o ps pa pv pn px cI (oM ps pa pv pn px th mn kp (nI len) (nI (2 + i)) (nI 0) (nI 98) (nI ((ch (1 + i) - 48))) te dg) (rr f) fa fv fn fx) rfl dX3_readErrand_142 (fun H locs hP hD hS => ?_)
  refine lv_aload_n hx hb dX3_readErrand_145 rfl (lv_at hl 0 rfl) ?_
  refine va_get (D := D) (ci := 3) (v := .int (nI 98)) (C := RX3) (T := TX3) (N := 15) hx hb hts hi3 hown hK hP 0 rfl rfl 11 (by decide) hfl113 (fun _ h9 => h9) rfl dX3_readErrand_146 ?_
  refine lv_bipush (v := nI 98) hx hb dX3_readErrand_149 (by decide) ?_
  refine q_neN (tgt := 242) hx hb (by omega) (by omega) dX3_readErrand_151 (by decide) (fun c7 => absurd c7 (by decide)) (fun c7 => ?_)
  refine lv_aload_n hx hb dX3_readErrand_154 rfl (lv_at hl 0 rfl) ?_
  refine lv_iconst (v := nI 1) hx hb dX3_readErrand_155 (by decide) ?_
  refine lv_aload_n hx hb dX3_readErrand_156 rfl (lv_at hl 0 rfl) ?_
  refine lv_bipush (v := nI 49) hx hb dX3_readErrand_157 (by decide) ?_
  refine lv_bipush (v := nI 57) hx hb dX3_readErrand_159 (by decide) ?_
  refine q_ciF (BH := fun H => va_P D vwCl (wR o ps pa pv pn px cI (oM ps pa pv pn px th mn kp (nI len) (nI (2 + i)) (nI 1) (nI 98) (nI ((ch (1 + i) - 48))) te dg) (rr f) fa fv fn fx) H) (va_runV (rm := { frames := 2, cells := 0, slots := 0, locals := 44 }) (As := [.int (nI 49), .int (nI 57)]) (rest := [.int (nI 1), .ref o]) ⟨hx, hb, hml, hown, hts⟩ (m3_takes_f l D cI o ps pa pv pn px f fa fv fn fx th mn kp (nI 98) (nI ((ch (1 + i) - 48))) te dg ch len (2 + i) hlen (by omega) hfx hch 49 57 (by omega) (by omega) false hn hD) (cwV 2 hts gX3_readErrand_X3_takes rfl rfl rfl (by decide +kernel) ⟨Nat.le_of_ble_eq_true rfl, Nat.le_of_ble_eq_true rfl⟩) (q_pV (ci := 3) (q0 := 0) hP hK rfl rfl) rfl rfl hl.1 rfl (lv_room (Nat.le_of_ble_eq_true rfl)) dX3_readErrand_161 ⟨Nat.le_of_ble_eq_true rfl, Nat.le_of_ble_eq_true rfl⟩) (fun t h => h) hS (fun _ h => h) (fun x8 H locs e8 hP hS => ?_)
  have hD := q_D2 (ws' := wR o ps pa pv pn px cI (oM ps pa pv pn px th mn kp (nI len) (nI (2 + i)) (nI 1) (nI 98) (nI ((ch (1 + i) - 48))) te dg) (rr f) fa fv fn fx) hD rfl
  have e8 : x8 = (nI 0) := e8
  subst e8
  refine q_addN hx hb 1 (by omega) dX3_readErrand_164 ?_
  refine q_pt (D := D) (ci := 3) (v := .int (nI 1)) (ty := .int) (C := RX3) (T := TX3) (N := 15) hx hb hts hi3 tyX3 tyX3_ok nmX3 hown hK hP hD hS (Or.inl rfl) 0 rfl rfl 13 (by decide) hfl122 (fun _ h9 => h9) rfl (by decide +kernel) rfl rfl (Nat.le_of_ble_eq_true rfl) (ws' := wR o ps pa pv pn px cI (oM ps pa pv pn px th mn kp (nI len) (nI (2 + i)) (nI 1) (nI 98) (nI ((ch (1 + i) - 48))) (nI 1) dg) (rr f) fa fv fn fx) rfl dX3_readErrand_165 (fun H locs hP hD hS => ?_)
  refine lv_aload_n hx hb dX3_readErrand_168 rfl (lv_at hl 0 rfl) ?_
  refine lv_bipush (v := nI 48) hx hb dX3_readErrand_169 (by decide) ?_
  refine lv_bipush (v := nI 57) hx hb dX3_readErrand_171 (by decide) ?_
  refine q_ciF (BH := fun H => va_P D vwCl (wR o ps pa pv pn px cI (oM ps pa pv pn px th mn kp (nI len) (nI (2 + i)) (nI 1) (nI 98) (nI ((ch (1 + i) - 48))) (nI 1) dg) (rr f) fa fv fn fx) H) (va_runV (rm := { frames := 1, cells := 0, slots := 0, locals := 22 }) (As := [.int (nI 48), .int (nI 57)]) (rest := []) ⟨hx, hb, hml, hown, hts⟩ (m3_isNext_1 l D cI o ps pa pv pn px f fa fv fn fx th mn kp (nI 98) (nI ((ch (1 + i) - 48))) (nI 1) dg ch len (2 + i) hlen (by omega) hfx hch 48 57 (by omega) (by omega)  hD) (cwV 2 hts gX3_readErrand_X3_isNext rfl rfl rfl (by decide +kernel) ⟨Nat.le_of_ble_eq_true rfl, Nat.le_of_ble_eq_true rfl⟩) (q_pV (ci := 3) (q0 := 0) hP hK rfl rfl) rfl rfl hl.1 rfl (lv_room (Nat.le_of_ble_eq_true rfl)) dX3_readErrand_173 ⟨Nat.le_of_ble_eq_true rfl, Nat.le_of_ble_eq_true rfl⟩) (fun _ h => h) hS (fun _ h => h) (fun x9 H locs e9 hP hS => ?_)
  have e9 : x9 = nI 0 := e9
  subst e9
  refine lv_if_eq (tgt := 242) hx hb dX3_readErrand_176 (by decide) (fun c10 => ?_) (fun c10 => absurd c10 (by decide))
  exact hret _ _ _ _ (hP) hS dX3_readErrand_242
set_option maxHeartbeats 4000000 in
set_option maxRecDepth 100000 in
theorem m3_rd_98_T (l : Launch) (D : va_G) (cI : ClassId) (o ps pa pv pn px : Nat) (f fa fv fn fx : Nat → Int32) (th mn kp le wh te : Int32) (dg : Int64) (ch : Nat → Nat) (len i : Nat) (hlen : len ≤ 60) (hi61 : i ≤ 60) (hfx : ∀ j, j < len → fx j = nI (ch j)) (hch : ∀ j, j < len → ch j < 128) (hil : i < len) (hc : ch i = 98) (h1l : 1 + i < len) (h2l : 48 ≤ ch (1 + i)) (h3l : ch (1 + i) ≤ 50) (h4l : 2 + i < len) (h5l : 49 ≤ ch (2 + i)) (h6l : ch (2 + i) ≤ 57) (hD : va_D (fun _ => True) (wR o ps pa pv pn px cI (oM ps pa pv pn px th mn kp (nI len) (nI i) (nI 0) le wh te dg) (rr f) fa fv fn fx)) : q_V l yX3_readErrand wsX3_readErrand { frames := 3, cells := 0, slots := 0, locals := 68 } [.ref o] (q_bp D (wR o ps pa pv pn px cI (oM ps pa pv pn px th mn kp (nI len) (nI i) (nI 0) le wh te dg) (rr f) fa fv fn fx) [(cI, .int)]) (fun H => va_P D vwCl (wR o ps pa pv pn px cI (oM ps pa pv pn px th mn kp (nI len) (nI ((d_j ch len (len - (3 + i)) (3 + i) (1 + (ch (2 + i) - 49))))) (nI 0) (nI 98) (nI ((ch (1 + i) - 48))) (nI ((d_t ch len (len - (3 + i)) (3 + i) (1 + (ch (2 + i) - 49))))) dg) (rr f) fa fv fn fx) H) (AM o ps pa pv pn px) 0 0 := by
  refine q_goV (cc := cX3_readErrand) (maxL := 1) (lv0 := [(0, .ref o)]) (by decide) rfl (Nat.le_of_ble_eq_true rfl) rfl ?_
  intro p e s m args below meth c Q ls hx hb hml hts hown hP hK hl hret hnm
  have hi3 : ∀ w ∈ wsX30, w ∈ wsX3_readErrand := by decide +kernel
  have hfl106 := hts (.fieldLink RX3 106 "WhisperedPotsModel" "spot" "I") (by decide +kernel)
  have hfl99 := hts (.fieldLink RX3 99 "WhisperedPotsModel" "length" "I") (by decide +kernel)
  have hfl22 := hts (.fieldLink RX3 22 "WhisperedPotsModel" "text" "[I") (by decide +kernel)
  have hfl113 := hts (.fieldLink RX3 113 "WhisperedPotsModel" "letter" "I") (by decide +kernel)
  have hfl102 := hts (.fieldLink RX3 102 "WhisperedPotsModel" "isWrong" "Z") (by decide +kernel)
  have hfl119 := hts (.fieldLink RX3 119 "WhisperedPotsModel" "whose" "I") (by decide +kernel)
  have hfl122 := hts (.fieldLink RX3 122 "WhisperedPotsModel" "tea" "I") (by decide +kernel)
  have hS : va_S (AM o ps pa pv pn px) s.heap s.heap [] := va_S.rf
  have hci2 := hch (2 + i) h4l
  have hne : o ≠ ps := fun h => absurd (hD.1 0 1 _ _ rfl rfl h) (by decide)
  refine lv_aload_n hx hb dX3_readErrand_0 rfl (lv_at hl 0 rfl) ?_
  refine lv_aload_n hx hb dX3_readErrand_1 rfl (lv_at hl 0 rfl) ?_
  refine va_get (D := D) (ci := 3) (v := .int (nI i)) (C := RX3) (T := TX3) (N := 15) hx hb hts hi3 hown hK hP 0 rfl rfl 9 (by decide) hfl106 (fun _ h9 => h9) rfl dX3_readErrand_2 ?_
  refine lv_aload_n hx hb dX3_readErrand_5 rfl (lv_at hl 0 rfl) ?_
  refine va_get (D := D) (ci := 3) (v := .int (nI len)) (C := RX3) (T := TX3) (N := 15) hx hb hts hi3 hown hK hP 0 rfl rfl 8 (by decide) hfl99 (fun _ h9 => h9) rfl dX3_readErrand_6 ?_
  refine q_geN (tgt := 24) hx hb (by omega) (by omega) dX3_readErrand_9 (by decide) (fun c1 => absurd c1 (by omega)) (fun c1 => ?_)
  refine lv_aload_n hx hb dX3_readErrand_12 rfl (lv_at hl 0 rfl) ?_
  refine va_get (D := D) (ci := 3) (v := .ref px) (C := RX3) (T := TX3) (N := 15) hx hb hts hi3 hown hK hP 0 rfl rfl 7 (by decide) hfl22 (fun _ h9 => h9) rfl dX3_readErrand_13 ?_
  refine lv_aload_n hx hb dX3_readErrand_16 rfl (lv_at hl 0 rfl) ?_
  refine va_get (D := D) (ci := 3) (v := .int (nI i)) (C := RX3) (T := TX3) (N := 15) hx hb hts hi3 hown hK hP 0 rfl rfl 9 (by decide) hfl106 (fun _ h9 => h9) rfl dX3_readErrand_17 ?_
  refine q_ld hx hb hK hP 5 0 rfl rfl (j := i) (v := (nI 98)) (by omega) (by omega) ((hfx _ (by omega)).trans (congrArg nI hc)) dX3_readErrand_20 ?_
  refine lv_goto (tgt := 25) hx hb dX3_readErrand_21 (by decide) ?_
  refine q_pt (D := D) (ci := 3) (v := .int (nI 98)) (ty := .int) (C := RX3) (T := TX3) (N := 15) hx hb hts hi3 tyX3 tyX3_ok nmX3 hown hK hP hD hS (Or.inl rfl) 0 rfl rfl 11 (by decide) hfl113 (fun _ h9 => h9) rfl (by decide +kernel) rfl rfl (Nat.le_of_ble_eq_true rfl) (ws' := wR o ps pa pv pn px cI (oM ps pa pv pn px th mn kp (nI len) (nI i) (nI 0) (nI 98) wh te dg) (rr f) fa fv fn fx) rfl dX3_readErrand_25 (fun H locs hP hD hS => ?_)
  refine lv_aload_n hx hb dX3_readErrand_28 rfl (lv_at hl 0 rfl) ?_
  refine lv_aload_n hx hb dX3_readErrand_29 rfl (lv_at hl 0 rfl) ?_
  refine va_get (D := D) (ci := 3) (v := .int (nI 0)) (C := RX3) (T := TX3) (N := 15) hx hb hts hi3 hown hK hP 0 rfl rfl 10 (by decide) hfl102 (fun _ h9 => h9) rfl dX3_readErrand_30 ?_
  refine lv_if_ne (tgt := 90) hx hb dX3_readErrand_33 (by decide) (fun c2 => absurd c2 (by decide)) (fun c2 => ?_)
  refine lv_aload_n hx hb dX3_readErrand_36 rfl (lv_at hl 0 rfl) ?_
  refine va_get (D := D) (ci := 3) (v := .int (nI 98)) (C := RX3) (T := TX3) (N := 15) hx hb hts hi3 hown hK hP 0 rfl rfl 11 (by decide) hfl113 (fun _ h9 => h9) rfl dX3_readErrand_37 ?_
  refine lv_bipush (v := nI 98) hx hb dX3_readErrand_40 (by decide) ?_
  refine q_eqN (tgt := 94) hx hb (by omega) (by omega) dX3_readErrand_42 (by decide) (fun c3 => ?_) (fun c3 => absurd c3 (by decide))
  refine lv_iconst (v := nI 0) hx hb dX3_readErrand_94 (by decide) ?_
  refine q_pt (D := D) (ci := 3) (v := .int (nI 0)) (ty := .boolean) (C := RX3) (T := TX3) (N := 15) hx hb hts hi3 tyX3 tyX3_ok nmX3 hown hK hP hD hS (Or.inl rfl) 0 rfl rfl 10 (by decide) hfl102 (fun _ h9 => h9) rfl (by decide +kernel) rfl rfl (Nat.le_of_ble_eq_true rfl) (ws' := wR o ps pa pv pn px cI (oM ps pa pv pn px th mn kp (nI len) (nI i) (nI 0) (nI 98) wh te dg) (rr f) fa fv fn fx) rfl dX3_readErrand_95 (fun H locs hP hD hS => ?_)
  refine lv_aload_n hx hb dX3_readErrand_98 rfl (lv_at hl 0 rfl) ?_
  refine lv_dup hx hb dX3_readErrand_99 rfl ?_
  refine va_get (D := D) (ci := 3) (v := .int (nI i)) (C := RX3) (T := TX3) (N := 15) hx hb hts hi3 hown hK hP 0 rfl rfl 9 (by decide) hfl106 (fun _ h9 => h9) rfl dX3_readErrand_100 ?_
  refine lv_aload_n hx hb dX3_readErrand_103 rfl (lv_at hl 0 rfl) ?_
  refine va_get (D := D) (ci := 3) (v := .int (nI 0)) (C := RX3) (T := TX3) (N := 15) hx hb hts hi3 hown hK hP 0 rfl rfl 10 (by decide) hfl102 (fun _ h9 => h9) rfl dX3_readErrand_104 ?_
  refine lv_if_eq (tgt := 114) hx hb dX3_readErrand_107 (by decide) (fun c4 => ?_) (fun c4 => absurd c4 (by decide))
  refine lv_iconst (v := nI 1) hx hb dX3_readErrand_114 (by decide) ?_
  refine q_addN hx hb (1 + i) (by omega) dX3_readErrand_115 ?_
  refine q_pt (D := D) (ci := 3) (v := .int (nI (1 + i))) (ty := .int) (C := RX3) (T := TX3) (N := 15) hx hb hts hi3 tyX3 tyX3_ok nmX3 hown hK hP hD hS (Or.inl rfl) 0 rfl rfl 9 (by decide) hfl106 (fun _ h9 => h9) rfl (by decide +kernel) rfl rfl (Nat.le_of_ble_eq_true rfl) (ws' := wR o ps pa pv pn px cI (oM ps pa pv pn px th mn kp (nI len) (nI (1 + i)) (nI 0) (nI 98) wh te dg) (rr f) fa fv fn fx) rfl dX3_readErrand_116 (fun H locs hP hD hS => ?_)
  refine lv_aload_n hx hb dX3_readErrand_119 rfl (lv_at hl 0 rfl) ?_
  refine lv_aload_n hx hb dX3_readErrand_120 rfl (lv_at hl 0 rfl) ?_
  refine lv_bipush (v := nI 48) hx hb dX3_readErrand_121 (by decide) ?_
  refine lv_aload_n hx hb dX3_readErrand_123 rfl (lv_at hl 0 rfl) ?_
  refine va_get (D := D) (ci := 3) (v := .int (nI 98)) (C := RX3) (T := TX3) (N := 15) hx hb hts hi3 hown hK hP 0 rfl rfl 11 (by decide) hfl113 (fun _ h9 => h9) rfl dX3_readErrand_124 ?_
  refine lv_bipush (v := nI 115) hx hb dX3_readErrand_127 (by decide) ?_
  refine q_neN (tgt := 137) hx hb (by omega) (by omega) dX3_readErrand_129 (by decide) (fun c5 => ?_) (fun c5 => absurd c5 (by decide))
  refine lv_bipush (v := nI 50) hx hb dX3_readErrand_137 (by decide) ?_
  refine q_ciF (BH := fun H => va_P D vwCl (wR o ps pa pv pn px cI (oM ps pa pv pn px th mn kp (nI len) (nI (2 + i)) (nI 0) (nI 98) wh te dg) (rr f) fa fv fn fx) H) (va_runV (rm := { frames := 2, cells := 0, slots := 0, locals := 44 }) (As := [.int (nI 48), .int (nI 50)]) (rest := [.ref o]) ⟨hx, hb, hml, hown, hts⟩ (m3_takes_t l D cI o ps pa pv pn px f fa fv fn fx th mn kp (nI 98) wh te dg ch len (1 + i) hlen (by omega) hfx hch 48 50 (by omega) (by omega) h1l h2l h3l hD) (cwV 2 hts gX3_readErrand_X3_takes rfl rfl rfl (by decide +kernel) ⟨Nat.le_of_ble_eq_true rfl, Nat.le_of_ble_eq_true rfl⟩) (q_pV (ci := 3) (q0 := 0) hP hK rfl rfl) rfl rfl hl.1 rfl (lv_room (Nat.le_of_ble_eq_true rfl)) dX3_readErrand_139 ⟨Nat.le_of_ble_eq_true rfl, Nat.le_of_ble_eq_true rfl⟩) (fun t h => (show 2 + i = 1 + (1 + i) by omega) ▸ h) hS (fun _ h => h) (fun x6 H locs e6 hP hS => ?_)
  have hD := q_D2 (ws' := wR o ps pa pv pn px cI (oM ps pa pv pn px th mn kp (nI len) (nI (2 + i)) (nI 0) (nI 98) wh te dg) (rr f) fa fv fn fx) hD rfl
  have e6 : x6 = (nI ((ch (1 + i) - 48))) := e6
  subst e6
  refine q_pt (D := D) (ci := 3) (v := .int (nI ((ch (1 + i) - 48)))) (ty := .int) (C := RX3) (T := TX3) (N := 15) hx hb hts hi3 tyX3 tyX3_ok nmX3 hown hK hP hD hS (Or.inl rfl) 0 rfl rfl 12 (by decide) hfl119 (fun _ h9 => h9) rfl (by decide +kernel) rfl rfl (Nat.le_of_ble_eq_true rfl) (ws' := wR o ps pa pv pn px cI (oM ps pa pv pn px th mn kp (nI len) (nI (2 + i)) (nI 0) (nI 98) (nI ((ch (1 + i) - 48))) te dg) (rr f) fa fv fn fx) rfl dX3_readErrand_142 (fun H locs hP hD hS => ?_)
  refine lv_aload_n hx hb dX3_readErrand_145 rfl (lv_at hl 0 rfl) ?_
  refine va_get (D := D) (ci := 3) (v := .int (nI 98)) (C := RX3) (T := TX3) (N := 15) hx hb hts hi3 hown hK hP 0 rfl rfl 11 (by decide) hfl113 (fun _ h9 => h9) rfl dX3_readErrand_146 ?_
  refine lv_bipush (v := nI 98) hx hb dX3_readErrand_149 (by decide) ?_
  refine q_neN (tgt := 242) hx hb (by omega) (by omega) dX3_readErrand_151 (by decide) (fun c7 => absurd c7 (by decide)) (fun c7 => ?_)
  refine lv_aload_n hx hb dX3_readErrand_154 rfl (lv_at hl 0 rfl) ?_
  refine lv_iconst (v := nI 1) hx hb dX3_readErrand_155 (by decide) ?_
  refine lv_aload_n hx hb dX3_readErrand_156 rfl (lv_at hl 0 rfl) ?_
  refine lv_bipush (v := nI 49) hx hb dX3_readErrand_157 (by decide) ?_
  refine lv_bipush (v := nI 57) hx hb dX3_readErrand_159 (by decide) ?_
  refine q_ciF (BH := fun H => va_P D vwCl (wR o ps pa pv pn px cI (oM ps pa pv pn px th mn kp (nI len) (nI (3 + i)) (nI 0) (nI 98) (nI ((ch (1 + i) - 48))) te dg) (rr f) fa fv fn fx) H) (va_runV (rm := { frames := 2, cells := 0, slots := 0, locals := 44 }) (As := [.int (nI 49), .int (nI 57)]) (rest := [.int (nI 1), .ref o]) ⟨hx, hb, hml, hown, hts⟩ (m3_takes_t l D cI o ps pa pv pn px f fa fv fn fx th mn kp (nI 98) (nI ((ch (1 + i) - 48))) te dg ch len (2 + i) hlen (by omega) hfx hch 49 57 (by omega) (by omega) h4l h5l h6l hD) (cwV 2 hts gX3_readErrand_X3_takes rfl rfl rfl (by decide +kernel) ⟨Nat.le_of_ble_eq_true rfl, Nat.le_of_ble_eq_true rfl⟩) (q_pV (ci := 3) (q0 := 0) hP hK rfl rfl) rfl rfl hl.1 rfl (lv_room (Nat.le_of_ble_eq_true rfl)) dX3_readErrand_161 ⟨Nat.le_of_ble_eq_true rfl, Nat.le_of_ble_eq_true rfl⟩) (fun t h => (show 3 + i = 1 + (2 + i) by omega) ▸ h) hS (fun _ h => h) (fun x8 H locs e8 hP hS => ?_)
  have hD := q_D2 (ws' := wR o ps pa pv pn px cI (oM ps pa pv pn px th mn kp (nI len) (nI (3 + i)) (nI 0) (nI 98) (nI ((ch (1 + i) - 48))) te dg) (rr f) fa fv fn fx) hD rfl
  have e8 : x8 = (nI ((ch (2 + i) - 49))) := e8
  subst e8
  refine q_addN hx hb (1 + (ch (2 + i) - 49)) (by omega) dX3_readErrand_164 ?_
  refine q_pt (D := D) (ci := 3) (v := .int (nI (1 + (ch (2 + i) - 49)))) (ty := .int) (C := RX3) (T := TX3) (N := 15) hx hb hts hi3 tyX3 tyX3_ok nmX3 hown hK hP hD hS (Or.inl rfl) 0 rfl rfl 13 (by decide) hfl122 (fun _ h9 => h9) rfl (by decide +kernel) rfl rfl (Nat.le_of_ble_eq_true rfl) (ws' := wR o ps pa pv pn px cI (oM ps pa pv pn px th mn kp (nI len) (nI (3 + i)) (nI 0) (nI 98) (nI ((ch (1 + i) - 48))) (nI (1 + (ch (2 + i) - 49))) dg) (rr f) fa fv fn fx) rfl dX3_readErrand_165 (fun H locs hP hD hS => ?_)
  have LP : ∀ (n j : Nat) (t : Nat) (H : Heap) (locs : List Loc) (ls : Array Slot), j + n = len → (ht : t ≤ 200) → (hE : d_j ch len n j t = d_j ch len (len - (3 + i)) (3 + i) (1 + (ch (2 + i) - 49))) → (hT : d_t ch len n j t = d_t ch len (len - (3 + i)) (3 + i) (1 + (ch (2 + i) - 49))) → va_P D vwCl (wR o ps pa pv pn px cI (oM ps pa pv pn px th mn kp (nI len) (nI j) (nI 0) (nI 98) (nI ((ch (1 + i) - 48))) (nI t) dg) (rr f) fa fv fn fx) H → va_D (fun _ => True) (wR o ps pa pv pn px cI (oM ps pa pv pn px th mn kp (nI len) (nI j) (nI 0) (nI 98) (nI ((ch (1 + i) - 48))) (nI t) dg) (rr f) fa fv fn fx) → va_S (AM o ps pa pv pn px) s.heap H locs → lv_has ls 1 [(0, .ref o)] → W p l e { frames := 3, cells := 0, slots := 0, locals := 68 } s m args below meth c H locs 0 0 Q (F0 m 168 ls []) := by
    intro n
    induction n with
    | zero =>
      intro j t H locs ls hi ht hE hT hP hD hS hl
      obtain rfl : len = j := by omega
      refine lv_aload_n hx hb dX3_readErrand_168 rfl (lv_at hl 0 rfl) ?_
      refine lv_bipush (v := nI 48) hx hb dX3_readErrand_169 (by decide) ?_
      refine lv_bipush (v := nI 57) hx hb dX3_readErrand_171 (by decide) ?_
      refine q_ciF (BH := fun H => va_P D vwCl (wR o ps pa pv pn px cI (oM ps pa pv pn px th mn kp (nI len) (nI len) (nI 0) (nI 98) (nI ((ch (1 + i) - 48))) (nI t) dg) (rr f) fa fv fn fx) H) (va_runV (rm := { frames := 1, cells := 0, slots := 0, locals := 22 }) (As := [.int (nI 48), .int (nI 57)]) (rest := []) ⟨hx, hb, hml, hown, hts⟩ (m3_isNext_2 l D cI o ps pa pv pn px f fa fv fn fx th mn kp (nI 98) (nI ((ch (1 + i) - 48))) (nI t) dg ch len len hlen (by omega) hfx hch 48 57 (by omega) (by omega) (Nat.le_refl _) hD) (cwV 2 hts gX3_readErrand_X3_isNext rfl rfl rfl (by decide +kernel) ⟨Nat.le_of_ble_eq_true rfl, Nat.le_of_ble_eq_true rfl⟩) (q_pV (ci := 3) (q0 := 0) hP hK rfl rfl) rfl rfl hl.1 rfl (lv_room (Nat.le_of_ble_eq_true rfl)) dX3_readErrand_173 ⟨Nat.le_of_ble_eq_true rfl, Nat.le_of_ble_eq_true rfl⟩) (fun _ h => h) hS (fun _ h => h) (fun x9 H locs e9 hP hS => ?_)
      have e9 : x9 = nI 0 := e9
      subst e9
      refine lv_if_eq (tgt := 242) hx hb dX3_readErrand_176 (by decide) (fun c10 => ?_) (fun c10 => absurd c10 (by decide))
      exact hret _ _ _ _ ((by have hE : len = d_j ch len (len - (3 + i)) (3 + i) (1 + (ch (2 + i) - 49)) := hE; have hT : t = d_t ch len (len - (3 + i)) (3 + i) (1 + (ch (2 + i) - 49)) := hT; rw [← hE, ← hT]; exact hP)) hS dX3_readErrand_242
    | succ n ih =>
      intro j t H locs ls hi ht hE hT hP hD hS hl
      refine lv_aload_n hx hb dX3_readErrand_168 rfl (lv_at hl 0 rfl) ?_
      refine lv_bipush (v := nI 48) hx hb dX3_readErrand_169 (by decide) ?_
      refine lv_bipush (v := nI 57) hx hb dX3_readErrand_171 (by decide) ?_
      by_cases hn : n_ok ch len j false 48 57 = true
      ·
        obtain ⟨-, hj1, hj2, hj3⟩ := n_ok_s hn
        refine q_ciF (BH := fun H => va_P D vwCl (wR o ps pa pv pn px cI (oM ps pa pv pn px th mn kp (nI len) (nI j) (nI 0) (nI 98) (nI ((ch (1 + i) - 48))) (nI t) dg) (rr f) fa fv fn fx) H) (va_runV (rm := { frames := 1, cells := 0, slots := 0, locals := 22 }) (As := [.int (nI 48), .int (nI 57)]) (rest := []) ⟨hx, hb, hml, hown, hts⟩ (m3_isNext_t l D cI o ps pa pv pn px f fa fv fn fx th mn kp (nI 98) (nI ((ch (1 + i) - 48))) (nI t) dg ch len j hlen (by omega) hfx hch 48 57 (by omega) (by omega) hj1 hj2 hj3 hD) (cwV 2 hts gX3_readErrand_X3_isNext rfl rfl rfl (by decide +kernel) ⟨Nat.le_of_ble_eq_true rfl, Nat.le_of_ble_eq_true rfl⟩) (q_pV (ci := 3) (q0 := 0) hP hK rfl rfl) rfl rfl hl.1 rfl (lv_room (Nat.le_of_ble_eq_true rfl)) dX3_readErrand_173 ⟨Nat.le_of_ble_eq_true rfl, Nat.le_of_ble_eq_true rfl⟩) (fun _ h => h) hS (fun _ h => h) (fun x11 H locs e11 hP hS => ?_)
        have e11 : x11 = nI 1 := e11
        subst e11
        refine lv_if_eq (tgt := 242) hx hb dX3_readErrand_176 (by decide) (fun c12 => absurd c12 (by decide)) (fun c12 => ?_)
        refine lv_bipush (v := nI 10) hx hb dX3_readErrand_179 (by decide) ?_
        refine lv_aload_n hx hb dX3_readErrand_181 rfl (lv_at hl 0 rfl) ?_
        refine va_get (D := D) (ci := 3) (v := .int (nI t)) (C := RX3) (T := TX3) (N := 15) hx hb hts hi3 hown hK hP 0 rfl rfl 13 (by decide) hfl122 (fun _ h9 => h9) rfl dX3_readErrand_182 ?_
        refine q_mulN hx hb (10 * t) (by omega) dX3_readErrand_185 ?_
        refine lv_aload_n hx hb dX3_readErrand_186 rfl (lv_at hl 0 rfl) ?_
        refine va_get (D := D) (ci := 3) (v := .ref px) (C := RX3) (T := TX3) (N := 15) hx hb hts hi3 hown hK hP 0 rfl rfl 7 (by decide) hfl22 (fun _ h9 => h9) rfl dX3_readErrand_187 ?_
        refine lv_aload_n hx hb dX3_readErrand_190 rfl (lv_at hl 0 rfl) ?_
        refine va_get (D := D) (ci := 3) (v := .int (nI j)) (C := RX3) (T := TX3) (N := 15) hx hb hts hi3 hown hK hP 0 rfl rfl 9 (by decide) hfl106 (fun _ h9 => h9) rfl dX3_readErrand_191 ?_
        refine q_ld hx hb hK hP 5 0 rfl rfl (j := j) (v := (nI ((ch j)))) (by omega) (by omega) (hfx _ (by omega)) dX3_readErrand_194 ?_
        refine q_addN hx hb (10 * t + (ch j)) (by omega) dX3_readErrand_195 ?_
        refine lv_bipush (v := nI 48) hx hb dX3_readErrand_196 (by decide) ?_
        refine q_subN hx hb (10 * t + (ch j - 48)) (by omega) dX3_readErrand_198 ?_
        refine lv_sipush (v := nI 200) hx hb dX3_readErrand_199 (by decide) ?_
        refine q_gtN (tgt := 242) hx hb (by omega) (by omega) dX3_readErrand_202 (by decide) (fun c13 => ?_) (fun c13 => ?_)
        ·
          exact hret _ _ _ _ ((by have hd : d_c ch len j t = false := (by unfold d_c; rw [hn, decide_eq_false (show ¬ 10 * t + (ch j - 48) ≤ 200 by omega)]; rfl); have hE : j = d_j ch len (len - (3 + i)) (3 + i) (1 + (ch (2 + i) - 49)) := (by rw [← hE]; show _ = (if d_c ch len j t then _ else _); rw [hd]; rfl); have hT : t = d_t ch len (len - (3 + i)) (3 + i) (1 + (ch (2 + i) - 49)) := (by rw [← hT]; show _ = (if d_c ch len j t then _ else _); rw [hd]; rfl); rw [← hE, ← hT]; exact hP)) hS dX3_readErrand_242
        ·
          refine lv_aload_n hx hb dX3_readErrand_205 rfl (lv_at hl 0 rfl) ?_
          refine lv_bipush (v := nI 10) hx hb dX3_readErrand_206 (by decide) ?_
          refine lv_aload_n hx hb dX3_readErrand_208 rfl (lv_at hl 0 rfl) ?_
          refine va_get (D := D) (ci := 3) (v := .int (nI t)) (C := RX3) (T := TX3) (N := 15) hx hb hts hi3 hown hK hP 0 rfl rfl 13 (by decide) hfl122 (fun _ h9 => h9) rfl dX3_readErrand_209 ?_
          refine q_mulN hx hb (10 * t) (by omega) dX3_readErrand_212 ?_
          refine lv_aload_n hx hb dX3_readErrand_213 rfl (lv_at hl 0 rfl) ?_
          refine va_get (D := D) (ci := 3) (v := .ref px) (C := RX3) (T := TX3) (N := 15) hx hb hts hi3 hown hK hP 0 rfl rfl 7 (by decide) hfl22 (fun _ h9 => h9) rfl dX3_readErrand_214 ?_
          refine lv_aload_n hx hb dX3_readErrand_217 rfl (lv_at hl 0 rfl) ?_
          refine va_get (D := D) (ci := 3) (v := .int (nI j)) (C := RX3) (T := TX3) (N := 15) hx hb hts hi3 hown hK hP 0 rfl rfl 9 (by decide) hfl106 (fun _ h9 => h9) rfl dX3_readErrand_218 ?_
          refine q_ld hx hb hK hP 5 0 rfl rfl (j := j) (v := (nI ((ch j)))) (by omega) (by omega) (hfx _ (by omega)) dX3_readErrand_221 ?_
          refine q_addN hx hb (10 * t + (ch j)) (by omega) dX3_readErrand_222 ?_
          refine lv_bipush (v := nI 48) hx hb dX3_readErrand_223 (by decide) ?_
          refine q_subN hx hb (10 * t + (ch j - 48)) (by omega) dX3_readErrand_225 ?_
          refine q_pt (D := D) (ci := 3) (v := .int (nI (10 * t + (ch j - 48)))) (ty := .int) (C := RX3) (T := TX3) (N := 15) hx hb hts hi3 tyX3 tyX3_ok nmX3 hown hK hP hD hS (Or.inl rfl) 0 rfl rfl 13 (by decide) hfl122 (fun _ h9 => h9) rfl (by decide +kernel) rfl rfl (Nat.le_of_ble_eq_true rfl) (ws' := wR o ps pa pv pn px cI (oM ps pa pv pn px th mn kp (nI len) (nI j) (nI 0) (nI 98) (nI ((ch (1 + i) - 48))) (nI (10 * t + (ch j - 48))) dg) (rr f) fa fv fn fx) rfl dX3_readErrand_226 (fun H locs hP hD hS => ?_)
          refine lv_aload_n hx hb dX3_readErrand_229 rfl (lv_at hl 0 rfl) ?_
          refine lv_dup hx hb dX3_readErrand_230 rfl ?_
          refine va_get (D := D) (ci := 3) (v := .int (nI j)) (C := RX3) (T := TX3) (N := 15) hx hb hts hi3 hown hK hP 0 rfl rfl 9 (by decide) hfl106 (fun _ h9 => h9) rfl dX3_readErrand_231 ?_
          refine lv_iconst (v := nI 1) hx hb dX3_readErrand_234 (by decide) ?_
          refine q_addN hx hb (1 + j) (by omega) dX3_readErrand_235 ?_
          refine q_pt (D := D) (ci := 3) (v := .int (nI (1 + j))) (ty := .int) (C := RX3) (T := TX3) (N := 15) hx hb hts hi3 tyX3 tyX3_ok nmX3 hown hK hP hD hS (Or.inl rfl) 0 rfl rfl 9 (by decide) hfl106 (fun _ h9 => h9) rfl (by decide +kernel) rfl rfl (Nat.le_of_ble_eq_true rfl) (ws' := wR o ps pa pv pn px cI (oM ps pa pv pn px th mn kp (nI len) (nI (1 + j)) (nI 0) (nI 98) (nI ((ch (1 + i) - 48))) (nI (10 * t + (ch j - 48))) dg) (rr f) fa fv fn fx) rfl dX3_readErrand_236 (fun H locs hP hD hS => ?_)
          refine lv_goto (tgt := 168) hx hb dX3_readErrand_239 (by decide) ?_
          have hd : d_c ch len j t = true := by unfold d_c; rw [hn, decide_eq_true (show 10 * t + (ch j - 48) ≤ 200 by omega)]; rfl
          have hE : d_j ch len n (j + 1) (10 * t + (ch j - 48)) = d_j ch len (len - (3 + i)) (3 + i) (1 + (ch (2 + i) - 49)) := by rw [← hE]; show _ = (if d_c ch len j t then _ else _); rw [if_pos hd]
          have hT : d_t ch len n (j + 1) (10 * t + (ch j - 48)) = d_t ch len (len - (3 + i)) (3 + i) (1 + (ch (2 + i) - 49)) := by rw [← hT]; show _ = (if d_c ch len j t then _ else _); rw [if_pos hd]
          exact ih (j + 1) (10 * t + (ch j - 48)) _ _ _ (by omega) (by omega) hE hT ((show 1 + j = j + 1 by omega) ▸ hP) ((show 1 + j = j + 1 by omega) ▸ hD) hS (lv_sub hl [0] rfl)
      ·
        have hn : n_ok ch len j false 48 57 = false := by simpa using hn
        refine q_ciF (BH := fun H => va_P D vwCl (wR o ps pa pv pn px cI (oM ps pa pv pn px th mn kp (nI len) (nI j) (nI 0) (nI 98) (nI ((ch (1 + i) - 48))) (nI t) dg) (rr f) fa fv fn fx) H) (va_runV (rm := { frames := 1, cells := 0, slots := 0, locals := 22 }) (As := [.int (nI 48), .int (nI 57)]) (rest := []) ⟨hx, hb, hml, hown, hts⟩ (m3_isNext l D cI o ps pa pv pn px f fa fv fn fx th mn kp (nI 98) (nI ((ch (1 + i) - 48))) (nI t) dg ch len j hlen (by omega) hfx hch 48 57 (by omega) (by omega) false hD) (cwV 2 hts gX3_readErrand_X3_isNext rfl rfl rfl (by decide +kernel) ⟨Nat.le_of_ble_eq_true rfl, Nat.le_of_ble_eq_true rfl⟩) (q_pV (ci := 3) (q0 := 0) hP hK rfl rfl) rfl rfl hl.1 rfl (lv_room (Nat.le_of_ble_eq_true rfl)) dX3_readErrand_173 ⟨Nat.le_of_ble_eq_true rfl, Nat.le_of_ble_eq_true rfl⟩) (fun _ h => h) hS (fun _ h => h) (fun x14 H locs e14 hP hS => ?_)
        have e14 : x14 = nI 0 := by
          have h9 : x14 = p_b (n_ok ch len j false 48 57) := e14
          rw [h9, hn]
          rfl
        subst e14
        refine lv_if_eq (tgt := 242) hx hb dX3_readErrand_176 (by decide) (fun c15 => ?_) (fun c15 => absurd c15 (by decide))
        exact hret _ _ _ _ ((by have hd : d_c ch len j t = false := (by unfold d_c; rw [hn]; rfl); have hE : j = d_j ch len (len - (3 + i)) (3 + i) (1 + (ch (2 + i) - 49)) := (by rw [← hE]; show _ = (if d_c ch len j t then _ else _); rw [hd]; rfl); have hT : t = d_t ch len (len - (3 + i)) (3 + i) (1 + (ch (2 + i) - 49)) := (by rw [← hT]; show _ = (if d_c ch len j t then _ else _); rw [hd]; rfl); rw [← hE, ← hT]; exact hP)) hS dX3_readErrand_242
  exact LP (len - (3 + i)) (3 + i) (1 + (ch (2 + i) - 49)) _ _ _ (by omega) (by omega) rfl rfl hP hD hS (lv_sub hl [0] rfl)
