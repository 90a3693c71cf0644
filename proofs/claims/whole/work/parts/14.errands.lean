set_option maxHeartbeats 4000000 in
set_option maxRecDepth 100000 in
theorem m0_restart (l : Launch) (D : va_G) (cI : ClassId) (eo sg len : Nat) (S : PS) (ch : Nat → Nat) (hne : eo ≠ sg) : q_V l yX0_restart wsX0_restart { frames := 0, cells := 0, slots := 0, locals := 0 } [.ref eo] (q_bp D (wE eo sg cI len S ch) [(cI, .int)]) (fun H => va_at D vwCl (eo, oE sg len ((0, S.2))) H) (fun q => q = eo) 0 0 := by
  refine q_goV (cc := cX0_restart) (maxL := 1) (lv0 := [(0, .ref eo)]) (by decide) rfl (Nat.le_of_ble_eq_true rfl) rfl ?_
  intro p e s m args below meth c Q ls hx hb hml hts hown hP hK hl hret hnm
  have hi0 : ∀ w ∈ wsX00, w ∈ wsX0_restart := by decide +kernel
  have hfl19 := hts (.fieldLink RX0 19 "WhisperedPots$Errands" "at" "I") (by decide +kernel)
  have hS : va_S (fun q => q = eo) s.heap s.heap [] := va_S.rf
  have hD : va_D (fun _ => True) (wE eo sg cI len S ch) := q_dT hne
  refine lv_aload_n hx hb dX0_restart_0 rfl (lv_at hl 0 rfl) ?_
  refine lv_iconst (v := nI 0) hx hb dX0_restart_1 (by decide) ?_
  refine q_pt (D := D) (ci := 0) (v := .int (nI 0)) (ty := .int) (C := RX0) (T := TX0) (N := 6) hx hb hts hi0 tyX0 tyX0_ok nmX0 hown hK hP hD hS rfl 0 rfl rfl 2 (by decide) hfl19 (fun _ h9 => h9) rfl (by decide +kernel) rfl rfl (Nat.le_of_ble_eq_true rfl) (ws' := wE eo sg cI len (0, (S.2.1), (S.2.2.1), (S.2.2.2)) ch) rfl dX0_restart_2 (fun H locs hP hD hS => ?_)
  exact hret _ _ _ _ (hP 0 _ rfl) hS dX0_restart_5
set_option maxHeartbeats 4000000 in
set_option maxRecDepth 100000 in
theorem m0_readSeparator (l : Launch) (D : va_G) (cI : ClassId) (eo sg len cx : Nat) (S : PS) (ch : Nat → Nat) (hc : cx < 128) (hS0 : p_sm S) (hne : eo ≠ sg) : q_I l yX0_readSeparator wsX0_readSeparator { frames := 0, cells := 0, slots := 0, locals := 0 } [.ref eo, .int (nI cx)] (q_bp D (wE eo sg cI len S ch) [(cI, .int)]) (fun v => v = p_b (p_okS cx S)) (fun H => va_at D vwCl (eo, oE sg len (p_nxS cx S)) H) (fun q => q = eo) 0 0 := by
  refine q_goI (cc := cX0_readSeparator) (maxL := 2) (ty := .boolean) (lv0 := [(0, .ref eo), (1, .int (nI cx))]) (by decide) rfl (Nat.le_of_ble_eq_true rfl) rfl ?_
  intro p e s m args below meth c Q ls hx hb hml hts hown hP hK hl hret
  have hi0 : ∀ w ∈ wsX00, w ∈ wsX0_readSeparator := by decide +kernel
  have hfl19 := hts (.fieldLink RX0 19 "WhisperedPots$Errands" "at" "I") (by decide +kernel)
  have hS : va_S (fun q => q = eo) s.heap s.heap [] := va_S.rf
  have hD : va_D (fun _ => True) (wE eo sg cI len S ch) := q_dT hne
  obtain ⟨h31, h32, h33, h34⟩ := hS0
  refine lv_iload_n hx hb dX0_readSeparator_0 rfl (lv_at hl 1 rfl) ?_
  refine lv_bipush (v := nI 59) hx hb dX0_readSeparator_1 (by decide) ?_
  refine q_eqN (tgt := 8) hx hb (by omega) (by omega) dX0_readSeparator_3 (by decide) (fun c1 => ?_) (fun c1 => ?_)
  ·
    refine lv_aload_n hx hb dX0_readSeparator_8 rfl (lv_at hl 0 rfl) ?_
    refine lv_iconst (v := nI 0) hx hb dX0_readSeparator_9 (by decide) ?_
    refine q_pt (D := D) (ci := 0) (v := .int (nI 0)) (ty := .int) (C := RX0) (T := TX0) (N := 6) hx hb hts hi0 tyX0 tyX0_ok nmX0 hown hK hP hD hS rfl 0 rfl rfl 2 (by decide) hfl19 (fun _ h9 => h9) rfl (by decide +kernel) rfl rfl (Nat.le_of_ble_eq_true rfl) (ws' := wE eo sg cI len (0, (S.2.1), (S.2.2.1), (S.2.2.2)) ch) rfl dX0_readSeparator_10 (fun H locs hP hD hS => ?_)
    refine lv_iconst (v := nI 1) hx hb dX0_readSeparator_13 (by decide) ?_
    have hE : oE sg len (0, (S.2.1), (S.2.2.1), (S.2.2.2)) = oE sg len (p_nxS cx S) := by
      simp [p_b, p_okS, p_nxS, c1]
    refine hret _ _ _ _ _ (by first | rfl | decide) ?_ (by rw [← hE]; exact hP 0 _ rfl) hS dX0_readSeparator_14
    simp [p_b, p_okS, p_nxS, c1]
  ·
    refine lv_iconst (v := nI 0) hx hb dX0_readSeparator_6 (by decide) ?_
    have hE : oE sg len S = oE sg len (p_nxS cx S) := by
      simp [p_b, p_okS, p_nxS, c1]
    refine hret _ _ _ _ _ (by first | rfl | decide) ?_ (by rw [← hE]; exact hP 0 _ rfl) hS dX0_readSeparator_7
    simp [p_b, p_okS, p_nxS, c1]
set_option maxHeartbeats 4000000 in
set_option maxRecDepth 100000 in
theorem m0_readLetter (l : Launch) (D : va_G) (cI : ClassId) (eo sg len cx : Nat) (S : PS) (ch : Nat → Nat) (hc : cx < 128) (hS0 : p_sm S) (hne : eo ≠ sg) : q_I l yX0_readLetter wsX0_readLetter { frames := 0, cells := 0, slots := 0, locals := 0 } [.ref eo, .int (nI cx)] (q_bp D (wE eo sg cI len S ch) [(cI, .int)]) (fun v => v = p_b (p_okL cx S)) (fun H => va_at D vwCl (eo, oE sg len (p_nxL cx S)) H) (fun q => q = eo) 0 0 := by
  refine q_goI (cc := cX0_readLetter) (maxL := 2) (ty := .boolean) (lv0 := [(0, .ref eo), (1, .int (nI cx))]) (by decide) rfl (Nat.le_of_ble_eq_true rfl) rfl ?_
  intro p e s m args below meth c Q ls hx hb hml hts hown hP hK hl hret
  have hi0 : ∀ w ∈ wsX00, w ∈ wsX0_readLetter := by decide +kernel
  have hfl22 := hts (.fieldLink RX0 22 "WhisperedPots$Errands" "letter" "I") (by decide +kernel)
  have hfl28 := hts (.fieldLink RX0 28 "WhisperedPots$Errands" "tea" "I") (by decide +kernel)
  have hfl19 := hts (.fieldLink RX0 19 "WhisperedPots$Errands" "at" "I") (by decide +kernel)
  have hS : va_S (fun q => q = eo) s.heap s.heap [] := va_S.rf
  have hD : va_D (fun _ => True) (wE eo sg cI len S ch) := q_dT hne
  obtain ⟨h31, h32, h33, h34⟩ := hS0
  refine lv_iload_n hx hb dX0_readLetter_0 rfl (lv_at hl 1 rfl) ?_
  by_cases hq : p_let cx = true
  ·
    refine q_ts (tgt := 88) (off := 87) hx hb (by omega) dX0_readLetter_1 rfl (q_let1 hq) (by decide) ?_
    refine lv_aload_n hx hb dX0_readLetter_88 rfl (lv_at hl 0 rfl) ?_
    refine lv_iload_n hx hb dX0_readLetter_89 rfl (lv_at hl 1 rfl) ?_
    refine q_pt (D := D) (ci := 0) (v := .int (nI cx)) (ty := .int) (C := RX0) (T := TX0) (N := 6) hx hb hts hi0 tyX0 tyX0_ok nmX0 hown hK hP hD hS rfl 0 rfl rfl 3 (by decide) hfl22 (fun _ h9 => h9) rfl (by decide +kernel) rfl rfl (Nat.le_of_ble_eq_true rfl) (ws' := wE eo sg cI len ((S.1), cx, (S.2.2.1), (S.2.2.2)) ch) rfl dX0_readLetter_90 (fun H locs hP hD hS => ?_)
    refine lv_aload_n hx hb dX0_readLetter_93 rfl (lv_at hl 0 rfl) ?_
    refine lv_iconst (v := nI 0) hx hb dX0_readLetter_94 (by decide) ?_
    refine q_pt (D := D) (ci := 0) (v := .int (nI 0)) (ty := .int) (C := RX0) (T := TX0) (N := 6) hx hb hts hi0 tyX0 tyX0_ok nmX0 hown hK hP hD hS rfl 0 rfl rfl 5 (by decide) hfl28 (fun _ h9 => h9) rfl (by decide +kernel) rfl rfl (Nat.le_of_ble_eq_true rfl) (ws' := wE eo sg cI len ((S.1), cx, (S.2.2.1), 0) ch) rfl dX0_readLetter_95 (fun H locs hP hD hS => ?_)
    refine lv_aload_n hx hb dX0_readLetter_98 rfl (lv_at hl 0 rfl) ?_
    refine lv_iconst (v := nI 1) hx hb dX0_readLetter_99 (by decide) ?_
    refine q_pt (D := D) (ci := 0) (v := .int (nI 1)) (ty := .int) (C := RX0) (T := TX0) (N := 6) hx hb hts hi0 tyX0 tyX0_ok nmX0 hown hK hP hD hS rfl 0 rfl rfl 2 (by decide) hfl19 (fun _ h9 => h9) rfl (by decide +kernel) rfl rfl (Nat.le_of_ble_eq_true rfl) (ws' := wE eo sg cI len (1, cx, (S.2.2.1), 0) ch) rfl dX0_readLetter_100 (fun H locs hP hD hS => ?_)
    refine lv_iconst (v := nI 1) hx hb dX0_readLetter_103 (by decide) ?_
    have hE : oE sg len (1, cx, (S.2.2.1), 0) = oE sg len (p_nxL cx S) := by
      first | simp [p_b, p_okL, p_nxL, hq] | simp [p_b, p_okL, p_nxL, hq2]
    refine hret _ _ _ _ _ (by first | rfl | decide) ?_ (by rw [← hE]; exact hP 0 _ rfl) hS dX0_readLetter_104
    first | simp [p_b, p_okL, p_nxL, hq] | simp [p_b, p_okL, p_nxL, hq2]
  ·
    have hq2 : p_let cx = false := by simpa using hq
    refine q_ts (tgt := 105) (off := 104) hx hb (by omega) dX0_readLetter_1 rfl (q_let0 hq2) (by decide) ?_
    refine lv_iconst (v := nI 0) hx hb dX0_readLetter_105 (by decide) ?_
    have hE : oE sg len S = oE sg len (p_nxL cx S) := by
      first | simp [p_b, p_okL, p_nxL, hq] | simp [p_b, p_okL, p_nxL, hq2]
    refine hret _ _ _ _ _ (by first | rfl | decide) ?_ (by rw [← hE]; exact hP 0 _ rfl) hS dX0_readLetter_106
    first | simp [p_b, p_okL, p_nxL, hq] | simp [p_b, p_okL, p_nxL, hq2]
set_option maxHeartbeats 4000000 in
set_option maxRecDepth 100000 in
theorem m0_readPlace (l : Launch) (D : va_G) (cI : ClassId) (eo sg len cx : Nat) (S : PS) (ch : Nat → Nat) (hc : cx < 128) (hS0 : p_sm S) (hne : eo ≠ sg) : q_I l yX0_readPlace wsX0_readPlace { frames := 0, cells := 0, slots := 0, locals := 0 } [.ref eo, .int (nI cx)] (q_bp D (wE eo sg cI len S ch) [(cI, .int)]) (fun v => v = p_b (p_okP cx S)) (fun H => va_at D vwCl (eo, oE sg len (p_nxP cx S)) H) (fun q => q = eo) 0 0 := by
  refine q_goI (cc := cX0_readPlace) (maxL := 4) (ty := .boolean) (lv0 := [(0, .ref eo), (1, .int (nI cx))]) (by decide) rfl (Nat.le_of_ble_eq_true rfl) rfl ?_
  intro p e s m args below meth c Q ls hx hb hml hts hown hP hK hl hret
  have hi0 : ∀ w ∈ wsX00, w ∈ wsX0_readPlace := by decide +kernel
  have hfl22 := hts (.fieldLink RX0 22 "WhisperedPots$Errands" "letter" "I") (by decide +kernel)
  have hfl25 := hts (.fieldLink RX0 25 "WhisperedPots$Errands" "place" "I") (by decide +kernel)
  have hfl19 := hts (.fieldLink RX0 19 "WhisperedPots$Errands" "at" "I") (by decide +kernel)
  have hS : va_S (fun q => q = eo) s.heap s.heap [] := va_S.rf
  have hD : va_D (fun _ => True) (wE eo sg cI len S ch) := q_dT hne
  obtain ⟨h31, h32, h33, h34⟩ := hS0
  refine lv_iload_n hx hb dX0_readPlace_0 rfl (lv_at hl 1 rfl) ?_
  refine lv_bipush (v := nI 48) hx hb dX0_readPlace_1 (by decide) ?_
  rcases Nat.lt_or_ge cx 48 with h48 | h48
  ·
    refine lv_isub hx hb dX0_readPlace_3 ?_
    have hneg : (nI cx - nI 48 : Int32) < 0 := pk_sneg (by omega) h48
    refine lv_istore_n (lv' := [(2, .int (nI cx - nI 48)), (0, .ref eo), (1, .int (nI cx))]) hx hb dX0_readPlace_4 rfl hl (by decide) rfl (fun ls hl => ?_)
    refine lv_aload_n hx hb dX0_readPlace_5 rfl (lv_at hl 1 rfl) ?_
    refine va_get (D := D) (ci := 0) (v := .int (nI ((S.2.1)))) (C := RX0) (T := TX0) (N := 6) hx hb hts hi0 hown hK hP 0 rfl rfl 3 (by decide) hfl22 (fun _ h9 => h9) rfl dX0_readPlace_6 ?_
    refine lv_bipush (v := nI 115) hx hb dX0_readPlace_9 (by decide) ?_
    refine q_neN (tgt := 19) hx hb (by omega) (by omega) dX0_readPlace_11 (by decide) (fun c1 => ?_) (fun c1 => ?_)
    ·
      refine lv_iconst (v := nI 3) hx hb dX0_readPlace_19 (by decide) ?_
      refine lv_istore_n (lv' := [(3, .int (nI 3)), (2, .int (nI cx - nI 48)), (0, .ref eo), (1, .int (nI cx))]) hx hb dX0_readPlace_20 rfl hl (by decide) rfl (fun ls hl => ?_)
      refine lv_iload_n hx hb dX0_readPlace_21 rfl (lv_at hl 1 rfl) ?_
      refine lv_if_lt (tgt := 30) hx hb dX0_readPlace_22 (by decide) (fun c2 => ?_) (fun c2 => absurd c2 (fun z => z hneg))
      refine lv_iconst (v := nI 0) hx hb dX0_readPlace_30 (by decide) ?_
      have hE : oE sg len S = oE sg len (p_nxP cx S) := by
        have hm : p_many S.2.1 = 3 := by
          unfold p_many
          rw [if_neg c1]
        have ho : p_okP cx S = false := by
          show (decide (48 ≤ cx) && decide (cx - 48 < p_many S.2.1)) = _
          rw [hm]
          simp only [Bool.and_eq_true, Bool.and_eq_false_iff, decide_eq_true_eq, decide_eq_false_iff_not]
          omega
        first | (simp [p_b, p_nxP, ho, c1]; done) | (exfalso; omega)
      refine hret _ _ _ _ _ (by first | rfl | decide) ?_ (by rw [← hE]; exact hP 0 _ rfl) hS dX0_readPlace_31
      have hm : p_many S.2.1 = 3 := by
        unfold p_many
        rw [if_neg c1]
      have ho : p_okP cx S = false := by
        show (decide (48 ≤ cx) && decide (cx - 48 < p_many S.2.1)) = _
        rw [hm]
        simp only [Bool.and_eq_true, Bool.and_eq_false_iff, decide_eq_true_eq, decide_eq_false_iff_not]
        omega
      first | (simp [p_b, p_nxP, ho, c1]; done) | (exfalso; omega)
    ·
      refine lv_bipush (v := nI 8) hx hb dX0_readPlace_14 (by decide) ?_
      refine lv_goto (tgt := 20) hx hb dX0_readPlace_16 (by decide) ?_
      refine lv_istore_n (lv' := [(3, .int (nI 8)), (2, .int (nI cx - nI 48)), (0, .ref eo), (1, .int (nI cx))]) hx hb dX0_readPlace_20 rfl hl (by decide) rfl (fun ls hl => ?_)
      refine lv_iload_n hx hb dX0_readPlace_21 rfl (lv_at hl 1 rfl) ?_
      refine lv_if_lt (tgt := 30) hx hb dX0_readPlace_22 (by decide) (fun c3 => ?_) (fun c3 => absurd c3 (fun z => z hneg))
      refine lv_iconst (v := nI 0) hx hb dX0_readPlace_30 (by decide) ?_
      have hE : oE sg len S = oE sg len (p_nxP cx S) := by
        have hm : p_many S.2.1 = 8 := by
          unfold p_many
          rw [if_pos c1]
        have ho : p_okP cx S = false := by
          show (decide (48 ≤ cx) && decide (cx - 48 < p_many S.2.1)) = _
          rw [hm]
          simp only [Bool.and_eq_true, Bool.and_eq_false_iff, decide_eq_true_eq, decide_eq_false_iff_not]
          omega
        first | (simp [p_b, p_nxP, ho, c1]; done) | (exfalso; omega)
      refine hret _ _ _ _ _ (by first | rfl | decide) ?_ (by rw [← hE]; exact hP 0 _ rfl) hS dX0_readPlace_31
      have hm : p_many S.2.1 = 8 := by
        unfold p_many
        rw [if_pos c1]
      have ho : p_okP cx S = false := by
        show (decide (48 ≤ cx) && decide (cx - 48 < p_many S.2.1)) = _
        rw [hm]
        simp only [Bool.and_eq_true, Bool.and_eq_false_iff, decide_eq_true_eq, decide_eq_false_iff_not]
        omega
      first | (simp [p_b, p_nxP, ho, c1]; done) | (exfalso; omega)
  ·
    refine q_subN hx hb (cx - 48) (by omega) dX0_readPlace_3 ?_
    refine lv_istore_n (lv' := [(2, .int (nI ((cx - 48)))), (0, .ref eo), (1, .int (nI cx))]) hx hb dX0_readPlace_4 rfl hl (by decide) rfl (fun ls hl => ?_)
    refine lv_aload_n hx hb dX0_readPlace_5 rfl (lv_at hl 1 rfl) ?_
    refine va_get (D := D) (ci := 0) (v := .int (nI ((S.2.1)))) (C := RX0) (T := TX0) (N := 6) hx hb hts hi0 hown hK hP 0 rfl rfl 3 (by decide) hfl22 (fun _ h9 => h9) rfl dX0_readPlace_6 ?_
    refine lv_bipush (v := nI 115) hx hb dX0_readPlace_9 (by decide) ?_
    refine q_neN (tgt := 19) hx hb (by omega) (by omega) dX0_readPlace_11 (by decide) (fun c4 => ?_) (fun c4 => ?_)
    ·
      refine lv_iconst (v := nI 3) hx hb dX0_readPlace_19 (by decide) ?_
      refine lv_istore_n (lv' := [(3, .int (nI 3)), (2, .int (nI ((cx - 48)))), (0, .ref eo), (1, .int (nI cx))]) hx hb dX0_readPlace_20 rfl hl (by decide) rfl (fun ls hl => ?_)
      refine lv_iload_n hx hb dX0_readPlace_21 rfl (lv_at hl 1 rfl) ?_
      refine lv_if_lt (tgt := 30) hx hb dX0_readPlace_22 (by decide) (fun c5 => absurd c5 (nI_pos (by omega))) (fun c5 => ?_)
      refine lv_iload_n hx hb dX0_readPlace_25 rfl (lv_at hl 1 rfl) ?_
      refine lv_iload_n hx hb dX0_readPlace_26 rfl (lv_at hl 0 rfl) ?_
      refine q_ltN (tgt := 32) hx hb (by omega) (by omega) dX0_readPlace_27 (by decide) (fun c6 => ?_) (fun c6 => ?_)
      ·
        refine lv_aload_n hx hb dX0_readPlace_32 rfl (lv_at hl 2 rfl) ?_
        refine lv_iload_n hx hb dX0_readPlace_33 rfl (lv_at hl 1 rfl) ?_
        refine q_pt (D := D) (ci := 0) (v := .int (nI ((cx - 48)))) (ty := .int) (C := RX0) (T := TX0) (N := 6) hx hb hts hi0 tyX0 tyX0_ok nmX0 hown hK hP hD hS rfl 0 rfl rfl 4 (by decide) hfl25 (fun _ h9 => h9) rfl (by decide +kernel) rfl rfl (Nat.le_of_ble_eq_true rfl) (ws' := wE eo sg cI len ((S.1), (S.2.1), (cx - 48), (S.2.2.2)) ch) rfl dX0_readPlace_34 (fun H locs hP hD hS => ?_)
        refine lv_aload_n hx hb dX0_readPlace_37 rfl (lv_at hl 2 rfl) ?_
        refine lv_aload_n hx hb dX0_readPlace_38 rfl (lv_at hl 2 rfl) ?_
        refine va_get (D := D) (ci := 0) (v := .int (nI ((S.2.1)))) (C := RX0) (T := TX0) (N := 6) hx hb hts hi0 hown hK hP 0 rfl rfl 3 (by decide) hfl22 (fun _ h9 => h9) rfl dX0_readPlace_39 ?_
        refine lv_bipush (v := nI 98) hx hb dX0_readPlace_42 (by decide) ?_
        refine q_neN (tgt := 51) hx hb (by omega) (by omega) dX0_readPlace_44 (by decide) (fun c7 => ?_) (fun c7 => ?_)
        ·
          refine lv_iconst (v := nI 3) hx hb dX0_readPlace_51 (by decide) ?_
          refine q_pt (D := D) (ci := 0) (v := .int (nI 3)) (ty := .int) (C := RX0) (T := TX0) (N := 6) hx hb hts hi0 tyX0 tyX0_ok nmX0 hown hK hP hD hS rfl 0 rfl rfl 2 (by decide) hfl19 (fun _ h9 => h9) rfl (by decide +kernel) rfl rfl (Nat.le_of_ble_eq_true rfl) (ws' := wE eo sg cI len (3, (S.2.1), (cx - 48), (S.2.2.2)) ch) rfl dX0_readPlace_52 (fun H locs hP hD hS => ?_)
          refine lv_iconst (v := nI 1) hx hb dX0_readPlace_55 (by decide) ?_
          have hE : oE sg len (3, (S.2.1), (cx - 48), (S.2.2.2)) = oE sg len (p_nxP cx S) := by
            have hm : p_many S.2.1 = 3 := by
              unfold p_many
              rw [if_neg c4]
            have ho : p_okP cx S = true := by
              show (decide (48 ≤ cx) && decide (cx - 48 < p_many S.2.1)) = _
              rw [hm]
              simp only [Bool.and_eq_true, Bool.and_eq_false_iff, decide_eq_true_eq, decide_eq_false_iff_not]
              omega
            first | (simp [p_b, p_nxP, ho, c4, c6, c7]; done) | (exfalso; omega)
          refine hret _ _ _ _ _ (by first | rfl | decide) ?_ (by rw [← hE]; exact hP 0 _ rfl) hS dX0_readPlace_56
          have hm : p_many S.2.1 = 3 := by
            unfold p_many
            rw [if_neg c4]
          have ho : p_okP cx S = true := by
            show (decide (48 ≤ cx) && decide (cx - 48 < p_many S.2.1)) = _
            rw [hm]
            simp only [Bool.and_eq_true, Bool.and_eq_false_iff, decide_eq_true_eq, decide_eq_false_iff_not]
            omega
          first | (simp [p_b, p_nxP, ho, c4, c6, c7]; done) | (exfalso; omega)
        ·
          refine lv_iconst (v := nI 2) hx hb dX0_readPlace_47 (by decide) ?_
          refine lv_goto (tgt := 52) hx hb dX0_readPlace_48 (by decide) ?_
          refine q_pt (D := D) (ci := 0) (v := .int (nI 2)) (ty := .int) (C := RX0) (T := TX0) (N := 6) hx hb hts hi0 tyX0 tyX0_ok nmX0 hown hK hP hD hS rfl 0 rfl rfl 2 (by decide) hfl19 (fun _ h9 => h9) rfl (by decide +kernel) rfl rfl (Nat.le_of_ble_eq_true rfl) (ws' := wE eo sg cI len (2, (S.2.1), (cx - 48), (S.2.2.2)) ch) rfl dX0_readPlace_52 (fun H locs hP hD hS => ?_)
          refine lv_iconst (v := nI 1) hx hb dX0_readPlace_55 (by decide) ?_
          have hE : oE sg len (2, (S.2.1), (cx - 48), (S.2.2.2)) = oE sg len (p_nxP cx S) := by
            have hm : p_many S.2.1 = 3 := by
              unfold p_many
              rw [if_neg c4]
            have ho : p_okP cx S = true := by
              show (decide (48 ≤ cx) && decide (cx - 48 < p_many S.2.1)) = _
              rw [hm]
              simp only [Bool.and_eq_true, Bool.and_eq_false_iff, decide_eq_true_eq, decide_eq_false_iff_not]
              omega
            first | (simp [p_b, p_nxP, ho, c4, c6, c7]; done) | (exfalso; omega)
          refine hret _ _ _ _ _ (by first | rfl | decide) ?_ (by rw [← hE]; exact hP 0 _ rfl) hS dX0_readPlace_56
          have hm : p_many S.2.1 = 3 := by
            unfold p_many
            rw [if_neg c4]
          have ho : p_okP cx S = true := by
            show (decide (48 ≤ cx) && decide (cx - 48 < p_many S.2.1)) = _
            rw [hm]
            simp only [Bool.and_eq_true, Bool.and_eq_false_iff, decide_eq_true_eq, decide_eq_false_iff_not]
            omega
          first | (simp [p_b, p_nxP, ho, c4, c6, c7]; done) | (exfalso; omega)
      ·
        refine lv_iconst (v := nI 0) hx hb dX0_readPlace_30 (by decide) ?_
        have hE : oE sg len S = oE sg len (p_nxP cx S) := by
          have hm : p_many S.2.1 = 3 := by
            unfold p_many
            rw [if_neg c4]
          have ho : p_okP cx S = false := by
            show (decide (48 ≤ cx) && decide (cx - 48 < p_many S.2.1)) = _
            rw [hm]
            simp only [Bool.and_eq_true, Bool.and_eq_false_iff, decide_eq_true_eq, decide_eq_false_iff_not]
            omega
          first | (simp [p_b, p_nxP, ho, c4, c6]; done) | (exfalso; omega)
        refine hret _ _ _ _ _ (by first | rfl | decide) ?_ (by rw [← hE]; exact hP 0 _ rfl) hS dX0_readPlace_31
        have hm : p_many S.2.1 = 3 := by
          unfold p_many
          rw [if_neg c4]
        have ho : p_okP cx S = false := by
          show (decide (48 ≤ cx) && decide (cx - 48 < p_many S.2.1)) = _
          rw [hm]
          simp only [Bool.and_eq_true, Bool.and_eq_false_iff, decide_eq_true_eq, decide_eq_false_iff_not]
          omega
        first | (simp [p_b, p_nxP, ho, c4, c6]; done) | (exfalso; omega)
    ·
      refine lv_bipush (v := nI 8) hx hb dX0_readPlace_14 (by decide) ?_
      refine lv_goto (tgt := 20) hx hb dX0_readPlace_16 (by decide) ?_
      refine lv_istore_n (lv' := [(3, .int (nI 8)), (2, .int (nI ((cx - 48)))), (0, .ref eo), (1, .int (nI cx))]) hx hb dX0_readPlace_20 rfl hl (by decide) rfl (fun ls hl => ?_)
      refine lv_iload_n hx hb dX0_readPlace_21 rfl (lv_at hl 1 rfl) ?_
      refine lv_if_lt (tgt := 30) hx hb dX0_readPlace_22 (by decide) (fun c8 => absurd c8 (nI_pos (by omega))) (fun c8 => ?_)
      refine lv_iload_n hx hb dX0_readPlace_25 rfl (lv_at hl 1 rfl) ?_
      refine lv_iload_n hx hb dX0_readPlace_26 rfl (lv_at hl 0 rfl) ?_
      refine q_ltN (tgt := 32) hx hb (by omega) (by omega) dX0_readPlace_27 (by decide) (fun c9 => ?_) (fun c9 => ?_)
      ·
        refine lv_aload_n hx hb dX0_readPlace_32 rfl (lv_at hl 2 rfl) ?_
        refine lv_iload_n hx hb dX0_readPlace_33 rfl (lv_at hl 1 rfl) ?_
        refine q_pt (D := D) (ci := 0) (v := .int (nI ((cx - 48)))) (ty := .int) (C := RX0) (T := TX0) (N := 6) hx hb hts hi0 tyX0 tyX0_ok nmX0 hown hK hP hD hS rfl 0 rfl rfl 4 (by decide) hfl25 (fun _ h9 => h9) rfl (by decide +kernel) rfl rfl (Nat.le_of_ble_eq_true rfl) (ws' := wE eo sg cI len ((S.1), (S.2.1), (cx - 48), (S.2.2.2)) ch) rfl dX0_readPlace_34 (fun H locs hP hD hS => ?_)
        refine lv_aload_n hx hb dX0_readPlace_37 rfl (lv_at hl 2 rfl) ?_
        refine lv_aload_n hx hb dX0_readPlace_38 rfl (lv_at hl 2 rfl) ?_
        refine va_get (D := D) (ci := 0) (v := .int (nI ((S.2.1)))) (C := RX0) (T := TX0) (N := 6) hx hb hts hi0 hown hK hP 0 rfl rfl 3 (by decide) hfl22 (fun _ h9 => h9) rfl dX0_readPlace_39 ?_
        refine lv_bipush (v := nI 98) hx hb dX0_readPlace_42 (by decide) ?_
        refine q_neN (tgt := 51) hx hb (by omega) (by omega) dX0_readPlace_44 (by decide) (fun c10 => ?_) (fun c10 => ?_)
        ·
          refine lv_iconst (v := nI 3) hx hb dX0_readPlace_51 (by decide) ?_
          refine q_pt (D := D) (ci := 0) (v := .int (nI 3)) (ty := .int) (C := RX0) (T := TX0) (N := 6) hx hb hts hi0 tyX0 tyX0_ok nmX0 hown hK hP hD hS rfl 0 rfl rfl 2 (by decide) hfl19 (fun _ h9 => h9) rfl (by decide +kernel) rfl rfl (Nat.le_of_ble_eq_true rfl) (ws' := wE eo sg cI len (3, (S.2.1), (cx - 48), (S.2.2.2)) ch) rfl dX0_readPlace_52 (fun H locs hP hD hS => ?_)
          refine lv_iconst (v := nI 1) hx hb dX0_readPlace_55 (by decide) ?_
          have hE : oE sg len (3, (S.2.1), (cx - 48), (S.2.2.2)) = oE sg len (p_nxP cx S) := by
            have hm : p_many S.2.1 = 8 := by
              unfold p_many
              rw [if_pos c4]
            have ho : p_okP cx S = true := by
              show (decide (48 ≤ cx) && decide (cx - 48 < p_many S.2.1)) = _
              rw [hm]
              simp only [Bool.and_eq_true, Bool.and_eq_false_iff, decide_eq_true_eq, decide_eq_false_iff_not]
              omega
            first | (simp [p_b, p_nxP, ho, c4, c9, c10]; done) | (exfalso; omega)
          refine hret _ _ _ _ _ (by first | rfl | decide) ?_ (by rw [← hE]; exact hP 0 _ rfl) hS dX0_readPlace_56
          have hm : p_many S.2.1 = 8 := by
            unfold p_many
            rw [if_pos c4]
          have ho : p_okP cx S = true := by
            show (decide (48 ≤ cx) && decide (cx - 48 < p_many S.2.1)) = _
            rw [hm]
            simp only [Bool.and_eq_true, Bool.and_eq_false_iff, decide_eq_true_eq, decide_eq_false_iff_not]
            omega
          first | (simp [p_b, p_nxP, ho, c4, c9, c10]; done) | (exfalso; omega)
        ·
          refine lv_iconst (v := nI 2) hx hb dX0_readPlace_47 (by decide) ?_
          refine lv_goto (tgt := 52) hx hb dX0_readPlace_48 (by decide) ?_
          refine q_pt (D := D) (ci := 0) (v := .int (nI 2)) (ty := .int) (C := RX0) (T := TX0) (N := 6) hx hb hts hi0 tyX0 tyX0_ok nmX0 hown hK hP hD hS rfl 0 rfl rfl 2 (by decide) hfl19 (fun _ h9 => h9) rfl (by decide +kernel) rfl rfl (Nat.le_of_ble_eq_true rfl) (ws' := wE eo sg cI len (2, (S.2.1), (cx - 48), (S.2.2.2)) ch) rfl dX0_readPlace_52 (fun H locs hP hD hS => ?_)
          refine lv_iconst (v := nI 1) hx hb dX0_readPlace_55 (by decide) ?_
          have hE : oE sg len (2, (S.2.1), (cx - 48), (S.2.2.2)) = oE sg len (p_nxP cx S) := by
            have hm : p_many S.2.1 = 8 := by
              unfold p_many
              rw [if_pos c4]
            have ho : p_okP cx S = true := by
              show (decide (48 ≤ cx) && decide (cx - 48 < p_many S.2.1)) = _
              rw [hm]
              simp only [Bool.and_eq_true, Bool.and_eq_false_iff, decide_eq_true_eq, decide_eq_false_iff_not]
              omega
            first | (simp [p_b, p_nxP, ho, c4, c9, c10]; done) | (exfalso; omega)
          refine hret _ _ _ _ _ (by first | rfl | decide) ?_ (by rw [← hE]; exact hP 0 _ rfl) hS dX0_readPlace_56
          have hm : p_many S.2.1 = 8 := by
            unfold p_many
            rw [if_pos c4]
          have ho : p_okP cx S = true := by
            show (decide (48 ≤ cx) && decide (cx - 48 < p_many S.2.1)) = _
            rw [hm]
            simp only [Bool.and_eq_true, Bool.and_eq_false_iff, decide_eq_true_eq, decide_eq_false_iff_not]
            omega
          first | (simp [p_b, p_nxP, ho, c4, c9, c10]; done) | (exfalso; omega)
      ·
        refine lv_iconst (v := nI 0) hx hb dX0_readPlace_30 (by decide) ?_
        have hE : oE sg len S = oE sg len (p_nxP cx S) := by
          have hm : p_many S.2.1 = 8 := by
            unfold p_many
            rw [if_pos c4]
          have ho : p_okP cx S = false := by
            show (decide (48 ≤ cx) && decide (cx - 48 < p_many S.2.1)) = _
            rw [hm]
            simp only [Bool.and_eq_true, Bool.and_eq_false_iff, decide_eq_true_eq, decide_eq_false_iff_not]
            omega
          first | (simp [p_b, p_nxP, ho, c4, c9]; done) | (exfalso; omega)
        refine hret _ _ _ _ _ (by first | rfl | decide) ?_ (by rw [← hE]; exact hP 0 _ rfl) hS dX0_readPlace_31
        have hm : p_many S.2.1 = 8 := by
          unfold p_many
          rw [if_pos c4]
        have ho : p_okP cx S = false := by
          show (decide (48 ≤ cx) && decide (cx - 48 < p_many S.2.1)) = _
          rw [hm]
          simp only [Bool.and_eq_true, Bool.and_eq_false_iff, decide_eq_true_eq, decide_eq_false_iff_not]
          omega
        first | (simp [p_b, p_nxP, ho, c4, c9]; done) | (exfalso; omega)
set_option maxHeartbeats 4000000 in
set_option maxRecDepth 100000 in
theorem m0_readTea (l : Launch) (D : va_G) (cI : ClassId) (eo sg len cx : Nat) (S : PS) (ch : Nat → Nat) (hc : cx < 128) (hS0 : p_sm S) (hne : eo ≠ sg) : q_I l yX0_readTea wsX0_readTea { frames := 1, cells := 0, slots := 0, locals := 21 } [.ref eo, .int (nI cx)] (q_bp D (wE eo sg cI len S ch) [(cI, .int)]) (fun v => v = p_b (p_okT cx S)) (fun H => va_at D vwCl (eo, oE sg len (p_nxT cx S)) H) (fun q => q = eo) 0 0 := by
  refine q_goI (cc := cX0_readTea) (maxL := 4) (ty := .boolean) (lv0 := [(0, .ref eo), (1, .int (nI cx))]) (by decide) rfl (Nat.le_of_ble_eq_true rfl) rfl ?_
  intro p e s m args below meth c Q ls hx hb hml hts hown hP hK hl hret
  have hi0 : ∀ w ∈ wsX00, w ∈ wsX0_readTea := by decide +kernel
  have hfl28 := hts (.fieldLink RX0 28 "WhisperedPots$Errands" "tea" "I") (by decide +kernel)
  have hS : va_S (fun q => q = eo) s.heap s.heap [] := va_S.rf
  have hD : va_D (fun _ => True) (wE eo sg cI len S ch) := q_dT hne
  obtain ⟨h31, h32, h33, h34⟩ := hS0
  refine lv_iload_n hx hb dX0_readTea_0 rfl (lv_at hl 1 rfl) ?_
  refine lv_bipush (v := nI 59) hx hb dX0_readTea_1 (by decide) ?_
  refine q_neN (tgt := 19) hx hb (by omega) (by omega) dX0_readTea_3 (by decide) (fun c1 => ?_) (fun c1 => ?_)
  ·
    refine lv_iload_n hx hb dX0_readTea_19 rfl (lv_at hl 1 rfl) ?_
    refine lv_bipush (v := nI 48) hx hb dX0_readTea_20 (by decide) ?_
    rcases Nat.lt_or_ge cx 48 with h48 | h48
    ·
      refine lv_isub hx hb dX0_readTea_22 ?_
      have hneg : (nI cx - nI 48 : Int32) < 0 := pk_sneg (by omega) h48
      refine lv_istore_n (lv' := [(2, .int (nI cx - nI 48)), (0, .ref eo), (1, .int (nI cx))]) hx hb dX0_readTea_23 rfl hl (by decide) rfl (fun ls hl => ?_)
      refine lv_iload_n hx hb dX0_readTea_24 rfl (lv_at hl 0 rfl) ?_
      refine lv_if_lt (tgt := 34) hx hb dX0_readTea_25 (by decide) (fun c2 => ?_) (fun c2 => absurd c2 (fun z => z hneg))
      refine lv_iconst (v := nI 0) hx hb dX0_readTea_34 (by decide) ?_
      have hE : oE sg len S = oE sg len (p_nxT cx S) := by
        have hT : ¬ (cx = 59 ∧ 0 < S.2.2.2) := by omega
        have ho : p_okD cx S = false := by
          unfold p_okD
          simp only [Bool.and_eq_true, Bool.and_eq_false_iff, decide_eq_true_eq, decide_eq_false_iff_not]
          omega
        simp only [p_b, p_okT, p_nxT, if_neg hT, ho]
        try rfl
      refine hret _ _ _ _ _ (by first | rfl | decide) ?_ (by rw [← hE]; exact hP 0 _ rfl) hS dX0_readTea_35
      have hT : ¬ (cx = 59 ∧ 0 < S.2.2.2) := by omega
      have ho : p_okD cx S = false := by
        unfold p_okD
        simp only [Bool.and_eq_true, Bool.and_eq_false_iff, decide_eq_true_eq, decide_eq_false_iff_not]
        omega
      simp only [p_b, p_okT, p_nxT, if_neg hT, ho]
      try rfl
    ·
      refine q_subN hx hb (cx - 48) (by omega) dX0_readTea_22 ?_
      refine lv_istore_n (lv' := [(2, .int (nI ((cx - 48)))), (0, .ref eo), (1, .int (nI cx))]) hx hb dX0_readTea_23 rfl hl (by decide) rfl (fun ls hl => ?_)
      refine lv_iload_n hx hb dX0_readTea_24 rfl (lv_at hl 0 rfl) ?_
      refine lv_if_lt (tgt := 34) hx hb dX0_readTea_25 (by decide) (fun c3 => absurd c3 (nI_pos (by omega))) (fun c3 => ?_)
      refine lv_iload_n hx hb dX0_readTea_28 rfl (lv_at hl 0 rfl) ?_
      refine lv_bipush (v := nI 9) hx hb dX0_readTea_29 (by decide) ?_
      refine q_leN (tgt := 36) hx hb (by omega) (by omega) dX0_readTea_31 (by decide) (fun c4 => ?_) (fun c4 => ?_)
      ·
        refine lv_bipush (v := nI 10) hx hb dX0_readTea_36 (by decide) ?_
        refine lv_aload_n hx hb dX0_readTea_38 rfl (lv_at hl 1 rfl) ?_
        refine va_get (D := D) (ci := 0) (v := .int (nI ((S.2.2.2)))) (C := RX0) (T := TX0) (N := 6) hx hb hts hi0 hown hK hP 0 rfl rfl 5 (by decide) hfl28 (fun _ h9 => h9) rfl dX0_readTea_39 ?_
        refine q_mulN hx hb (10 * (S.2.2.2)) (by omega) dX0_readTea_42 ?_
        refine lv_iload_n hx hb dX0_readTea_43 rfl (lv_at hl 0 rfl) ?_
        refine q_addN hx hb (10 * (S.2.2.2) + (cx - 48)) (by omega) dX0_readTea_44 ?_
        refine lv_istore_n (lv' := [(3, .int (nI (10 * (S.2.2.2) + (cx - 48)))), (2, .int (nI ((cx - 48)))), (0, .ref eo), (1, .int (nI cx))]) hx hb dX0_readTea_45 rfl hl (by decide) rfl (fun ls hl => ?_)
        refine lv_iload_n hx hb dX0_readTea_46 rfl (lv_at hl 0 rfl) ?_
        refine lv_iconst (v := nI 1) hx hb dX0_readTea_47 (by decide) ?_
        refine q_ltN (tgt := 58) hx hb (by omega) (by omega) dX0_readTea_48 (by decide) (fun c5 => ?_) (fun c5 => ?_)
        ·
          refine lv_iconst (v := nI 0) hx hb dX0_readTea_58 (by decide) ?_
          have hE : oE sg len S = oE sg len (p_nxT cx S) := by
            have hT : ¬ (cx = 59 ∧ 0 < S.2.2.2) := by omega
            have ho : p_okD cx S = false := by
              unfold p_okD
              simp only [Bool.and_eq_true, Bool.and_eq_false_iff, decide_eq_true_eq, decide_eq_false_iff_not]
              omega
            simp only [p_b, p_okT, p_nxT, if_neg hT, ho]
            try rfl
          refine hret _ _ _ _ _ (by first | rfl | decide) ?_ (by rw [← hE]; exact hP 0 _ rfl) hS dX0_readTea_59
          have hT : ¬ (cx = 59 ∧ 0 < S.2.2.2) := by omega
          have ho : p_okD cx S = false := by
            unfold p_okD
            simp only [Bool.and_eq_true, Bool.and_eq_false_iff, decide_eq_true_eq, decide_eq_false_iff_not]
            omega
          simp only [p_b, p_okT, p_nxT, if_neg hT, ho]
          try rfl
        ·
          refine lv_iload_n hx hb dX0_readTea_51 rfl (lv_at hl 0 rfl) ?_
          refine lv_sipush (v := nI 200) hx hb dX0_readTea_52 (by decide) ?_
          refine q_leN (tgt := 60) hx hb (by omega) (by omega) dX0_readTea_55 (by decide) (fun c6 => ?_) (fun c6 => ?_)
          ·
            refine lv_aload_n hx hb dX0_readTea_60 rfl (lv_at hl 2 rfl) ?_
            refine lv_iload_n hx hb dX0_readTea_61 rfl (lv_at hl 0 rfl) ?_
            refine q_pt (D := D) (ci := 0) (v := .int (nI (10 * (S.2.2.2) + (cx - 48)))) (ty := .int) (C := RX0) (T := TX0) (N := 6) hx hb hts hi0 tyX0 tyX0_ok nmX0 hown hK hP hD hS rfl 0 rfl rfl 5 (by decide) hfl28 (fun _ h9 => h9) rfl (by decide +kernel) rfl rfl (Nat.le_of_ble_eq_true rfl) (ws' := wE eo sg cI len ((S.1), (S.2.1), (S.2.2.1), 10 * (S.2.2.2) + (cx - 48)) ch) rfl dX0_readTea_62 (fun H locs hP hD hS => ?_)
            refine lv_iconst (v := nI 1) hx hb dX0_readTea_65 (by decide) ?_
            have hE : oE sg len ((S.1), (S.2.1), (S.2.2.1), 10 * (S.2.2.2) + (cx - 48)) = oE sg len (p_nxT cx S) := by
              have hT : ¬ (cx = 59 ∧ 0 < S.2.2.2) := by omega
              have ho : p_okD cx S = true := by
                unfold p_okD
                simp only [Bool.and_eq_true, Bool.and_eq_false_iff, decide_eq_true_eq, decide_eq_false_iff_not]
                omega
              simp only [p_b, p_okT, p_nxT, if_neg hT, ho]
              try rfl
            refine hret _ _ _ _ _ (by first | rfl | decide) ?_ (by rw [← hE]; exact hP 0 _ rfl) hS dX0_readTea_66
            have hT : ¬ (cx = 59 ∧ 0 < S.2.2.2) := by omega
            have ho : p_okD cx S = true := by
              unfold p_okD
              simp only [Bool.and_eq_true, Bool.and_eq_false_iff, decide_eq_true_eq, decide_eq_false_iff_not]
              omega
            simp only [p_b, p_okT, p_nxT, if_neg hT, ho]
            try rfl
          ·
            refine lv_iconst (v := nI 0) hx hb dX0_readTea_58 (by decide) ?_
            have hE : oE sg len S = oE sg len (p_nxT cx S) := by
              have hT : ¬ (cx = 59 ∧ 0 < S.2.2.2) := by omega
              have ho : p_okD cx S = false := by
                unfold p_okD
                simp only [Bool.and_eq_true, Bool.and_eq_false_iff, decide_eq_true_eq, decide_eq_false_iff_not]
                omega
              simp only [p_b, p_okT, p_nxT, if_neg hT, ho]
              try rfl
            refine hret _ _ _ _ _ (by first | rfl | decide) ?_ (by rw [← hE]; exact hP 0 _ rfl) hS dX0_readTea_59
            have hT : ¬ (cx = 59 ∧ 0 < S.2.2.2) := by omega
            have ho : p_okD cx S = false := by
              unfold p_okD
              simp only [Bool.and_eq_true, Bool.and_eq_false_iff, decide_eq_true_eq, decide_eq_false_iff_not]
              omega
            simp only [p_b, p_okT, p_nxT, if_neg hT, ho]
            try rfl
      ·
        refine lv_iconst (v := nI 0) hx hb dX0_readTea_34 (by decide) ?_
        have hE : oE sg len S = oE sg len (p_nxT cx S) := by
          have hT : ¬ (cx = 59 ∧ 0 < S.2.2.2) := by omega
          have ho : p_okD cx S = false := by
            unfold p_okD
            simp only [Bool.and_eq_true, Bool.and_eq_false_iff, decide_eq_true_eq, decide_eq_false_iff_not]
            omega
          simp only [p_b, p_okT, p_nxT, if_neg hT, ho]
          try rfl
        refine hret _ _ _ _ _ (by first | rfl | decide) ?_ (by rw [← hE]; exact hP 0 _ rfl) hS dX0_readTea_35
        have hT : ¬ (cx = 59 ∧ 0 < S.2.2.2) := by omega
        have ho : p_okD cx S = false := by
          unfold p_okD
          simp only [Bool.and_eq_true, Bool.and_eq_false_iff, decide_eq_true_eq, decide_eq_false_iff_not]
          omega
        simp only [p_b, p_okT, p_nxT, if_neg hT, ho]
        try rfl
  ·
    refine lv_aload_n hx hb dX0_readTea_6 rfl (lv_at hl 0 rfl) ?_
    refine va_get (D := D) (ci := 0) (v := .int (nI ((S.2.2.2)))) (C := RX0) (T := TX0) (N := 6) hx hb hts hi0 hown hK hP 0 rfl rfl 5 (by decide) hfl28 (fun _ h9 => h9) rfl dX0_readTea_7 ?_
    refine q_zle (tgt := 19) hx hb (by omega) dX0_readTea_10 (by decide) (fun c7 => ?_) (fun c7 => ?_)
    ·
      refine lv_iload_n hx hb dX0_readTea_19 rfl (lv_at hl 1 rfl) ?_
      refine lv_bipush (v := nI 48) hx hb dX0_readTea_20 (by decide) ?_
      rcases Nat.lt_or_ge cx 48 with h48 | h48
      ·
        refine lv_isub hx hb dX0_readTea_22 ?_
        have hneg : (nI cx - nI 48 : Int32) < 0 := pk_sneg (by omega) h48
        refine lv_istore_n (lv' := [(2, .int (nI cx - nI 48)), (0, .ref eo), (1, .int (nI cx))]) hx hb dX0_readTea_23 rfl hl (by decide) rfl (fun ls hl => ?_)
        refine lv_iload_n hx hb dX0_readTea_24 rfl (lv_at hl 0 rfl) ?_
        refine lv_if_lt (tgt := 34) hx hb dX0_readTea_25 (by decide) (fun c8 => ?_) (fun c8 => absurd c8 (fun z => z hneg))
        refine lv_iconst (v := nI 0) hx hb dX0_readTea_34 (by decide) ?_
        have hE : oE sg len S = oE sg len (p_nxT cx S) := by
          have hT : ¬ (cx = 59 ∧ 0 < S.2.2.2) := by omega
          have ho : p_okD cx S = false := by
            unfold p_okD
            simp only [Bool.and_eq_true, Bool.and_eq_false_iff, decide_eq_true_eq, decide_eq_false_iff_not]
            omega
          simp only [p_b, p_okT, p_nxT, if_neg hT, ho]
          try rfl
        refine hret _ _ _ _ _ (by first | rfl | decide) ?_ (by rw [← hE]; exact hP 0 _ rfl) hS dX0_readTea_35
        have hT : ¬ (cx = 59 ∧ 0 < S.2.2.2) := by omega
        have ho : p_okD cx S = false := by
          unfold p_okD
          simp only [Bool.and_eq_true, Bool.and_eq_false_iff, decide_eq_true_eq, decide_eq_false_iff_not]
          omega
        simp only [p_b, p_okT, p_nxT, if_neg hT, ho]
        try rfl
      ·
        refine q_subN hx hb (cx - 48) (by omega) dX0_readTea_22 ?_
        refine lv_istore_n (lv' := [(2, .int (nI ((cx - 48)))), (0, .ref eo), (1, .int (nI cx))]) hx hb dX0_readTea_23 rfl hl (by decide) rfl (fun ls hl => ?_)
        refine lv_iload_n hx hb dX0_readTea_24 rfl (lv_at hl 0 rfl) ?_
        refine lv_if_lt (tgt := 34) hx hb dX0_readTea_25 (by decide) (fun c9 => absurd c9 (nI_pos (by omega))) (fun c9 => ?_)
        refine lv_iload_n hx hb dX0_readTea_28 rfl (lv_at hl 0 rfl) ?_
        refine lv_bipush (v := nI 9) hx hb dX0_readTea_29 (by decide) ?_
        refine q_leN (tgt := 36) hx hb (by omega) (by omega) dX0_readTea_31 (by decide) (fun c10 => ?_) (fun c10 => ?_)
        ·
          refine lv_bipush (v := nI 10) hx hb dX0_readTea_36 (by decide) ?_
          refine lv_aload_n hx hb dX0_readTea_38 rfl (lv_at hl 1 rfl) ?_
          refine va_get (D := D) (ci := 0) (v := .int (nI ((S.2.2.2)))) (C := RX0) (T := TX0) (N := 6) hx hb hts hi0 hown hK hP 0 rfl rfl 5 (by decide) hfl28 (fun _ h9 => h9) rfl dX0_readTea_39 ?_
          refine q_mulN hx hb (10 * (S.2.2.2)) (by omega) dX0_readTea_42 ?_
          refine lv_iload_n hx hb dX0_readTea_43 rfl (lv_at hl 0 rfl) ?_
          refine q_addN hx hb (10 * (S.2.2.2) + (cx - 48)) (by omega) dX0_readTea_44 ?_
          refine lv_istore_n (lv' := [(3, .int (nI (10 * (S.2.2.2) + (cx - 48)))), (2, .int (nI ((cx - 48)))), (0, .ref eo), (1, .int (nI cx))]) hx hb dX0_readTea_45 rfl hl (by decide) rfl (fun ls hl => ?_)
          refine lv_iload_n hx hb dX0_readTea_46 rfl (lv_at hl 0 rfl) ?_
          refine lv_iconst (v := nI 1) hx hb dX0_readTea_47 (by decide) ?_
          refine q_ltN (tgt := 58) hx hb (by omega) (by omega) dX0_readTea_48 (by decide) (fun c11 => ?_) (fun c11 => ?_)
          ·
            refine lv_iconst (v := nI 0) hx hb dX0_readTea_58 (by decide) ?_
            have hE : oE sg len S = oE sg len (p_nxT cx S) := by
              have hT : ¬ (cx = 59 ∧ 0 < S.2.2.2) := by omega
              have ho : p_okD cx S = false := by
                unfold p_okD
                simp only [Bool.and_eq_true, Bool.and_eq_false_iff, decide_eq_true_eq, decide_eq_false_iff_not]
                omega
              simp only [p_b, p_okT, p_nxT, if_neg hT, ho]
              try rfl
            refine hret _ _ _ _ _ (by first | rfl | decide) ?_ (by rw [← hE]; exact hP 0 _ rfl) hS dX0_readTea_59
            have hT : ¬ (cx = 59 ∧ 0 < S.2.2.2) := by omega
            have ho : p_okD cx S = false := by
              unfold p_okD
              simp only [Bool.and_eq_true, Bool.and_eq_false_iff, decide_eq_true_eq, decide_eq_false_iff_not]
              omega
            simp only [p_b, p_okT, p_nxT, if_neg hT, ho]
            try rfl
          ·
            refine lv_iload_n hx hb dX0_readTea_51 rfl (lv_at hl 0 rfl) ?_
            refine lv_sipush (v := nI 200) hx hb dX0_readTea_52 (by decide) ?_
            refine q_leN (tgt := 60) hx hb (by omega) (by omega) dX0_readTea_55 (by decide) (fun c12 => ?_) (fun c12 => ?_)
            ·
              refine lv_aload_n hx hb dX0_readTea_60 rfl (lv_at hl 2 rfl) ?_
              refine lv_iload_n hx hb dX0_readTea_61 rfl (lv_at hl 0 rfl) ?_
              refine q_pt (D := D) (ci := 0) (v := .int (nI (10 * (S.2.2.2) + (cx - 48)))) (ty := .int) (C := RX0) (T := TX0) (N := 6) hx hb hts hi0 tyX0 tyX0_ok nmX0 hown hK hP hD hS rfl 0 rfl rfl 5 (by decide) hfl28 (fun _ h9 => h9) rfl (by decide +kernel) rfl rfl (Nat.le_of_ble_eq_true rfl) (ws' := wE eo sg cI len ((S.1), (S.2.1), (S.2.2.1), 10 * (S.2.2.2) + (cx - 48)) ch) rfl dX0_readTea_62 (fun H locs hP hD hS => ?_)
              refine lv_iconst (v := nI 1) hx hb dX0_readTea_65 (by decide) ?_
              have hE : oE sg len ((S.1), (S.2.1), (S.2.2.1), 10 * (S.2.2.2) + (cx - 48)) = oE sg len (p_nxT cx S) := by
                have hT : ¬ (cx = 59 ∧ 0 < S.2.2.2) := by omega
                have ho : p_okD cx S = true := by
                  unfold p_okD
                  simp only [Bool.and_eq_true, Bool.and_eq_false_iff, decide_eq_true_eq, decide_eq_false_iff_not]
                  omega
                simp only [p_b, p_okT, p_nxT, if_neg hT, ho]
                try rfl
              refine hret _ _ _ _ _ (by first | rfl | decide) ?_ (by rw [← hE]; exact hP 0 _ rfl) hS dX0_readTea_66
              have hT : ¬ (cx = 59 ∧ 0 < S.2.2.2) := by omega
              have ho : p_okD cx S = true := by
                unfold p_okD
                simp only [Bool.and_eq_true, Bool.and_eq_false_iff, decide_eq_true_eq, decide_eq_false_iff_not]
                omega
              simp only [p_b, p_okT, p_nxT, if_neg hT, ho]
              try rfl
            ·
              refine lv_iconst (v := nI 0) hx hb dX0_readTea_58 (by decide) ?_
              have hE : oE sg len S = oE sg len (p_nxT cx S) := by
                have hT : ¬ (cx = 59 ∧ 0 < S.2.2.2) := by omega
                have ho : p_okD cx S = false := by
                  unfold p_okD
                  simp only [Bool.and_eq_true, Bool.and_eq_false_iff, decide_eq_true_eq, decide_eq_false_iff_not]
                  omega
                simp only [p_b, p_okT, p_nxT, if_neg hT, ho]
                try rfl
              refine hret _ _ _ _ _ (by first | rfl | decide) ?_ (by rw [← hE]; exact hP 0 _ rfl) hS dX0_readTea_59
              have hT : ¬ (cx = 59 ∧ 0 < S.2.2.2) := by omega
              have ho : p_okD cx S = false := by
                unfold p_okD
                simp only [Bool.and_eq_true, Bool.and_eq_false_iff, decide_eq_true_eq, decide_eq_false_iff_not]
                omega
              simp only [p_b, p_okT, p_nxT, if_neg hT, ho]
              try rfl
        ·
          refine lv_iconst (v := nI 0) hx hb dX0_readTea_34 (by decide) ?_
          have hE : oE sg len S = oE sg len (p_nxT cx S) := by
            have hT : ¬ (cx = 59 ∧ 0 < S.2.2.2) := by omega
            have ho : p_okD cx S = false := by
              unfold p_okD
              simp only [Bool.and_eq_true, Bool.and_eq_false_iff, decide_eq_true_eq, decide_eq_false_iff_not]
              omega
            simp only [p_b, p_okT, p_nxT, if_neg hT, ho]
            try rfl
          refine hret _ _ _ _ _ (by first | rfl | decide) ?_ (by rw [← hE]; exact hP 0 _ rfl) hS dX0_readTea_35
          have hT : ¬ (cx = 59 ∧ 0 < S.2.2.2) := by omega
          have ho : p_okD cx S = false := by
            unfold p_okD
            simp only [Bool.and_eq_true, Bool.and_eq_false_iff, decide_eq_true_eq, decide_eq_false_iff_not]
            omega
          simp only [p_b, p_okT, p_nxT, if_neg hT, ho]
          try rfl
    ·
      refine lv_aload_n hx hb dX0_readTea_13 rfl (lv_at hl 0 rfl) ?_
      refine lv_iload_n hx hb dX0_readTea_14 rfl (lv_at hl 1 rfl) ?_
      refine q_ci1 (i := 0) (ws' := wE eo sg cI len (p_nxS cx S) ch) (va_runV (rm := { frames := 0, cells := 0, slots := 0, locals := 0 }) (As := [.int (nI cx)]) (rest := []) ⟨hx, hb, hml, hown, hts⟩ (m0_readSeparator l D cI eo sg len cx S ch hc ⟨h31, h32, h33, h34⟩ hne) (cwV 1 hts gX0_readTea_X0_readSeparator rfl rfl rfl (by decide +kernel) ⟨Nat.le_of_ble_eq_true rfl, Nat.le_of_ble_eq_true rfl⟩) (q_pV (ci := 0) (q0 := 0) hP hK rfl rfl) rfl rfl hl.1 rfl (lv_room (Nat.le_of_ble_eq_true rfl)) dX0_readTea_15 ⟨Nat.le_of_ble_eq_true rfl, Nat.le_of_ble_eq_true rfl⟩) hP hD hS rfl rfl rfl (fun x13 H locs e13 hP hD hS => ?_)
      have e13 : x13 = p_b (p_okS cx S) := e13
      have hE : oE sg len (p_nxS cx S) = oE sg len (p_nxT cx S) := by
        subst e13
        simp [p_b, p_okT, p_nxT, p_okS, p_nxS, c1, c7]
      refine hret _ _ _ _ _ (by subst e13; unfold p_b; split <;> rfl) ?_ (by rw [← hE]; exact hP 0 _ rfl) hS dX0_readTea_18
      subst e13
      simp [p_b, p_okT, p_nxT, p_okS, p_nxS, c1, c7]
set_option maxHeartbeats 4000000 in
set_option maxRecDepth 100000 in
theorem m0_read (l : Launch) (D : va_G) (cI : ClassId) (eo sg len cx : Nat) (S : PS) (ch : Nat → Nat) (hc : cx < 128) (hS0 : p_sm S) (hne : eo ≠ sg) : q_I l yX0_read wsX0_read { frames := 2, cells := 0, slots := 0, locals := 44 } [.ref eo, .int (nI cx)] (q_bp D (wE eo sg cI len S ch) [(cI, .int)]) (fun v => v = p_b (p_ok cx S)) (fun H => va_at D vwCl (eo, oE sg len (p_nx cx S)) H) (fun q => q = eo) 0 0 := by
  refine q_goI (cc := cX0_read) (maxL := 2) (ty := .boolean) (lv0 := [(0, .ref eo), (1, .int (nI cx))]) (by decide) rfl (Nat.le_of_ble_eq_true rfl) rfl ?_
  intro p e s m args below meth c Q ls hx hb hml hts hown hP hK hl hret
  have hi0 : ∀ w ∈ wsX00, w ∈ wsX0_read := by decide +kernel
  have hfl19 := hts (.fieldLink RX0 19 "WhisperedPots$Errands" "at" "I") (by decide +kernel)
  have hS : va_S (fun q => q = eo) s.heap s.heap [] := va_S.rf
  have hD : va_D (fun _ => True) (wE eo sg cI len S ch) := q_dT hne
  obtain ⟨h31, h32, h33, h34⟩ := hS0
  refine lv_aload_n hx hb dX0_read_0 rfl (lv_at hl 0 rfl) ?_
  refine va_get (D := D) (ci := 0) (v := .int (nI ((S.1)))) (C := RX0) (T := TX0) (N := 6) hx hb hts hi0 hown hK hP 0 rfl rfl 2 (by decide) hfl19 (fun _ h9 => h9) rfl dX0_read_1 ?_
  have h4 : S.1 = 0 ∨ S.1 = 1 ∨ S.1 = 2 ∨ S.1 = 3 := by omega
  rcases h4 with h4 | h4 | h4 | h4
  ·
    refine q_ts (tgt := 32) (off := 28) hx hb (by omega) dX0_read_4 rfl (by rw [h4]; rfl) (by decide) ?_
    refine lv_aload_n hx hb dX0_read_32 rfl (lv_at hl 0 rfl) ?_
    refine lv_iload_n hx hb dX0_read_33 rfl (lv_at hl 1 rfl) ?_
    refine q_ci1 (i := 0) (ws' := wE eo sg cI len (p_nxL cx S) ch) (va_runV (rm := { frames := 0, cells := 0, slots := 0, locals := 0 }) (As := [.int (nI cx)]) (rest := []) ⟨hx, hb, hml, hown, hts⟩ (m0_readLetter l D cI eo sg len cx S ch hc ⟨h31, h32, h33, h34⟩ hne) (cwV 1 hts gX0_read_X0_readLetter rfl rfl rfl (by decide +kernel) ⟨Nat.le_of_ble_eq_true rfl, Nat.le_of_ble_eq_true rfl⟩) (q_pV (ci := 0) (q0 := 0) hP hK rfl rfl) rfl rfl hl.1 rfl (lv_room (Nat.le_of_ble_eq_true rfl)) dX0_read_34 ⟨Nat.le_of_ble_eq_true rfl, Nat.le_of_ble_eq_true rfl⟩) hP hD hS rfl rfl rfl (fun x1 H locs e1 hP hD hS => ?_)
    have e1 : x1 = p_b (p_okL cx S) := e1
    have hE : oE sg len (p_nxL cx S) = oE sg len (p_nx cx S) := by
      subst e1
      simp [p_ok, p_nx, h4]
    refine hret _ _ _ _ _ (by subst e1; unfold p_b; split <;> rfl) ?_ (by rw [← hE]; exact hP 0 _ rfl) hS dX0_read_37
    subst e1
    simp [p_ok, p_nx, h4]
  ·
    refine q_ts (tgt := 38) (off := 34) hx hb (by omega) dX0_read_4 rfl (by rw [h4]; rfl) (by decide) ?_
    refine lv_aload_n hx hb dX0_read_38 rfl (lv_at hl 0 rfl) ?_
    refine lv_iload_n hx hb dX0_read_39 rfl (lv_at hl 1 rfl) ?_
    refine q_ci1 (i := 0) (ws' := wE eo sg cI len (p_nxP cx S) ch) (va_runV (rm := { frames := 0, cells := 0, slots := 0, locals := 0 }) (As := [.int (nI cx)]) (rest := []) ⟨hx, hb, hml, hown, hts⟩ (m0_readPlace l D cI eo sg len cx S ch hc ⟨h31, h32, h33, h34⟩ hne) (cwV 1 hts gX0_read_X0_readPlace rfl rfl rfl (by decide +kernel) ⟨Nat.le_of_ble_eq_true rfl, Nat.le_of_ble_eq_true rfl⟩) (q_pV (ci := 0) (q0 := 0) hP hK rfl rfl) rfl rfl hl.1 rfl (lv_room (Nat.le_of_ble_eq_true rfl)) dX0_read_40 ⟨Nat.le_of_ble_eq_true rfl, Nat.le_of_ble_eq_true rfl⟩) hP hD hS rfl rfl rfl (fun x2 H locs e2 hP hD hS => ?_)
    have e2 : x2 = p_b (p_okP cx S) := e2
    have hE : oE sg len (p_nxP cx S) = oE sg len (p_nx cx S) := by
      subst e2
      simp [p_ok, p_nx, h4]
    refine hret _ _ _ _ _ (by subst e2; unfold p_b; split <;> rfl) ?_ (by rw [← hE]; exact hP 0 _ rfl) hS dX0_read_43
    subst e2
    simp [p_ok, p_nx, h4]
  ·
    refine q_ts (tgt := 44) (off := 40) hx hb (by omega) dX0_read_4 rfl (by rw [h4]; rfl) (by decide) ?_
    refine lv_aload_n hx hb dX0_read_44 rfl (lv_at hl 0 rfl) ?_
    refine lv_iload_n hx hb dX0_read_45 rfl (lv_at hl 1 rfl) ?_
    refine q_ci1 (i := 0) (ws' := wE eo sg cI len (p_nxT cx S) ch) (va_runV (rm := { frames := 1, cells := 0, slots := 0, locals := 21 }) (As := [.int (nI cx)]) (rest := []) ⟨hx, hb, hml, hown, hts⟩ (m0_readTea l D cI eo sg len cx S ch hc ⟨h31, h32, h33, h34⟩ hne) (cwV 1 hts gX0_read_X0_readTea rfl rfl rfl (by decide +kernel) ⟨Nat.le_of_ble_eq_true rfl, Nat.le_of_ble_eq_true rfl⟩) (q_pV (ci := 0) (q0 := 0) hP hK rfl rfl) rfl rfl hl.1 rfl (lv_room (Nat.le_of_ble_eq_true rfl)) dX0_read_46 ⟨Nat.le_of_ble_eq_true rfl, Nat.le_of_ble_eq_true rfl⟩) hP hD hS rfl rfl rfl (fun x3 H locs e3 hP hD hS => ?_)
    have e3 : x3 = p_b (p_okT cx S) := e3
    have hE : oE sg len (p_nxT cx S) = oE sg len (p_nx cx S) := by
      subst e3
      simp [p_ok, p_nx, h4]
    refine hret _ _ _ _ _ (by subst e3; unfold p_b; split <;> rfl) ?_ (by rw [← hE]; exact hP 0 _ rfl) hS dX0_read_49
    subst e3
    simp [p_ok, p_nx, h4]
  ·
    refine q_ts (tgt := 50) (off := 46) hx hb (by omega) dX0_read_4 rfl (by rw [h4]; rfl) (by decide) ?_
    refine lv_aload_n hx hb dX0_read_50 rfl (lv_at hl 0 rfl) ?_
    refine lv_iload_n hx hb dX0_read_51 rfl (lv_at hl 1 rfl) ?_
    refine q_ci1 (i := 0) (ws' := wE eo sg cI len (p_nxS cx S) ch) (va_runV (rm := { frames := 0, cells := 0, slots := 0, locals := 0 }) (As := [.int (nI cx)]) (rest := []) ⟨hx, hb, hml, hown, hts⟩ (m0_readSeparator l D cI eo sg len cx S ch hc ⟨h31, h32, h33, h34⟩ hne) (cwV 1 hts gX0_read_X0_readSeparator rfl rfl rfl (by decide +kernel) ⟨Nat.le_of_ble_eq_true rfl, Nat.le_of_ble_eq_true rfl⟩) (q_pV (ci := 0) (q0 := 0) hP hK rfl rfl) rfl rfl hl.1 rfl (lv_room (Nat.le_of_ble_eq_true rfl)) dX0_read_52 ⟨Nat.le_of_ble_eq_true rfl, Nat.le_of_ble_eq_true rfl⟩) hP hD hS rfl rfl rfl (fun x4 H locs e4 hP hD hS => ?_)
    have e4 : x4 = p_b (p_okS cx S) := e4
    have hE : oE sg len (p_nxS cx S) = oE sg len (p_nx cx S) := by
      subst e4
      simp [p_ok, p_nx, h4]
    refine hret _ _ _ _ _ (by subst e4; unfold p_b; split <;> rfl) ?_ (by rw [← hE]; exact hP 0 _ rfl) hS dX0_read_55
    subst e4
    simp [p_ok, p_nx, h4]
set_option maxHeartbeats 4000000 in
set_option maxRecDepth 100000 in
theorem m0_firstWrong (l : Launch) (D : va_G) (cI : ClassId) (eo sg len : Nat) (S : PS) (ch : Nat → Nat) (hS0 : p_sm S) (hch : ∀ j, j < len → ch j < 128) (hlen : len ≤ 60) (hne : eo ≠ sg) : q_I l yX0_firstWrong wsX0_firstWrong { frames := 3, cells := 0, slots := 0, locals := 65 } [.ref eo] (q_bp D (wE eo sg cI len S ch) [(cI, .int)]) (fun v => v = nI (p_fw ch len 0 (0, S.2))) (fun H => va_at D vwCl (eo, oE sg len (p_fe ch len 0 (0, S.2))) H) (fun q => q = eo) 0 0 := by
  refine q_goI (cc := cX0_firstWrong) (maxL := 2) (ty := .int) (lv0 := [(0, .ref eo)]) (by decide) rfl (Nat.le_of_ble_eq_true rfl) rfl ?_
  intro p e s m args below meth c Q ls hx hb hml hts hown hP hK hl hret
  have hi0 : ∀ w ∈ wsX00, w ∈ wsX0_firstWrong := by decide +kernel
  have hfl15 := hts (.fieldLink RX0 15 "WhisperedPots$Errands" "length" "I") (by decide +kernel)
  have hfl9 := hts (.fieldLink RX0 9 "WhisperedPots$Errands" "signs" "[I") (by decide +kernel)
  have hS : va_S (fun q => q = eo) s.heap s.heap [] := va_S.rf
  have hD : va_D (fun _ => True) (wE eo sg cI len S ch) := q_dT hne
  obtain ⟨h31, h32, h33, h34⟩ := hS0
  refine lv_aload_n hx hb dX0_firstWrong_0 rfl (lv_at hl 0 rfl) ?_
  refine q_cv1 (i := 0) (ws' := wE eo sg cI len (0, S.2) ch) (va_runV (rm := { frames := 0, cells := 0, slots := 0, locals := 0 }) (As := []) (rest := []) ⟨hx, hb, hml, hown, hts⟩ (m0_restart l D cI eo sg len S ch hne) (cwV 0 hts gX0_firstWrong_X0_restart rfl rfl rfl (by decide +kernel) ⟨Nat.le_of_ble_eq_true rfl, Nat.le_of_ble_eq_true rfl⟩) (q_pV (ci := 0) (q0 := 0) hP hK rfl rfl) rfl rfl hl.1 rfl (lv_room (Nat.le_of_ble_eq_true rfl)) dX0_firstWrong_1 ⟨Nat.le_of_ble_eq_true rfl, Nat.le_of_ble_eq_true rfl⟩) hP hD hS rfl rfl rfl (fun H locs hP hD hS => ?_)
  refine lv_iconst (v := nI 0) hx hb dX0_firstWrong_4 (by decide) ?_
  refine lv_istore_n (lv' := [(1, .int (nI 0)), (0, .ref eo)]) hx hb dX0_firstWrong_5 rfl hl (by decide) rfl (fun ls hl => ?_)
  have hS1 : p_sm (0, S.2) := ⟨Nat.zero_le _, h32, h33, h34⟩
  have LP : ∀ (n i : Nat) (Sa : PS) (H : Heap) (locs : List Loc) (ls : Array Slot), i + n = len → (hSs : p_sm Sa) → (hF : p_fw ch n i Sa = p_fw ch len 0 (0, S.2)) → (hG : p_fe ch n i Sa = p_fe ch len 0 (0, S.2)) → va_P D vwCl (wE eo sg cI len Sa ch) H → va_D (fun _ => True) (wE eo sg cI len Sa ch) → va_S (fun q => q = eo) s.heap H locs → lv_has ls 2 [(1, .int (nI i)), (0, .ref eo)] → W p l e { frames := 3, cells := 0, slots := 0, locals := 65 } s m args below meth c H locs 0 0 Q (F0 m 6 ls []) := by
    intro n
    induction n with
    | zero =>
      intro i Sa H locs ls hi hSs hF hG hP hD hS hl
      obtain rfl : len = i := by omega
      refine lv_iload_n hx hb dX0_firstWrong_6 rfl (lv_at hl 0 rfl) ?_
      refine lv_aload_n hx hb dX0_firstWrong_7 rfl (lv_at hl 1 rfl) ?_
      refine va_get (D := D) (ci := 0) (v := .int (nI len)) (C := RX0) (T := TX0) (N := 6) hx hb hts hi0 hown hK hP 0 rfl rfl 1 (by decide) hfl15 (fun _ h9 => h9) rfl dX0_firstWrong_8 ?_
      refine q_geN (tgt := 35) hx hb (by omega) (by omega) dX0_firstWrong_11 (by decide) (fun c2 => ?_) (fun c2 => absurd c2 (by omega))
      refine lv_aload_n hx hb dX0_firstWrong_35 rfl (lv_at hl 1 rfl) ?_
      refine va_get (D := D) (ci := 0) (v := .int (nI len)) (C := RX0) (T := TX0) (N := 6) hx hb hts hi0 hown hK hP 0 rfl rfl 1 (by decide) hfl15 (fun _ h9 => h9) rfl dX0_firstWrong_36 ?_
      have hG1 : Sa = p_fe ch len 0 (0, S.2) := hG
      have hF1 : len = p_fw ch len 0 (0, S.2) := hF
      refine hret _ _ _ _ _ rfl (by rw [← hF1]) (by rw [← hG1]; exact hP 0 _ rfl) hS dX0_firstWrong_39
    | succ n ih =>
      intro i Sa H locs ls hi hSs hF hG hP hD hS hl
      refine lv_iload_n hx hb dX0_firstWrong_6 rfl (lv_at hl 0 rfl) ?_
      refine lv_aload_n hx hb dX0_firstWrong_7 rfl (lv_at hl 1 rfl) ?_
      refine va_get (D := D) (ci := 0) (v := .int (nI len)) (C := RX0) (T := TX0) (N := 6) hx hb hts hi0 hown hK hP 0 rfl rfl 1 (by decide) hfl15 (fun _ h9 => h9) rfl dX0_firstWrong_8 ?_
      refine q_geN (tgt := 35) hx hb (by omega) (by omega) dX0_firstWrong_11 (by decide) (fun c3 => absurd c3 (by omega)) (fun c3 => ?_)
      refine lv_aload_n hx hb dX0_firstWrong_14 rfl (lv_at hl 1 rfl) ?_
      refine lv_aload_n hx hb dX0_firstWrong_15 rfl (lv_at hl 1 rfl) ?_
      refine va_get (D := D) (ci := 0) (v := .ref sg) (C := RX0) (T := TX0) (N := 6) hx hb hts hi0 hown hK hP 0 rfl rfl 0 (by decide) hfl9 (fun _ h9 => h9) rfl dX0_firstWrong_16 ?_
      refine lv_iload_n hx hb dX0_firstWrong_19 rfl (lv_at hl 0 rfl) ?_
      refine q_ld hx hb hK hP 1 0 rfl rfl (j := i) (v := (nI ((ch i)))) (by omega) (by omega) rfl dX0_firstWrong_20 ?_
      refine q_ci1 (i := 0) (ws' := wE eo sg cI len (p_nx ((ch i)) Sa) ch) (va_runV (rm := { frames := 2, cells := 0, slots := 0, locals := 44 }) (As := [.int (nI ((ch i)))]) (rest := []) ⟨hx, hb, hml, hown, hts⟩ (m0_read l D cI eo sg len ((ch i)) Sa ch (hch _ (by omega)) hSs hne) (cwV 1 hts gX0_firstWrong_X0_read rfl rfl rfl (by decide +kernel) ⟨Nat.le_of_ble_eq_true rfl, Nat.le_of_ble_eq_true rfl⟩) (q_pV (ci := 0) (q0 := 0) hP hK rfl rfl) rfl rfl hl.1 rfl (lv_room (Nat.le_of_ble_eq_true rfl)) dX0_firstWrong_21 ⟨Nat.le_of_ble_eq_true rfl, Nat.le_of_ble_eq_true rfl⟩) hP hD hS rfl rfl rfl (fun x4 H locs e4 hP hD hS => ?_)
      have e4 : x4 = p_b (p_ok ((ch i)) Sa) := e4
      refine lv_if_ne (tgt := 29) hx hb dX0_firstWrong_24 (by decide) (fun c5 => ?_) (fun c5 => ?_)
      ·
        refine lv_iinc (v := (nI (i + 1))) (lv' := [(1, .int (nI (i + 1))), (0, .ref eo)]) hx hb dX0_firstWrong_29 hl (k := 0) rfl (q_inc i 1 (i + 1) (by omega)) (by decide) rfl (fun ls hl => ?_)
        refine lv_goto (tgt := 6) hx hb dX0_firstWrong_32 (by decide) ?_
        have hok : p_ok (ch i) Sa = true := by
          rw [e4] at c5
          exact p_b_t c5
        have hF : p_fw ch n (i + 1) (p_nx (ch i) Sa) = p_fw ch len 0 (0, S.2) := by rw [← hF]; show _ = (if p_ok (ch i) Sa then _ else _); rw [if_pos hok]
        have hG : p_fe ch n (i + 1) (p_nx (ch i) Sa) = p_fe ch len 0 (0, S.2) := by rw [← hG]; show _ = (if p_ok (ch i) Sa then _ else _); rw [if_pos hok]
        exact ih (i + 1) (p_nx (ch i) Sa) _ _ _ (by omega) (p_smN (hch i (by omega)) hSs) hF hG hP hD hS (lv_sub hl [0, 1] rfl)
      ·
        refine lv_iload_n hx hb dX0_firstWrong_27 rfl (lv_at hl 0 rfl) ?_
        have hok : p_ok (ch i) Sa = false := by
          rw [e4] at c5
          exact p_b_f c5
        have hF : i = p_fw ch len 0 (0, S.2) := by rw [← hF]; show _ = (if p_ok (ch i) Sa then _ else _); rw [hok]; rfl
        have hG : Sa = p_fe ch len 0 (0, S.2) := by rw [← hG]; show _ = (if p_ok (ch i) Sa then _ else _); rw [hok]; rfl
        have hN : p_nx (ch i) Sa = Sa := p_nx_f hok
        rw [hN] at hP
        exact hret _ _ _ _ _ rfl (by rw [← hF]) (by rw [← hG]; exact hP 0 _ rfl) hS dX0_firstWrong_28
  exact LP (len - 0) 0 (0, S.2) _ _ _ (by omega) hS1 rfl rfl hP hD hS (lv_sub hl [0, 1] rfl)
set_option maxHeartbeats 4000000 in
set_option maxRecDepth 100000 in
theorem m0_areComplete (l : Launch) (D : va_G) (cI : ClassId) (eo sg len : Nat) (S : PS) (ch : Nat → Nat) (hS0 : p_sm S) (hch : ∀ j, j < len → ch j < 128) (hlen : len ≤ 60) (hne : eo ≠ sg) : q_I l yX0_areComplete wsX0_areComplete { frames := 4, cells := 0, slots := 0, locals := 86 } [.ref eo] (q_bp D (wE eo sg cI len S ch) [(cI, .int)]) (fun v => v = p_b (p_cpl ch len S)) (fun H => va_at D vwCl (eo, oE sg len (p_fe ch len 0 (0, S.2))) H) (fun q => q = eo) 0 0 := by
  refine q_goI (cc := cX0_areComplete) (maxL := 1) (ty := .boolean) (lv0 := [(0, .ref eo)]) (by decide) rfl (Nat.le_of_ble_eq_true rfl) rfl ?_
  intro p e s m args below meth c Q ls hx hb hml hts hown hP hK hl hret
  have hi0 : ∀ w ∈ wsX00, w ∈ wsX0_areComplete := by decide +kernel
  have hfl15 := hts (.fieldLink RX0 15 "WhisperedPots$Errands" "length" "I") (by decide +kernel)
  have hfl19 := hts (.fieldLink RX0 19 "WhisperedPots$Errands" "at" "I") (by decide +kernel)
  have hfl28 := hts (.fieldLink RX0 28 "WhisperedPots$Errands" "tea" "I") (by decide +kernel)
  have hS : va_S (fun q => q = eo) s.heap s.heap [] := va_S.rf
  have hD : va_D (fun _ => True) (wE eo sg cI len S ch) := q_dT hne
  obtain ⟨h31, h32, h33, h34⟩ := hS0
  have hfe : p_sm (p_fe ch len 0 (0, S.2)) := p_smE hch (S := (0, S.2)) ⟨Nat.zero_le _, h32, h33, h34⟩ len 0 (Nat.le_of_eq (Nat.zero_add _))
  obtain ⟨g31, g32, g33, g34⟩ := hfe
  have hfw : p_fw ch len 0 (0, S.2) ≤ len := Nat.le_trans (p_fwle ch len 0 (0, S.2)) (Nat.le_of_eq (Nat.zero_add _))
  refine lv_aload_n hx hb dX0_areComplete_0 rfl (lv_at hl 0 rfl) ?_
  refine q_ci1 (i := 0) (ws' := wE eo sg cI len (p_fe ch len 0 (0, S.2)) ch) (va_runV (rm := { frames := 3, cells := 0, slots := 0, locals := 65 }) (As := []) (rest := []) ⟨hx, hb, hml, hown, hts⟩ (m0_firstWrong l D cI eo sg len S ch ⟨h31, h32, h33, h34⟩ hch hlen hne) (cwV 0 hts gX0_areComplete_X0_firstWrong rfl rfl rfl (by decide +kernel) ⟨Nat.le_of_ble_eq_true rfl, Nat.le_of_ble_eq_true rfl⟩) (q_pV (ci := 0) (q0 := 0) hP hK rfl rfl) rfl rfl hl.1 rfl (lv_room (Nat.le_of_ble_eq_true rfl)) dX0_areComplete_1 ⟨Nat.le_of_ble_eq_true rfl, Nat.le_of_ble_eq_true rfl⟩) hP hD hS rfl rfl rfl (fun x1 H locs e1 hP hD hS => ?_)
  have e1 : x1 = nI (p_fw ch len 0 (0, S.2)) := e1
  subst e1
  refine lv_aload_n hx hb dX0_areComplete_4 rfl (lv_at hl 0 rfl) ?_
  refine va_get (D := D) (ci := 0) (v := .int (nI len)) (C := RX0) (T := TX0) (N := 6) hx hb hts hi0 hown hK hP 0 rfl rfl 1 (by decide) hfl15 (fun _ h9 => h9) rfl dX0_areComplete_5 ?_
  refine q_geN (tgt := 13) hx hb (by omega) (by omega) dX0_areComplete_8 (by decide) (fun c2 => ?_) (fun c2 => ?_)
  ·
    refine lv_aload_n hx hb dX0_areComplete_13 rfl (lv_at hl 0 rfl) ?_
    refine va_get (D := D) (ci := 0) (v := .int (nI (((p_fe ch len 0 (0, S.2)).1)))) (C := RX0) (T := TX0) (N := 6) hx hb hts hi0 hown hK hP 0 rfl rfl 2 (by decide) hfl19 (fun _ h9 => h9) rfl dX0_areComplete_14 ?_
    refine lv_iconst (v := nI 3) hx hb dX0_areComplete_17 (by decide) ?_
    refine q_eqN (tgt := 36) hx hb (by omega) (by omega) dX0_areComplete_18 (by decide) (fun c3 => ?_) (fun c3 => ?_)
    ·
      refine lv_iconst (v := nI 1) hx hb dX0_areComplete_36 (by decide) ?_
      refine lv_goto (tgt := 41) hx hb dX0_areComplete_37 (by decide) ?_
      have hz : p_cpl ch len S = true := by
        unfold p_cpl
        simp only [Bool.and_eq_true, Bool.or_eq_true, Bool.and_eq_false_iff, Bool.or_eq_false_iff, decide_eq_true_eq, decide_eq_false_iff_not]
        omega
      exact hret _ _ _ _ _ (by decide) (by rw [hz]; rfl) (hP 0 _ rfl) hS dX0_areComplete_41
    ·
      refine lv_aload_n hx hb dX0_areComplete_21 rfl (lv_at hl 0 rfl) ?_
      refine va_get (D := D) (ci := 0) (v := .int (nI (((p_fe ch len 0 (0, S.2)).1)))) (C := RX0) (T := TX0) (N := 6) hx hb hts hi0 hown hK hP 0 rfl rfl 2 (by decide) hfl19 (fun _ h9 => h9) rfl dX0_areComplete_22 ?_
      refine lv_iconst (v := nI 2) hx hb dX0_areComplete_25 (by decide) ?_
      refine q_neN (tgt := 40) hx hb (by omega) (by omega) dX0_areComplete_26 (by decide) (fun c4 => ?_) (fun c4 => ?_)
      ·
        refine lv_iconst (v := nI 0) hx hb dX0_areComplete_40 (by decide) ?_
        have hz : p_cpl ch len S = false := by
          unfold p_cpl
          simp only [Bool.and_eq_true, Bool.or_eq_true, Bool.and_eq_false_iff, Bool.or_eq_false_iff, decide_eq_true_eq, decide_eq_false_iff_not]
          omega
        exact hret _ _ _ _ _ (by decide) (by rw [hz]; rfl) (hP 0 _ rfl) hS dX0_areComplete_41
      ·
        refine lv_aload_n hx hb dX0_areComplete_29 rfl (lv_at hl 0 rfl) ?_
        refine va_get (D := D) (ci := 0) (v := .int (nI (((p_fe ch len 0 (0, S.2)).2.2.2)))) (C := RX0) (T := TX0) (N := 6) hx hb hts hi0 hown hK hP 0 rfl rfl 5 (by decide) hfl28 (fun _ h9 => h9) rfl dX0_areComplete_30 ?_
        refine q_zle (tgt := 40) hx hb (by omega) dX0_areComplete_33 (by decide) (fun c5 => ?_) (fun c5 => ?_)
        ·
          refine lv_iconst (v := nI 0) hx hb dX0_areComplete_40 (by decide) ?_
          have hz : p_cpl ch len S = false := by
            unfold p_cpl
            simp only [Bool.and_eq_true, Bool.or_eq_true, Bool.and_eq_false_iff, Bool.or_eq_false_iff, decide_eq_true_eq, decide_eq_false_iff_not]
            omega
          exact hret _ _ _ _ _ (by decide) (by rw [hz]; rfl) (hP 0 _ rfl) hS dX0_areComplete_41
        ·
          refine lv_iconst (v := nI 1) hx hb dX0_areComplete_36 (by decide) ?_
          refine lv_goto (tgt := 41) hx hb dX0_areComplete_37 (by decide) ?_
          have hz : p_cpl ch len S = true := by
            unfold p_cpl
            simp only [Bool.and_eq_true, Bool.or_eq_true, Bool.and_eq_false_iff, Bool.or_eq_false_iff, decide_eq_true_eq, decide_eq_false_iff_not]
            omega
          exact hret _ _ _ _ _ (by decide) (by rw [hz]; rfl) (hP 0 _ rfl) hS dX0_areComplete_41
  ·
    refine lv_iconst (v := nI 0) hx hb dX0_areComplete_11 (by decide) ?_
    have hz : p_cpl ch len S = false := by
      unfold p_cpl
      simp only [Bool.and_eq_true, Bool.or_eq_true, Bool.and_eq_false_iff, Bool.or_eq_false_iff, decide_eq_true_eq, decide_eq_false_iff_not]
      omega
    exact hret _ _ _ _ _ (by decide) (by rw [hz]; rfl) (hP 0 _ rfl) hS dX0_areComplete_12
set_option maxHeartbeats 4000000 in
set_option maxRecDepth 100000 in
theorem m0_endsPart (l : Launch) (D : va_G) (cI : ClassId) (eo sg len i : Nat) (S : PS) (ch : Nat → Nat) (hi : i < len) (hlen : len ≤ 60) (hch : ∀ j, j < len → ch j < 128) : q_I l yX0_endsPart wsX0_endsPart { frames := 0, cells := 0, slots := 0, locals := 0 } [.ref eo, .int (nI i)] (q_bp D (wE eo sg cI len S ch) [(cI, .int)]) (fun v => v = p_b (p_end ch len i)) (fun H => True) (fun _ => False) 0 0 := by
  refine q_goI (cc := cX0_endsPart) (maxL := 2) (ty := .boolean) (lv0 := [(0, .ref eo), (1, .int (nI i))]) (by decide) rfl (Nat.le_of_ble_eq_true rfl) rfl ?_
  intro p e s m args below meth c Q ls hx hb hml hts hown hP hK hl hret
  have hi0 : ∀ w ∈ wsX00, w ∈ wsX0_endsPart := by decide +kernel
  have hfl9 := hts (.fieldLink RX0 9 "WhisperedPots$Errands" "signs" "[I") (by decide +kernel)
  have hfl15 := hts (.fieldLink RX0 15 "WhisperedPots$Errands" "length" "I") (by decide +kernel)
  have hS : va_S (fun _ => False) s.heap s.heap [] := va_S.rf
  have hci := hch i hi
  refine lv_aload_n hx hb dX0_endsPart_0 rfl (lv_at hl 0 rfl) ?_
  refine va_get (D := D) (ci := 0) (v := .ref sg) (C := RX0) (T := TX0) (N := 6) hx hb hts hi0 hown hK hP 0 rfl rfl 0 (by decide) hfl9 (fun _ h9 => h9) rfl dX0_endsPart_1 ?_
  refine lv_iload_n hx hb dX0_endsPart_4 rfl (lv_at hl 1 rfl) ?_
  refine q_ld hx hb hK hP 1 0 rfl rfl (j := i) (v := (nI ((ch i)))) (by omega) (by omega) rfl dX0_endsPart_5 ?_
  refine lv_bipush (v := nI 59) hx hb dX0_endsPart_6 (by decide) ?_
  refine q_eqN (tgt := 21) hx hb (by omega) (by omega) dX0_endsPart_8 (by decide) (fun c1 => ?_) (fun c1 => ?_)
  ·
    refine lv_iconst (v := nI 1) hx hb dX0_endsPart_21 (by decide) ?_
    refine lv_goto (tgt := 26) hx hb dX0_endsPart_22 (by decide) ?_
    refine hret _ _ _ _ _ (by decide) ?_ trivial hS dX0_endsPart_26
    have hz : p_end ch len i = true := by
      unfold p_end
      simp only [Bool.or_eq_true, Bool.or_eq_false_iff, decide_eq_true_eq, decide_eq_false_iff_not]
      omega
    rw [hz]
    rfl
  ·
    refine lv_iload_n hx hb dX0_endsPart_11 rfl (lv_at hl 1 rfl) ?_
    refine lv_aload_n hx hb dX0_endsPart_12 rfl (lv_at hl 0 rfl) ?_
    refine va_get (D := D) (ci := 0) (v := .int (nI len)) (C := RX0) (T := TX0) (N := 6) hx hb hts hi0 hown hK hP 0 rfl rfl 1 (by decide) hfl15 (fun _ h9 => h9) rfl dX0_endsPart_13 ?_
    refine lv_iconst (v := nI 1) hx hb dX0_endsPart_16 (by decide) ?_
    refine q_subN hx hb (len - 1) (by omega) dX0_endsPart_17 ?_
    refine q_neN (tgt := 25) hx hb (by omega) (by omega) dX0_endsPart_18 (by decide) (fun c2 => ?_) (fun c2 => ?_)
    ·
      refine lv_iconst (v := nI 0) hx hb dX0_endsPart_25 (by decide) ?_
      refine hret _ _ _ _ _ (by decide) ?_ trivial hS dX0_endsPart_26
      have hz : p_end ch len i = false := by
        unfold p_end
        simp only [Bool.or_eq_true, Bool.or_eq_false_iff, decide_eq_true_eq, decide_eq_false_iff_not]
        omega
      rw [hz]
      rfl
    ·
      refine lv_iconst (v := nI 1) hx hb dX0_endsPart_21 (by decide) ?_
      refine lv_goto (tgt := 26) hx hb dX0_endsPart_22 (by decide) ?_
      refine hret _ _ _ _ _ (by decide) ?_ trivial hS dX0_endsPart_26
      have hz : p_end ch len i = true := by
        unfold p_end
        simp only [Bool.or_eq_true, Bool.or_eq_false_iff, decide_eq_true_eq, decide_eq_false_iff_not]
        omega
      rw [hz]
      rfl
