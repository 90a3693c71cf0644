theorem m3_isDone (l : Launch) (D : va_G) (cI : ClassId) (o ps pa pv pn px : Nat) (f fa fv fn fx : Nat → Int32) (th mn kp ln sp wr : Int32) (dg : Int64) (c u t : Nat) (B : Nat) (hI : Inv B f) (hB : B + 1600 < 2000000000) (hl : p_let c = true) (hu : u < p_many c) (ht : c = 98 → 1 ≤ t ∧ t ≤ 200) (hD : va_D (fun _ => True) (wR o ps pa pv pn px cI (oM ps pa pv pn px th mn kp ln sp wr (nI c) (nI u) (nI t) dg) (rr f) fa fv fn fx)) : q_I l yX3_isDone wsX3_isDone { frames := 7, cells := 0, slots := 0, locals := 160 } [.ref o] (q_bp D (wR o ps pa pv pn px cI (oM ps pa pv pn px th mn kp ln sp wr (nI c) (nI u) (nI t) dg) (rr f) fa fv fn fx) [(cI, .int)]) (fun v => v = p_b (e_ok f c u t)) (fun H => va_P D vwCl (wR o ps pa pv pn px cI (oM ps pa pv pn px th mn kp ln sp wr (nI c) (nI u) (nI t) dg) (rr (if e_ok f c u t then e_do f c u t else f)) fa fv fn fx) H) (AM o ps pa pv pn px) 0 0 := by
  rcases p_let_s hl with rfl | rfl | rfl | rfl | rfl | rfl
  · have ht2 := ht rfl
    by_cases hk : f (75 + u) + nI t ≤ nI 200
    · have e : e_ok f 98 u t = true := decide_eq_true hk
      rw [e]
      exact m3_isDone_98t l D cI o ps pa pv pn px f fa fv fn fx th mn kp ln sp wr dg u t B hI hB hu ht2.1 ht2.2 hk hD
    · have e : e_ok f 98 u t = false := decide_eq_false hk
      rw [e]
      exact m3_isDone_98f l D cI o ps pa pv pn px f fa fv fn fx th mn kp ln sp wr dg u t B hI hB hu ht2.1 ht2.2 hk hD
  · by_cases hk : g_wy f u = 0
    · have e : e_ok f 112 u t = true := decide_eq_true hk
      rw [e]
      exact m3_isDone_112t l D cI o ps pa pv pn px f fa fv fn fx th mn kp ln sp wr dg u t B hI hB hu hk hD
    · have e : e_ok f 112 u t = false := decide_eq_false hk
      rw [e]
      exact m3_isDone_112f l D cI o ps pa pv pn px f fa fv fn fx th mn kp ln sp wr dg u t B hI hB hu hk hD
  · exact m3_isDone_110 l D cI o ps pa pv pn px f fa fv fn fx th mn kp ln sp wr dg u t B hI hB hu hD
  · exact m3_isDone_108 l D cI o ps pa pv pn px f fa fv fn fx th mn kp ln sp wr dg u t B hI hB hu hD
  · exact m3_isDone_114 l D cI o ps pa pv pn px f fa fv fn fx th mn kp ln sp wr dg u t B hI hB hu hD
  · exact m3_isDone_115 l D cI o ps pa pv pn px f fa fv fn fx th mn kp ln sp wr dg u t B hI hB hu hD
set_option maxHeartbeats 4000000 in
set_option maxRecDepth 100000 in
theorem m3_goesThrough0 (l : Launch) (D : va_G) (cI : ClassId) (o ps pa pv pn px : Nat) (f fa fv fn fx : Nat → Int32) (th mn kp sp wr le wh : Int32) (dg : Int64) (tz0 : Nat) (ch : Nat → Nat) (len : Nat) (hlen : len ≤ 60) (hfx : ∀ j, j < len → fx j = nI (ch j)) (hch : ∀ j, j < len → ch j < 128)  (hD : va_D (fun _ => True) (wR o ps pa pv pn px cI (oM ps pa pv pn px th mn kp (nI len) sp wr le wh (nI tz0) dg) (rr f) fa fv fn fx)) : q_I l yX3_goesThrough wsX3_goesThrough { frames := 8, cells := 0, slots := 0, locals := 180 } [.ref o, .int (nI 0)] (q_bp D (wR o ps pa pv pn px cI (oM ps pa pv pn px th mn kp (nI len) sp wr le wh (nI tz0) dg) (rr f) fa fv fn fx) [(cI, .int)]) (fun v => True) (fun H => ∃ (le wh : Int32) (tz : Nat), va_P D vwCl (wR o ps pa pv pn px cI (oM ps pa pv pn px th mn kp (nI len) (nI ((gt ch len (len + 1) 0 tz0).1)) (p_b (gt ch len (len + 1) 0 tz0).2) le wh (nI tz) dg) (rr f) fa fv fn fx) H) (AM o ps pa pv pn px) 0 0 := by
  refine q_goI (cc := cX3_goesThrough) (maxL := 5) (ty := .int) (lv0 := [(0, .ref o), (1, .int (nI 0))]) (by decide) rfl (Nat.le_of_ble_eq_true rfl) rfl ?_
  intro p e s m args below meth c Q ls hx hb hml hts hown hP hK hl hret
  have hi3 : ∀ w ∈ wsX30, w ∈ wsX3_goesThrough := by decide +kernel
  have hfl106 := hts (.fieldLink RX3 106 "WhisperedPotsModel" "spot" "I") (by decide +kernel)
  have hfl102 := hts (.fieldLink RX3 102 "WhisperedPotsModel" "isWrong" "Z") (by decide +kernel)
  have hfl99 := hts (.fieldLink RX3 99 "WhisperedPotsModel" "length" "I") (by decide +kernel)
  have hS : va_S (AM o ps pa pv pn px) s.heap s.heap [] := va_S.rf
  have hne : o ≠ ps := fun h => absurd (hD.1 0 1 _ _ rfl rfl h) (by decide)
  refine lv_aload_n hx hb dX3_goesThrough_0 rfl (lv_at hl 0 rfl) ?_
  refine lv_iconst (v := nI 0) hx hb dX3_goesThrough_1 (by decide) ?_
  refine q_pt (D := D) (ci := 3) (v := .int (nI 0)) (ty := .int) (C := RX3) (T := TX3) (N := 15) hx hb hts hi3 tyX3 tyX3_ok nmX3 hown hK hP hD hS (Or.inl rfl) 0 rfl rfl 9 (by decide) hfl106 (fun _ h9 => h9) rfl (by decide +kernel) rfl rfl (Nat.le_of_ble_eq_true rfl) (ws' := wR o ps pa pv pn px cI (oM ps pa pv pn px th mn kp (nI len) (nI 0) wr le wh (nI tz0) dg) (rr f) fa fv fn fx) rfl dX3_goesThrough_2 (fun H locs hP hD hS => ?_)
  refine lv_aload_n hx hb dX3_goesThrough_5 rfl (lv_at hl 0 rfl) ?_
  refine lv_iconst (v := nI 0) hx hb dX3_goesThrough_6 (by decide) ?_
  refine q_pt (D := D) (ci := 3) (v := .int (nI 0)) (ty := .boolean) (C := RX3) (T := TX3) (N := 15) hx hb hts hi3 tyX3 tyX3_ok nmX3 hown hK hP hD hS (Or.inl rfl) 0 rfl rfl 10 (by decide) hfl102 (fun _ h9 => h9) rfl (by decide +kernel) rfl rfl (Nat.le_of_ble_eq_true rfl) (ws' := wR o ps pa pv pn px cI (oM ps pa pv pn px th mn kp (nI len) (nI 0) (nI 0) le wh (nI tz0) dg) (rr f) fa fv fn fx) rfl dX3_goesThrough_7 (fun H locs hP hD hS => ?_)
  refine lv_iconst (v := nI 0) hx hb dX3_goesThrough_10 (by decide) ?_
  refine lv_istore_n (lv' := [(2, .int (nI 0)), (0, .ref o), (1, .int (nI 0))]) hx hb dX3_goesThrough_11 rfl hl (by decide) rfl (fun ls hl => ?_)
  refine lv_iconst (v := nI 1) hx hb dX3_goesThrough_12 (by decide) ?_
  refine lv_istore_n (lv' := [(3, .int (nI 1)), (2, .int (nI 0)), (0, .ref o), (1, .int (nI 0))]) hx hb dX3_goesThrough_13 rfl hl (by decide) rfl (fun ls hl => ?_)
  have LP : ∀ (n i tz cnt : Nat) (le wh : Int32) (H : Heap) (locs : List Loc) (ls : Array Slot), len < i + n → (hil : i ≤ len) → (hG : gt ch len n i tz = (gt ch len (len + 1) 0 tz0)) → va_P D vwCl (wR o ps pa pv pn px cI (oM ps pa pv pn px th mn kp (nI len) (nI i) (nI 0) le wh (nI tz) dg) (rr f) fa fv fn fx) H → va_D (fun _ => True) (wR o ps pa pv pn px cI (oM ps pa pv pn px th mn kp (nI len) (nI i) (nI 0) le wh (nI tz) dg) (rr f) fa fv fn fx) → va_S (AM o ps pa pv pn px) s.heap H locs → lv_has ls 5 [(3, .int (nI 1)), (2, .int (nI cnt)), (0, .ref o), (1, .int (nI 0))] → W p l e { frames := 8, cells := 0, slots := 0, locals := 180 } s m args below meth c H locs 0 0 Q (F0 m 14 ls []) := by
    intro n
    induction n with
    | zero =>
      intro i tz cnt le wh H locs ls hin hil
      exact absurd hin (by omega)
    | succ n ih =>
      intro i tz cnt le wh H locs ls hin hil hG hP hD hS hl
      refine lv_iload_n hx hb dX3_goesThrough_14 rfl (lv_at hl 0 rfl) ?_
      refine lv_if_eq (tgt := 109) hx hb dX3_goesThrough_15 (by decide) (fun c1 => absurd c1 (by decide)) (fun c1 => ?_)
      refine lv_aload_n hx hb dX3_goesThrough_18 rfl (lv_at hl 2 rfl) ?_
      refine q_cvF (BH := fun H => va_P D vwCl (wR o ps pa pv pn px cI (oM ps pa pv pn px th mn kp (nI len) (nI ((rd ch len i tz).1)) (p_b (rd ch len i tz).2.1) (nI ((rd ch len i tz).2.2.1)) (nI ((rd ch len i tz).2.2.2.1)) (nI ((rd ch len i tz).2.2.2.2)) dg) (rr f) fa fv fn fx) H) (va_runV (rm := { frames := 3, cells := 0, slots := 0, locals := 68 }) (As := []) (rest := []) ⟨hx, hb, hml, hown, hts⟩ (m3_readErrand l D cI o ps pa pv pn px f fa fv fn fx th mn kp le wh dg tz ch len i hlen (by omega) hfx hch hD) (cwV 0 hts gX3_goesThrough_X3_readErrand rfl rfl rfl (by decide +kernel) ⟨Nat.le_of_ble_eq_true rfl, Nat.le_of_ble_eq_true rfl⟩) (q_pV (ci := 3) (q0 := 0) hP hK rfl rfl) rfl rfl hl.1 rfl (lv_room (Nat.le_of_ble_eq_true rfl)) dX3_goesThrough_19 ⟨Nat.le_of_ble_eq_true rfl, Nat.le_of_ble_eq_true rfl⟩) (fun _ h => h) hS (fun _ h => h) (fun H locs hP hS => ?_)
      have hD := q_D2 (ws' := wR o ps pa pv pn px cI (oM ps pa pv pn px th mn kp (nI len) (nI ((rd ch len i tz).1)) (p_b (rd ch len i tz).2.1) (nI ((rd ch len i tz).2.2.1)) (nI ((rd ch len i tz).2.2.2.1)) (nI ((rd ch len i tz).2.2.2.2)) dg) (rr f) fa fv fn fx) hD rfl
      rcases hrd : rd ch len i tz with ⟨j, w, c, u, t⟩
      rw [hrd] at hP hD
      obtain ⟨hij, hjl, hok⟩ := rd_ok hil hrd
      have hG : (if w then (j, true) else if j < len then (if ch j = 59 then gt ch len n (1 + j) t else (j, true)) else (j, false)) = (gt ch len (len + 1) 0 tz0) := by rw [← hG]; show _ = (if (rd ch len i tz).2.1 then _ else _); rw [hrd]
      cases w with
      | true =>
        have hP : va_P D vwCl (wR o ps pa pv pn px cI (oM ps pa pv pn px th mn kp (nI len) (nI j) (nI 1) (nI c) (nI u) (nI t) dg) (rr f) fa fv fn fx) H := hP
        have hD : va_D (fun _ => True) (wR o ps pa pv pn px cI (oM ps pa pv pn px th mn kp (nI len) (nI j) (nI 1) (nI c) (nI u) (nI t) dg) (rr f) fa fv fn fx) := hD
        rw [if_pos rfl] at hG
        refine lv_aload_n hx hb dX3_goesThrough_22 rfl (lv_at hl 2 rfl) ?_
        refine va_get (D := D) (ci := 3) (v := .int (nI 1)) (C := RX3) (T := TX3) (N := 15) hx hb hts hi3 hown hK hP 0 rfl rfl 10 (by decide) hfl102 (fun _ h9 => h9) rfl dX3_goesThrough_23 ?_
        refine lv_if_ne (tgt := 44) hx hb dX3_goesThrough_26 (by decide) (fun c2 => ?_) (fun c2 => absurd c2 (by decide))
        refine lv_iconst (v := nI 0) hx hb dX3_goesThrough_44 (by decide) ?_
        refine lv_istore_n (lv' := [(3, .int (nI 0)), (2, .int (nI cnt)), (0, .ref o), (1, .int (nI 0))]) hx hb dX3_goesThrough_45 rfl hl (by decide) rfl (fun ls hl => ?_)
        refine lv_iload_n hx hb dX3_goesThrough_46 rfl (lv_at hl 1 rfl) ?_
        refine lv_iload_n hx hb dX3_goesThrough_47 rfl (lv_at hl 0 rfl) ?_
        refine lv_if_eq (tgt := 55) hx hb dX3_goesThrough_48 (by decide) (fun c3 => ?_) (fun c3 => absurd c3 (by decide))
        refine lv_iconst (v := nI 0) hx hb dX3_goesThrough_55 (by decide) ?_
        refine q_addN hx hb cnt (by omega) dX3_goesThrough_56 ?_
        refine lv_istore_n (lv' := [(2, .int (nI cnt)), (3, .int (nI 0)), (0, .ref o), (1, .int (nI 0))]) hx hb dX3_goesThrough_57 rfl hl (by decide) rfl (fun ls hl => ?_)
        refine lv_iload_n hx hb dX3_goesThrough_58 rfl (lv_at hl 1 rfl) ?_
        refine lv_if_eq (tgt := 77) hx hb dX3_goesThrough_59 (by decide) (fun c4 => ?_) (fun c4 => absurd c4 (by decide))
        refine lv_iconst (v := nI 0) hx hb dX3_goesThrough_77 (by decide) ?_
        refine lv_istore_n (lv' := [(3, .int (nI 0)), (2, .int (nI cnt)), (0, .ref o), (1, .int (nI 0))]) hx hb dX3_goesThrough_78 rfl hl (by decide) rfl (fun ls hl => ?_)
        refine lv_iload_n hx hb dX3_goesThrough_79 rfl (lv_at hl 0 rfl) ?_
        refine lv_if_eq (tgt := 14) hx hb dX3_goesThrough_80 (by decide) (fun c5 => ?_) (fun c5 => absurd c5 (by decide))
        refine lv_iload_n hx hb dX3_goesThrough_14 rfl (lv_at hl 0 rfl) ?_
        refine lv_if_eq (tgt := 109) hx hb dX3_goesThrough_15 (by decide) (fun c6 => ?_) (fun c6 => absurd c6 (by decide))
        refine lv_iload_n hx hb dX3_goesThrough_109 rfl (lv_at hl 1 rfl) ?_
        have hG : (j, true) = (gt ch len (len + 1) 0 tz0) := hG
        exact hret _ _ _ _ _ rfl trivial ⟨_, _, _, (by rw [← hG]; exact hP)⟩ hS dX3_goesThrough_110
      | false =>
        have hP : va_P D vwCl (wR o ps pa pv pn px cI (oM ps pa pv pn px th mn kp (nI len) (nI j) (nI 0) (nI c) (nI u) (nI t) dg) (rr f) fa fv fn fx) H := hP
        have hD : va_D (fun _ => True) (wR o ps pa pv pn px cI (oM ps pa pv pn px th mn kp (nI len) (nI j) (nI 0) (nI c) (nI u) (nI t) dg) (rr f) fa fv fn fx) := hD
        rw [if_neg Bool.false_ne_true] at hG
        obtain ⟨hij2, hlet, hum, ht98⟩ := hok rfl
        refine lv_aload_n hx hb dX3_goesThrough_22 rfl (lv_at hl 2 rfl) ?_
        refine va_get (D := D) (ci := 3) (v := .int (nI 0)) (C := RX3) (T := TX3) (N := 15) hx hb hts hi3 hown hK hP 0 rfl rfl 10 (by decide) hfl102 (fun _ h9 => h9) rfl dX3_goesThrough_23 ?_
        refine lv_if_ne (tgt := 44) hx hb dX3_goesThrough_26 (by decide) (fun c7 => absurd c7 (by decide)) (fun c7 => ?_)
        refine lv_iload_n hx hb dX3_goesThrough_29 rfl (lv_at hl 3 rfl) ?_
        refine lv_if_eq (tgt := 40) hx hb dX3_goesThrough_30 (by decide) (fun c8 => ?_) (fun c8 => absurd c8 (by decide))
        refine lv_iconst (v := nI 1) hx hb dX3_goesThrough_40 (by decide) ?_
        refine lv_goto (tgt := 45) hx hb dX3_goesThrough_41 (by decide) ?_
        refine lv_istore_n (lv' := [(3, .int (nI 1)), (2, .int (nI cnt)), (0, .ref o), (1, .int (nI 0))]) hx hb dX3_goesThrough_45 rfl hl (by decide) rfl (fun ls hl => ?_)
        refine lv_iload_n hx hb dX3_goesThrough_46 rfl (lv_at hl 1 rfl) ?_
        refine lv_iload_n hx hb dX3_goesThrough_47 rfl (lv_at hl 0 rfl) ?_
        refine lv_if_eq (tgt := 55) hx hb dX3_goesThrough_48 (by decide) (fun c9 => absurd c9 (by decide)) (fun c9 => ?_)
        refine lv_iconst (v := nI 1) hx hb dX3_goesThrough_51 (by decide) ?_
        refine lv_goto (tgt := 56) hx hb dX3_goesThrough_52 (by decide) ?_
        refine q_addN hx hb (1 + cnt) (by omega) dX3_goesThrough_56 ?_
        refine lv_istore_n (lv' := [(2, .int (nI (1 + cnt))), (3, .int (nI 1)), (0, .ref o), (1, .int (nI 0))]) hx hb dX3_goesThrough_57 rfl hl (by decide) rfl (fun ls hl => ?_)
        refine lv_iload_n hx hb dX3_goesThrough_58 rfl (lv_at hl 1 rfl) ?_
        refine lv_if_eq (tgt := 77) hx hb dX3_goesThrough_59 (by decide) (fun c10 => absurd c10 (by decide)) (fun c10 => ?_)
        refine lv_aload_n hx hb dX3_goesThrough_62 rfl (lv_at hl 2 rfl) ?_
        refine va_get (D := D) (ci := 3) (v := .int (nI j)) (C := RX3) (T := TX3) (N := 15) hx hb hts hi3 hown hK hP 0 rfl rfl 9 (by decide) hfl106 (fun _ h9 => h9) rfl dX3_goesThrough_63 ?_
        refine lv_aload_n hx hb dX3_goesThrough_66 rfl (lv_at hl 2 rfl) ?_
        refine va_get (D := D) (ci := 3) (v := .int (nI len)) (C := RX3) (T := TX3) (N := 15) hx hb hts hi3 hown hK hP 0 rfl rfl 8 (by decide) hfl99 (fun _ h9 => h9) rfl dX3_goesThrough_67 ?_
        refine q_geN (tgt := 77) hx hb (by omega) (by omega) dX3_goesThrough_70 (by decide) (fun c11 => ?_) (fun c11 => ?_)
        ·
          refine lv_iconst (v := nI 0) hx hb dX3_goesThrough_77 (by decide) ?_
          refine lv_istore_n (lv' := [(3, .int (nI 0)), (2, .int (nI (1 + cnt))), (0, .ref o), (1, .int (nI 0))]) hx hb dX3_goesThrough_78 rfl hl (by decide) rfl (fun ls hl => ?_)
          refine lv_iload_n hx hb dX3_goesThrough_79 rfl (lv_at hl 0 rfl) ?_
          refine lv_if_eq (tgt := 14) hx hb dX3_goesThrough_80 (by decide) (fun c12 => ?_) (fun c12 => absurd c12 (by decide))
          refine lv_iload_n hx hb dX3_goesThrough_14 rfl (lv_at hl 0 rfl) ?_
          refine lv_if_eq (tgt := 109) hx hb dX3_goesThrough_15 (by decide) (fun c13 => ?_) (fun c13 => absurd c13 (by decide))
          refine lv_iload_n hx hb dX3_goesThrough_109 rfl (lv_at hl 1 rfl) ?_
          rw [if_neg (by omega)] at hG
          have hG : (j, false) = (gt ch len (len + 1) 0 tz0) := hG
          exact hret _ _ _ _ _ rfl trivial ⟨_, _, _, (by rw [← hG]; exact hP)⟩ hS dX3_goesThrough_110
        ·
          refine lv_iconst (v := nI 1) hx hb dX3_goesThrough_73 (by decide) ?_
          refine lv_goto (tgt := 78) hx hb dX3_goesThrough_74 (by decide) ?_
          refine lv_istore_n (lv' := [(3, .int (nI 1)), (2, .int (nI (1 + cnt))), (0, .ref o), (1, .int (nI 0))]) hx hb dX3_goesThrough_78 rfl hl (by decide) rfl (fun ls hl => ?_)
          refine lv_iload_n hx hb dX3_goesThrough_79 rfl (lv_at hl 0 rfl) ?_
          refine lv_if_eq (tgt := 14) hx hb dX3_goesThrough_80 (by decide) (fun c14 => absurd c14 (by decide)) (fun c14 => ?_)
          refine lv_aload_n hx hb dX3_goesThrough_83 rfl (lv_at hl 2 rfl) ?_
          refine lv_bipush (v := nI 59) hx hb dX3_goesThrough_84 (by decide) ?_
          refine lv_bipush (v := nI 59) hx hb dX3_goesThrough_86 (by decide) ?_
          by_cases h59 : ch j = 59
          ·
            refine q_ciF (BH := fun H => va_P D vwCl (wR o ps pa pv pn px cI (oM ps pa pv pn px th mn kp (nI len) (nI (1 + j)) (nI 0) (nI c) (nI u) (nI t) dg) (rr f) fa fv fn fx) H) (va_runV (rm := { frames := 2, cells := 0, slots := 0, locals := 44 }) (As := [.int (nI 59), .int (nI 59)]) (rest := []) ⟨hx, hb, hml, hown, hts⟩ (m3_takes_t l D cI o ps pa pv pn px f fa fv fn fx th mn kp (nI c) (nI u) (nI t) dg ch len j hlen (by omega) hfx hch 59 59 (by omega) (by omega) (by omega) (by omega) (by omega) hD) (cwV 2 hts gX3_goesThrough_X3_takes rfl rfl rfl (by decide +kernel) ⟨Nat.le_of_ble_eq_true rfl, Nat.le_of_ble_eq_true rfl⟩) (q_pV (ci := 3) (q0 := 0) hP hK rfl rfl) rfl rfl hl.1 rfl (lv_room (Nat.le_of_ble_eq_true rfl)) dX3_goesThrough_88 ⟨Nat.le_of_ble_eq_true rfl, Nat.le_of_ble_eq_true rfl⟩) (fun t h => h) hS (fun _ h => h) (fun x15 H locs e15 hP hS => ?_)
            have hD := q_D2 (ws' := wR o ps pa pv pn px cI (oM ps pa pv pn px th mn kp (nI len) (nI (1 + j)) (nI 0) (nI c) (nI u) (nI t) dg) (rr f) fa fv fn fx) hD rfl
            have e15 : x15 = (nI ((ch j - 59))) := e15
            subst e15
            refine lv_istore (lv' := [(4, .int (nI ((ch j - 59)))), (3, .int (nI 1)), (2, .int (nI (1 + cnt))), (0, .ref o), (1, .int (nI 0))]) hx hb dX3_goesThrough_91 hl (by decide) rfl (fun ls hl => ?_)
            refine lv_aload_n hx hb dX3_goesThrough_93 rfl (lv_at hl 3 rfl) ?_
            refine va_get (D := D) (ci := 3) (v := .int (nI 0)) (C := RX3) (T := TX3) (N := 15) hx hb hts hi3 hown hK hP 0 rfl rfl 10 (by decide) hfl102 (fun _ h9 => h9) rfl dX3_goesThrough_94 ?_
            refine lv_if_ne (tgt := 104) hx hb dX3_goesThrough_97 (by decide) (fun c16 => absurd c16 (by decide)) (fun c16 => ?_)
            refine lv_iconst (v := nI 1) hx hb dX3_goesThrough_100 (by decide) ?_
            refine lv_goto (tgt := 105) hx hb dX3_goesThrough_101 (by decide) ?_
            refine lv_istore_n (lv' := [(3, .int (nI 1)), (4, .int (nI ((ch j - 59)))), (2, .int (nI (1 + cnt))), (0, .ref o), (1, .int (nI 0))]) hx hb dX3_goesThrough_105 rfl hl (by decide) rfl (fun ls hl => ?_)
            refine lv_goto (tgt := 14) hx hb dX3_goesThrough_106 (by decide) ?_
            rw [if_pos (by omega), if_pos h59] at hG
            exact ih (1 + j) t (1 + cnt) _ _ _ _ _ (by omega) (by omega) hG hP hD hS (lv_sub hl [0, 2, 3, 4] rfl)
          ·
            have hn59 : n_ok ch len j false 59 59 = false := by unfold n_ok; simp only [Bool.and_eq_false_iff, decide_eq_false_iff_not]; omega
            refine q_ciF (BH := fun H => va_P D vwCl (wR o ps pa pv pn px cI (oM ps pa pv pn px th mn kp (nI len) (nI j) (nI 1) (nI c) (nI u) (nI t) dg) (rr f) fa fv fn fx) H) (va_runV (rm := { frames := 2, cells := 0, slots := 0, locals := 44 }) (As := [.int (nI 59), .int (nI 59)]) (rest := []) ⟨hx, hb, hml, hown, hts⟩ (m3_takes_f l D cI o ps pa pv pn px f fa fv fn fx th mn kp (nI c) (nI u) (nI t) dg ch len j hlen (by omega) hfx hch 59 59 (by omega) (by omega) false hn59 hD) (cwV 2 hts gX3_goesThrough_X3_takes rfl rfl rfl (by decide +kernel) ⟨Nat.le_of_ble_eq_true rfl, Nat.le_of_ble_eq_true rfl⟩) (q_pV (ci := 3) (q0 := 0) hP hK rfl rfl) rfl rfl hl.1 rfl (lv_room (Nat.le_of_ble_eq_true rfl)) dX3_goesThrough_88 ⟨Nat.le_of_ble_eq_true rfl, Nat.le_of_ble_eq_true rfl⟩) (fun t h => h) hS (fun _ h => h) (fun x17 H locs e17 hP hS => ?_)
            have hD := q_D2 (ws' := wR o ps pa pv pn px cI (oM ps pa pv pn px th mn kp (nI len) (nI j) (nI 1) (nI c) (nI u) (nI t) dg) (rr f) fa fv fn fx) hD rfl
            have e17 : x17 = (nI 0) := e17
            subst e17
            refine lv_istore (lv' := [(4, .int (nI 0)), (3, .int (nI 1)), (2, .int (nI (1 + cnt))), (0, .ref o), (1, .int (nI 0))]) hx hb dX3_goesThrough_91 hl (by decide) rfl (fun ls hl => ?_)
            refine lv_aload_n hx hb dX3_goesThrough_93 rfl (lv_at hl 3 rfl) ?_
            refine va_get (D := D) (ci := 3) (v := .int (nI 1)) (C := RX3) (T := TX3) (N := 15) hx hb hts hi3 hown hK hP 0 rfl rfl 10 (by decide) hfl102 (fun _ h9 => h9) rfl dX3_goesThrough_94 ?_
            refine lv_if_ne (tgt := 104) hx hb dX3_goesThrough_97 (by decide) (fun c18 => ?_) (fun c18 => absurd c18 (by decide))
            refine lv_iconst (v := nI 0) hx hb dX3_goesThrough_104 (by decide) ?_
            refine lv_istore_n (lv' := [(3, .int (nI 0)), (4, .int (nI 0)), (2, .int (nI (1 + cnt))), (0, .ref o), (1, .int (nI 0))]) hx hb dX3_goesThrough_105 rfl hl (by decide) rfl (fun ls hl => ?_)
            refine lv_goto (tgt := 14) hx hb dX3_goesThrough_106 (by decide) ?_
            refine lv_iload_n hx hb dX3_goesThrough_14 rfl (lv_at hl 0 rfl) ?_
            refine lv_if_eq (tgt := 109) hx hb dX3_goesThrough_15 (by decide) (fun c19 => ?_) (fun c19 => absurd c19 (by decide))
            refine lv_iload_n hx hb dX3_goesThrough_109 rfl (lv_at hl 2 rfl) ?_
            rw [if_pos (by omega), if_neg h59] at hG
            have hG : (j, true) = (gt ch len (len + 1) 0 tz0) := hG
            exact hret _ _ _ _ _ rfl trivial ⟨_, _, _, (by rw [← hG]; exact hP)⟩ hS dX3_goesThrough_110
  exact LP (len + 1) 0 tz0 0 le wh _ _ _ (by omega) (Nat.zero_le _) rfl hP hD hS (lv_sub hl [0, 1, 2, 3] rfl)
set_option maxHeartbeats 4000000 in
set_option maxRecDepth 100000 in
theorem m3_goesThrough1 (l : Launch) (D : va_G) (cI : ClassId) (o ps pa pv pn px : Nat) (f fa fv fn fx : Nat → Int32) (th mn kp sp wr le wh : Int32) (dg : Int64) (tz0 : Nat) (ch : Nat → Nat) (len : Nat) (hlen : len ≤ 60) (hfx : ∀ j, j < len → fx j = nI (ch j)) (hch : ∀ j, j < len → ch j < 128) (B : Nat) (hI : Inv B f) (hB : B + 200000 < 2000000000) (hD : va_D (fun _ => True) (wR o ps pa pv pn px cI (oM ps pa pv pn px th mn kp (nI len) sp wr le wh (nI tz0) dg) (rr f) fa fv fn fx)) : q_I l yX3_goesThrough wsX3_goesThrough { frames := 8, cells := 0, slots := 0, locals := 180 } [.ref o, .int (nI 1)] (q_bp D (wR o ps pa pv pn px cI (oM ps pa pv pn px th mn kp (nI len) sp wr le wh (nI tz0) dg) (rr f) fa fv fn fx) [(cI, .int)]) (fun v => v = nI (gd ch len (len + 1) 0 tz0 f).1) (fun H => ∃ (sp wr le wh : Int32) (tz : Nat), va_P D vwCl (wR o ps pa pv pn px cI (oM ps pa pv pn px th mn kp (nI len) sp wr le wh (nI tz) dg) (rr (gd ch len (len + 1) 0 tz0 f).2) fa fv fn fx) H) (AM o ps pa pv pn px) 0 0 := by
  refine q_goI (cc := cX3_goesThrough) (maxL := 5) (ty := .int) (lv0 := [(0, .ref o), (1, .int (nI 1))]) (by decide) rfl (Nat.le_of_ble_eq_true rfl) rfl ?_
  intro p e s m args below meth c Q ls hx hb hml hts hown hP hK hl hret
  have hi3 : ∀ w ∈ wsX30, w ∈ wsX3_goesThrough := by decide +kernel
  have hfl106 := hts (.fieldLink RX3 106 "WhisperedPotsModel" "spot" "I") (by decide +kernel)
  have hfl102 := hts (.fieldLink RX3 102 "WhisperedPotsModel" "isWrong" "Z") (by decide +kernel)
  have hfl99 := hts (.fieldLink RX3 99 "WhisperedPotsModel" "length" "I") (by decide +kernel)
  have hS : va_S (AM o ps pa pv pn px) s.heap s.heap [] := va_S.rf
  have hne : o ≠ ps := fun h => absurd (hD.1 0 1 _ _ rfl rfl h) (by decide)
  refine lv_aload_n hx hb dX3_goesThrough_0 rfl (lv_at hl 0 rfl) ?_
  refine lv_iconst (v := nI 0) hx hb dX3_goesThrough_1 (by decide) ?_
  refine q_pt (D := D) (ci := 3) (v := .int (nI 0)) (ty := .int) (C := RX3) (T := TX3) (N := 15) hx hb hts hi3 tyX3 tyX3_ok nmX3 hown hK hP hD hS (Or.inl rfl) 0 rfl rfl 9 (by decide) hfl106 (fun _ h9 => h9) rfl (by decide +kernel) rfl rfl (Nat.le_of_ble_eq_true rfl) (ws' := wR o ps pa pv pn px cI (oM ps pa pv pn px th mn kp (nI len) (nI 0) wr le wh (nI tz0) dg) (rr f) fa fv fn fx) rfl dX3_goesThrough_2 (fun H locs hP hD hS => ?_)
  refine lv_aload_n hx hb dX3_goesThrough_5 rfl (lv_at hl 0 rfl) ?_
  refine lv_iconst (v := nI 0) hx hb dX3_goesThrough_6 (by decide) ?_
  refine q_pt (D := D) (ci := 3) (v := .int (nI 0)) (ty := .boolean) (C := RX3) (T := TX3) (N := 15) hx hb hts hi3 tyX3 tyX3_ok nmX3 hown hK hP hD hS (Or.inl rfl) 0 rfl rfl 10 (by decide) hfl102 (fun _ h9 => h9) rfl (by decide +kernel) rfl rfl (Nat.le_of_ble_eq_true rfl) (ws' := wR o ps pa pv pn px cI (oM ps pa pv pn px th mn kp (nI len) (nI 0) (nI 0) le wh (nI tz0) dg) (rr f) fa fv fn fx) rfl dX3_goesThrough_7 (fun H locs hP hD hS => ?_)
  refine lv_iconst (v := nI 0) hx hb dX3_goesThrough_10 (by decide) ?_
  refine lv_istore_n (lv' := [(2, .int (nI 0)), (0, .ref o), (1, .int (nI 1))]) hx hb dX3_goesThrough_11 rfl hl (by decide) rfl (fun ls hl => ?_)
  refine lv_iconst (v := nI 1) hx hb dX3_goesThrough_12 (by decide) ?_
  refine lv_istore_n (lv' := [(3, .int (nI 1)), (2, .int (nI 0)), (0, .ref o), (1, .int (nI 1))]) hx hb dX3_goesThrough_13 rfl hl (by decide) rfl (fun ls hl => ?_)
  have LP : ∀ (n i tz cnt : Nat) (le wh : Int32) (fq : Nat → Int32) (H : Heap) (locs : List Loc) (ls : Array Slot), len < i + n → (hil : i ≤ len) → (hI2 : Inv (B + 1600 * i) fq) → (hC : cnt + (gd ch len n i tz fq).1 = (gd ch len (len + 1) 0 tz0 f).1) → (hR : (gd ch len n i tz fq).2 = (gd ch len (len + 1) 0 tz0 f).2) → va_P D vwCl (wR o ps pa pv pn px cI (oM ps pa pv pn px th mn kp (nI len) (nI i) (nI 0) le wh (nI tz) dg) (rr fq) fa fv fn fx) H → va_D (fun _ => True) (wR o ps pa pv pn px cI (oM ps pa pv pn px th mn kp (nI len) (nI i) (nI 0) le wh (nI tz) dg) (rr fq) fa fv fn fx) → va_S (AM o ps pa pv pn px) s.heap H locs → lv_has ls 5 [(3, .int (nI 1)), (2, .int (nI cnt)), (0, .ref o), (1, .int (nI 1))] → W p l e { frames := 8, cells := 0, slots := 0, locals := 180 } s m args below meth c H locs 0 0 Q (F0 m 14 ls []) := by
    intro n
    induction n with
    | zero =>
      intro i tz cnt le wh fq H locs ls hin hil
      exact absurd hin (by omega)
    | succ n ih =>
      intro i tz cnt le wh fq H locs ls hin hil hI2 hC hR hP hD hS hl
      refine lv_iload_n hx hb dX3_goesThrough_14 rfl (lv_at hl 0 rfl) ?_
      refine lv_if_eq (tgt := 109) hx hb dX3_goesThrough_15 (by decide) (fun c1 => absurd c1 (by decide)) (fun c1 => ?_)
      refine lv_aload_n hx hb dX3_goesThrough_18 rfl (lv_at hl 2 rfl) ?_
      refine q_cvF (BH := fun H => va_P D vwCl (wR o ps pa pv pn px cI (oM ps pa pv pn px th mn kp (nI len) (nI ((rd ch len i tz).1)) (p_b (rd ch len i tz).2.1) (nI ((rd ch len i tz).2.2.1)) (nI ((rd ch len i tz).2.2.2.1)) (nI ((rd ch len i tz).2.2.2.2)) dg) (rr fq) fa fv fn fx) H) (va_runV (rm := { frames := 3, cells := 0, slots := 0, locals := 68 }) (As := []) (rest := []) ⟨hx, hb, hml, hown, hts⟩ (m3_readErrand l D cI o ps pa pv pn px fq fa fv fn fx th mn kp le wh dg tz ch len i hlen (by omega) hfx hch hD) (cwV 0 hts gX3_goesThrough_X3_readErrand rfl rfl rfl (by decide +kernel) ⟨Nat.le_of_ble_eq_true rfl, Nat.le_of_ble_eq_true rfl⟩) (q_pV (ci := 3) (q0 := 0) hP hK rfl rfl) rfl rfl hl.1 rfl (lv_room (Nat.le_of_ble_eq_true rfl)) dX3_goesThrough_19 ⟨Nat.le_of_ble_eq_true rfl, Nat.le_of_ble_eq_true rfl⟩) (fun _ h => h) hS (fun _ h => h) (fun H locs hP hS => ?_)
      have hD := q_D2 (ws' := wR o ps pa pv pn px cI (oM ps pa pv pn px th mn kp (nI len) (nI ((rd ch len i tz).1)) (p_b (rd ch len i tz).2.1) (nI ((rd ch len i tz).2.2.1)) (nI ((rd ch len i tz).2.2.2.1)) (nI ((rd ch len i tz).2.2.2.2)) dg) (rr fq) fa fv fn fx) hD rfl
      rcases hrd : rd ch len i tz with ⟨j, w, c, u, t⟩
      rw [hrd] at hP hD
      obtain ⟨hij, hjl, hok⟩ := rd_ok hil hrd
      have hC : cnt + (if w then (0, fq) else if e_ok fq c u t then (if j < len ∧ ch j = 59 then ((gd ch len n (1 + j) t (e_do fq c u t)).1 + 1, (gd ch len n (1 + j) t (e_do fq c u t)).2) else (1, e_do fq c u t)) else (0, fq)).1 = (gd ch len (len + 1) 0 tz0 f).1 := by rw [← hC]; show _ = cnt + (if (rd ch len i tz).2.1 then _ else _ : Nat × (Nat → Int32)).1; rw [hrd]
      have hR : (if w then (0, fq) else if e_ok fq c u t then (if j < len ∧ ch j = 59 then ((gd ch len n (1 + j) t (e_do fq c u t)).1 + 1, (gd ch len n (1 + j) t (e_do fq c u t)).2) else (1, e_do fq c u t)) else (0, fq)).2 = (gd ch len (len + 1) 0 tz0 f).2 := by rw [← hR]; show _ = (if (rd ch len i tz).2.1 then _ else _ : Nat × (Nat → Int32)).2; rw [hrd]
      cases w with
      | true =>
        have hP : va_P D vwCl (wR o ps pa pv pn px cI (oM ps pa pv pn px th mn kp (nI len) (nI j) (nI 1) (nI c) (nI u) (nI t) dg) (rr fq) fa fv fn fx) H := hP
        have hD : va_D (fun _ => True) (wR o ps pa pv pn px cI (oM ps pa pv pn px th mn kp (nI len) (nI j) (nI 1) (nI c) (nI u) (nI t) dg) (rr fq) fa fv fn fx) := hD
        rw [if_pos rfl] at hC hR
        refine lv_aload_n hx hb dX3_goesThrough_22 rfl (lv_at hl 2 rfl) ?_
        refine va_get (D := D) (ci := 3) (v := .int (nI 1)) (C := RX3) (T := TX3) (N := 15) hx hb hts hi3 hown hK hP 0 rfl rfl 10 (by decide) hfl102 (fun _ h9 => h9) rfl dX3_goesThrough_23 ?_
        refine lv_if_ne (tgt := 44) hx hb dX3_goesThrough_26 (by decide) (fun c2 => ?_) (fun c2 => absurd c2 (by decide))
        refine lv_iconst (v := nI 0) hx hb dX3_goesThrough_44 (by decide) ?_
        refine lv_istore_n (lv' := [(3, .int (nI 0)), (2, .int (nI cnt)), (0, .ref o), (1, .int (nI 1))]) hx hb dX3_goesThrough_45 rfl hl (by decide) rfl (fun ls hl => ?_)
        refine lv_iload_n hx hb dX3_goesThrough_46 rfl (lv_at hl 1 rfl) ?_
        refine lv_iload_n hx hb dX3_goesThrough_47 rfl (lv_at hl 0 rfl) ?_
        refine lv_if_eq (tgt := 55) hx hb dX3_goesThrough_48 (by decide) (fun c3 => ?_) (fun c3 => absurd c3 (by decide))
        refine lv_iconst (v := nI 0) hx hb dX3_goesThrough_55 (by decide) ?_
        refine q_addN hx hb cnt (by omega) dX3_goesThrough_56 ?_
        refine lv_istore_n (lv' := [(2, .int (nI cnt)), (3, .int (nI 0)), (0, .ref o), (1, .int (nI 1))]) hx hb dX3_goesThrough_57 rfl hl (by decide) rfl (fun ls hl => ?_)
        refine lv_iload_n hx hb dX3_goesThrough_58 rfl (lv_at hl 1 rfl) ?_
        refine lv_if_eq (tgt := 77) hx hb dX3_goesThrough_59 (by decide) (fun c4 => ?_) (fun c4 => absurd c4 (by decide))
        refine lv_iconst (v := nI 0) hx hb dX3_goesThrough_77 (by decide) ?_
        refine lv_istore_n (lv' := [(3, .int (nI 0)), (2, .int (nI cnt)), (0, .ref o), (1, .int (nI 1))]) hx hb dX3_goesThrough_78 rfl hl (by decide) rfl (fun ls hl => ?_)
        refine lv_iload_n hx hb dX3_goesThrough_79 rfl (lv_at hl 0 rfl) ?_
        refine lv_if_eq (tgt := 14) hx hb dX3_goesThrough_80 (by decide) (fun c5 => ?_) (fun c5 => absurd c5 (by decide))
        refine lv_iload_n hx hb dX3_goesThrough_14 rfl (lv_at hl 0 rfl) ?_
        refine lv_if_eq (tgt := 109) hx hb dX3_goesThrough_15 (by decide) (fun c6 => ?_) (fun c6 => absurd c6 (by decide))
        refine lv_iload_n hx hb dX3_goesThrough_109 rfl (lv_at hl 1 rfl) ?_
        have hR : fq = (gd ch len (len + 1) 0 tz0 f).2 := hR
        refine hret _ _ _ _ _ rfl ?_ ⟨_, _, _, _, _, (by rw [← hR]; exact hP)⟩ hS dX3_goesThrough_110
        rw [← hC]
        rfl
      | false =>
        have hP : va_P D vwCl (wR o ps pa pv pn px cI (oM ps pa pv pn px th mn kp (nI len) (nI j) (nI 0) (nI c) (nI u) (nI t) dg) (rr fq) fa fv fn fx) H := hP
        have hD : va_D (fun _ => True) (wR o ps pa pv pn px cI (oM ps pa pv pn px th mn kp (nI len) (nI j) (nI 0) (nI c) (nI u) (nI t) dg) (rr fq) fa fv fn fx) := hD
        rw [if_neg Bool.false_ne_true] at hC hR
        obtain ⟨hij2, hlet, hum, ht98⟩ := hok rfl
        refine lv_aload_n hx hb dX3_goesThrough_22 rfl (lv_at hl 2 rfl) ?_
        refine va_get (D := D) (ci := 3) (v := .int (nI 0)) (C := RX3) (T := TX3) (N := 15) hx hb hts hi3 hown hK hP 0 rfl rfl 10 (by decide) hfl102 (fun _ h9 => h9) rfl dX3_goesThrough_23 ?_
        refine lv_if_ne (tgt := 44) hx hb dX3_goesThrough_26 (by decide) (fun c7 => absurd c7 (by decide)) (fun c7 => ?_)
        refine lv_iload_n hx hb dX3_goesThrough_29 rfl (lv_at hl 3 rfl) ?_
        refine lv_if_eq (tgt := 40) hx hb dX3_goesThrough_30 (by decide) (fun c8 => absurd c8 (by decide)) (fun c8 => ?_)
        refine lv_aload_n hx hb dX3_goesThrough_33 rfl (lv_at hl 2 rfl) ?_
        refine q_ciF (BH := fun H => va_P D vwCl (wR o ps pa pv pn px cI (oM ps pa pv pn px th mn kp (nI len) (nI j) (nI 0) (nI c) (nI u) (nI t) dg) (rr (if e_ok fq c u t then e_do fq c u t else fq)) fa fv fn fx) H) (va_runV (rm := { frames := 7, cells := 0, slots := 0, locals := 160 }) (As := []) (rest := []) ⟨hx, hb, hml, hown, hts⟩ (m3_isDone l D cI o ps pa pv pn px fq fa fv fn fx th mn kp (nI len) (nI j) (nI 0) dg c u t _ hI2 (by omega) hlet hum ht98 hD) (cwV 0 hts gX3_goesThrough_X3_isDone rfl rfl rfl (by decide +kernel) ⟨Nat.le_of_ble_eq_true rfl, Nat.le_of_ble_eq_true rfl⟩) (q_pV (ci := 3) (q0 := 0) hP hK rfl rfl) rfl rfl hl.1 rfl (lv_room (Nat.le_of_ble_eq_true rfl)) dX3_goesThrough_34 ⟨Nat.le_of_ble_eq_true rfl, Nat.le_of_ble_eq_true rfl⟩) (fun _ h => h) hS (fun _ h => h) (fun x9 H locs e9 hP hS => ?_)
        have hD := q_D2 (ws' := wR o ps pa pv pn px cI (oM ps pa pv pn px th mn kp (nI len) (nI j) (nI 0) (nI c) (nI u) (nI t) dg) (rr (if e_ok fq c u t then e_do fq c u t else fq)) fa fv fn fx) hD rfl
        have e9 : x9 = p_b (e_ok fq c u t) := e9
        by_cases hek : e_ok fq c u t = true
        ·
          rw [if_pos hek] at hC hR
          rw [hek] at hP hD e9
          have hP : va_P D vwCl (wR o ps pa pv pn px cI (oM ps pa pv pn px th mn kp (nI len) (nI j) (nI 0) (nI c) (nI u) (nI t) dg) (rr (e_do fq c u t)) fa fv fn fx) H := hP
          have hD : va_D (fun _ => True) (wR o ps pa pv pn px cI (oM ps pa pv pn px th mn kp (nI len) (nI j) (nI 0) (nI c) (nI u) (nI t) dg) (rr (e_do fq c u t)) fa fv fn fx) := hD
          have e9 : x9 = nI 1 := e9
          subst e9
          refine lv_if_eq (tgt := 44) hx hb dX3_goesThrough_37 (by decide) (fun c10 => absurd c10 (by decide)) (fun c10 => ?_)
          refine lv_iconst (v := nI 1) hx hb dX3_goesThrough_40 (by decide) ?_
          refine lv_goto (tgt := 45) hx hb dX3_goesThrough_41 (by decide) ?_
          refine lv_istore_n (lv' := [(3, .int (nI 1)), (2, .int (nI cnt)), (0, .ref o), (1, .int (nI 1))]) hx hb dX3_goesThrough_45 rfl hl (by decide) rfl (fun ls hl => ?_)
          refine lv_iload_n hx hb dX3_goesThrough_46 rfl (lv_at hl 1 rfl) ?_
          refine lv_iload_n hx hb dX3_goesThrough_47 rfl (lv_at hl 0 rfl) ?_
          refine lv_if_eq (tgt := 55) hx hb dX3_goesThrough_48 (by decide) (fun c11 => absurd c11 (by decide)) (fun c11 => ?_)
          refine lv_iconst (v := nI 1) hx hb dX3_goesThrough_51 (by decide) ?_
          refine lv_goto (tgt := 56) hx hb dX3_goesThrough_52 (by decide) ?_
          refine q_addN hx hb (1 + cnt) (by omega) dX3_goesThrough_56 ?_
          refine lv_istore_n (lv' := [(2, .int (nI (1 + cnt))), (3, .int (nI 1)), (0, .ref o), (1, .int (nI 1))]) hx hb dX3_goesThrough_57 rfl hl (by decide) rfl (fun ls hl => ?_)
          refine lv_iload_n hx hb dX3_goesThrough_58 rfl (lv_at hl 1 rfl) ?_
          refine lv_if_eq (tgt := 77) hx hb dX3_goesThrough_59 (by decide) (fun c12 => absurd c12 (by decide)) (fun c12 => ?_)
          refine lv_aload_n hx hb dX3_goesThrough_62 rfl (lv_at hl 2 rfl) ?_
          refine va_get (D := D) (ci := 3) (v := .int (nI j)) (C := RX3) (T := TX3) (N := 15) hx hb hts hi3 hown hK hP 0 rfl rfl 9 (by decide) hfl106 (fun _ h9 => h9) rfl dX3_goesThrough_63 ?_
          refine lv_aload_n hx hb dX3_goesThrough_66 rfl (lv_at hl 2 rfl) ?_
          refine va_get (D := D) (ci := 3) (v := .int (nI len)) (C := RX3) (T := TX3) (N := 15) hx hb hts hi3 hown hK hP 0 rfl rfl 8 (by decide) hfl99 (fun _ h9 => h9) rfl dX3_goesThrough_67 ?_
          refine q_geN (tgt := 77) hx hb (by omega) (by omega) dX3_goesThrough_70 (by decide) (fun c13 => ?_) (fun c13 => ?_)
          ·
            refine lv_iconst (v := nI 0) hx hb dX3_goesThrough_77 (by decide) ?_
            refine lv_istore_n (lv' := [(3, .int (nI 0)), (2, .int (nI (1 + cnt))), (0, .ref o), (1, .int (nI 1))]) hx hb dX3_goesThrough_78 rfl hl (by decide) rfl (fun ls hl => ?_)
            refine lv_iload_n hx hb dX3_goesThrough_79 rfl (lv_at hl 0 rfl) ?_
            refine lv_if_eq (tgt := 14) hx hb dX3_goesThrough_80 (by decide) (fun c14 => ?_) (fun c14 => absurd c14 (by decide))
            refine lv_iload_n hx hb dX3_goesThrough_14 rfl (lv_at hl 0 rfl) ?_
            refine lv_if_eq (tgt := 109) hx hb dX3_goesThrough_15 (by decide) (fun c15 => ?_) (fun c15 => absurd c15 (by decide))
            refine lv_iload_n hx hb dX3_goesThrough_109 rfl (lv_at hl 1 rfl) ?_
            rw [if_neg (fun z => absurd z.1 (by omega))] at hC hR
            have hR : (e_do fq c u t) = (gd ch len (len + 1) 0 tz0 f).2 := hR
            refine hret _ _ _ _ _ rfl ?_ ⟨_, _, _, _, _, (by rw [← hR]; exact hP)⟩ hS dX3_goesThrough_110
            rw [← hC]
            rw [Nat.add_comm]
          ·
            refine lv_iconst (v := nI 1) hx hb dX3_goesThrough_73 (by decide) ?_
            refine lv_goto (tgt := 78) hx hb dX3_goesThrough_74 (by decide) ?_
            refine lv_istore_n (lv' := [(3, .int (nI 1)), (2, .int (nI (1 + cnt))), (0, .ref o), (1, .int (nI 1))]) hx hb dX3_goesThrough_78 rfl hl (by decide) rfl (fun ls hl => ?_)
            refine lv_iload_n hx hb dX3_goesThrough_79 rfl (lv_at hl 0 rfl) ?_
            refine lv_if_eq (tgt := 14) hx hb dX3_goesThrough_80 (by decide) (fun c16 => absurd c16 (by decide)) (fun c16 => ?_)
            refine lv_aload_n hx hb dX3_goesThrough_83 rfl (lv_at hl 2 rfl) ?_
            refine lv_bipush (v := nI 59) hx hb dX3_goesThrough_84 (by decide) ?_
            refine lv_bipush (v := nI 59) hx hb dX3_goesThrough_86 (by decide) ?_
            by_cases h59 : ch j = 59
            ·
              refine q_ciF (BH := fun H => va_P D vwCl (wR o ps pa pv pn px cI (oM ps pa pv pn px th mn kp (nI len) (nI (1 + j)) (nI 0) (nI c) (nI u) (nI t) dg) (rr (e_do fq c u t)) fa fv fn fx) H) (va_runV (rm := { frames := 2, cells := 0, slots := 0, locals := 44 }) (As := [.int (nI 59), .int (nI 59)]) (rest := []) ⟨hx, hb, hml, hown, hts⟩ (m3_takes_t l D cI o ps pa pv pn px (e_do fq c u t) fa fv fn fx th mn kp (nI c) (nI u) (nI t) dg ch len j hlen (by omega) hfx hch 59 59 (by omega) (by omega) (by omega) (by omega) (by omega) hD) (cwV 2 hts gX3_goesThrough_X3_takes rfl rfl rfl (by decide +kernel) ⟨Nat.le_of_ble_eq_true rfl, Nat.le_of_ble_eq_true rfl⟩) (q_pV (ci := 3) (q0 := 0) hP hK rfl rfl) rfl rfl hl.1 rfl (lv_room (Nat.le_of_ble_eq_true rfl)) dX3_goesThrough_88 ⟨Nat.le_of_ble_eq_true rfl, Nat.le_of_ble_eq_true rfl⟩) (fun t h => h) hS (fun _ h => h) (fun x17 H locs e17 hP hS => ?_)
              have hD := q_D2 (ws' := wR o ps pa pv pn px cI (oM ps pa pv pn px th mn kp (nI len) (nI (1 + j)) (nI 0) (nI c) (nI u) (nI t) dg) (rr (e_do fq c u t)) fa fv fn fx) hD rfl
              have e17 : x17 = (nI ((ch j - 59))) := e17
              subst e17
              refine lv_istore (lv' := [(4, .int (nI ((ch j - 59)))), (3, .int (nI 1)), (2, .int (nI (1 + cnt))), (0, .ref o), (1, .int (nI 1))]) hx hb dX3_goesThrough_91 hl (by decide) rfl (fun ls hl => ?_)
              refine lv_aload_n hx hb dX3_goesThrough_93 rfl (lv_at hl 3 rfl) ?_
              refine va_get (D := D) (ci := 3) (v := .int (nI 0)) (C := RX3) (T := TX3) (N := 15) hx hb hts hi3 hown hK hP 0 rfl rfl 10 (by decide) hfl102 (fun _ h9 => h9) rfl dX3_goesThrough_94 ?_
              refine lv_if_ne (tgt := 104) hx hb dX3_goesThrough_97 (by decide) (fun c18 => absurd c18 (by decide)) (fun c18 => ?_)
              refine lv_iconst (v := nI 1) hx hb dX3_goesThrough_100 (by decide) ?_
              refine lv_goto (tgt := 105) hx hb dX3_goesThrough_101 (by decide) ?_
              refine lv_istore_n (lv' := [(3, .int (nI 1)), (4, .int (nI ((ch j - 59)))), (2, .int (nI (1 + cnt))), (0, .ref o), (1, .int (nI 1))]) hx hb dX3_goesThrough_105 rfl hl (by decide) rfl (fun ls hl => ?_)
              refine lv_goto (tgt := 14) hx hb dX3_goesThrough_106 (by decide) ?_
              have hI4 : Inv (B + 1600 * (1 + j)) (e_do fq c u t) := (e_inv hI2 (by omega) hlet hum ht98 hek).mono (by omega)
              rw [if_pos ⟨by omega, h59⟩] at hC hR
              exact ih (1 + j) t (1 + cnt) _ _ (e_do fq c u t) _ _ _ (by omega) (by omega) hI4 (by rw [← hC]; omega) hR hP hD hS (lv_sub hl [0, 2, 3, 4] rfl)
            ·
              have hn59 : n_ok ch len j false 59 59 = false := by unfold n_ok; simp only [Bool.and_eq_false_iff, decide_eq_false_iff_not]; omega
              refine q_ciF (BH := fun H => va_P D vwCl (wR o ps pa pv pn px cI (oM ps pa pv pn px th mn kp (nI len) (nI j) (nI 1) (nI c) (nI u) (nI t) dg) (rr (e_do fq c u t)) fa fv fn fx) H) (va_runV (rm := { frames := 2, cells := 0, slots := 0, locals := 44 }) (As := [.int (nI 59), .int (nI 59)]) (rest := []) ⟨hx, hb, hml, hown, hts⟩ (m3_takes_f l D cI o ps pa pv pn px (e_do fq c u t) fa fv fn fx th mn kp (nI c) (nI u) (nI t) dg ch len j hlen (by omega) hfx hch 59 59 (by omega) (by omega) false hn59 hD) (cwV 2 hts gX3_goesThrough_X3_takes rfl rfl rfl (by decide +kernel) ⟨Nat.le_of_ble_eq_true rfl, Nat.le_of_ble_eq_true rfl⟩) (q_pV (ci := 3) (q0 := 0) hP hK rfl rfl) rfl rfl hl.1 rfl (lv_room (Nat.le_of_ble_eq_true rfl)) dX3_goesThrough_88 ⟨Nat.le_of_ble_eq_true rfl, Nat.le_of_ble_eq_true rfl⟩) (fun t h => h) hS (fun _ h => h) (fun x19 H locs e19 hP hS => ?_)
              have hD := q_D2 (ws' := wR o ps pa pv pn px cI (oM ps pa pv pn px th mn kp (nI len) (nI j) (nI 1) (nI c) (nI u) (nI t) dg) (rr (e_do fq c u t)) fa fv fn fx) hD rfl
              have e19 : x19 = (nI 0) := e19
              subst e19
              refine lv_istore (lv' := [(4, .int (nI 0)), (3, .int (nI 1)), (2, .int (nI (1 + cnt))), (0, .ref o), (1, .int (nI 1))]) hx hb dX3_goesThrough_91 hl (by decide) rfl (fun ls hl => ?_)
              refine lv_aload_n hx hb dX3_goesThrough_93 rfl (lv_at hl 3 rfl) ?_
              refine va_get (D := D) (ci := 3) (v := .int (nI 1)) (C := RX3) (T := TX3) (N := 15) hx hb hts hi3 hown hK hP 0 rfl rfl 10 (by decide) hfl102 (fun _ h9 => h9) rfl dX3_goesThrough_94 ?_
              refine lv_if_ne (tgt := 104) hx hb dX3_goesThrough_97 (by decide) (fun c20 => ?_) (fun c20 => absurd c20 (by decide))
              refine lv_iconst (v := nI 0) hx hb dX3_goesThrough_104 (by decide) ?_
              refine lv_istore_n (lv' := [(3, .int (nI 0)), (4, .int (nI 0)), (2, .int (nI (1 + cnt))), (0, .ref o), (1, .int (nI 1))]) hx hb dX3_goesThrough_105 rfl hl (by decide) rfl (fun ls hl => ?_)
              refine lv_goto (tgt := 14) hx hb dX3_goesThrough_106 (by decide) ?_
              refine lv_iload_n hx hb dX3_goesThrough_14 rfl (lv_at hl 0 rfl) ?_
              refine lv_if_eq (tgt := 109) hx hb dX3_goesThrough_15 (by decide) (fun c21 => ?_) (fun c21 => absurd c21 (by decide))
              refine lv_iload_n hx hb dX3_goesThrough_109 rfl (lv_at hl 2 rfl) ?_
              rw [if_neg (fun z => h59 z.2)] at hC hR
              have hR : (e_do fq c u t) = (gd ch len (len + 1) 0 tz0 f).2 := hR
              refine hret _ _ _ _ _ rfl ?_ ⟨_, _, _, _, _, (by rw [← hR]; exact hP)⟩ hS dX3_goesThrough_110
              rw [← hC]
              rw [Nat.add_comm]
        ·
          have hek : e_ok fq c u t = false := by simpa using hek
          rw [if_neg (by rw [hek]; exact Bool.false_ne_true)] at hC hR
          rw [hek] at hP hD e9
          have hP : va_P D vwCl (wR o ps pa pv pn px cI (oM ps pa pv pn px th mn kp (nI len) (nI j) (nI 0) (nI c) (nI u) (nI t) dg) (rr fq) fa fv fn fx) H := hP
          have hD : va_D (fun _ => True) (wR o ps pa pv pn px cI (oM ps pa pv pn px th mn kp (nI len) (nI j) (nI 0) (nI c) (nI u) (nI t) dg) (rr fq) fa fv fn fx) := hD
          have e9 : x9 = nI 0 := e9
          subst e9
          refine lv_if_eq (tgt := 44) hx hb dX3_goesThrough_37 (by decide) (fun c22 => ?_) (fun c22 => absurd c22 (by decide))
          refine lv_iconst (v := nI 0) hx hb dX3_goesThrough_44 (by decide) ?_
          refine lv_istore_n (lv' := [(3, .int (nI 0)), (2, .int (nI cnt)), (0, .ref o), (1, .int (nI 1))]) hx hb dX3_goesThrough_45 rfl hl (by decide) rfl (fun ls hl => ?_)
          refine lv_iload_n hx hb dX3_goesThrough_46 rfl (lv_at hl 1 rfl) ?_
          refine lv_iload_n hx hb dX3_goesThrough_47 rfl (lv_at hl 0 rfl) ?_
          refine lv_if_eq (tgt := 55) hx hb dX3_goesThrough_48 (by decide) (fun c23 => ?_) (fun c23 => absurd c23 (by decide))
          refine lv_iconst (v := nI 0) hx hb dX3_goesThrough_55 (by decide) ?_
          refine q_addN hx hb cnt (by omega) dX3_goesThrough_56 ?_
          refine lv_istore_n (lv' := [(2, .int (nI cnt)), (3, .int (nI 0)), (0, .ref o), (1, .int (nI 1))]) hx hb dX3_goesThrough_57 rfl hl (by decide) rfl (fun ls hl => ?_)
          refine lv_iload_n hx hb dX3_goesThrough_58 rfl (lv_at hl 1 rfl) ?_
          refine lv_if_eq (tgt := 77) hx hb dX3_goesThrough_59 (by decide) (fun c24 => ?_) (fun c24 => absurd c24 (by decide))
          refine lv_iconst (v := nI 0) hx hb dX3_goesThrough_77 (by decide) ?_
          refine lv_istore_n (lv' := [(3, .int (nI 0)), (2, .int (nI cnt)), (0, .ref o), (1, .int (nI 1))]) hx hb dX3_goesThrough_78 rfl hl (by decide) rfl (fun ls hl => ?_)
          refine lv_iload_n hx hb dX3_goesThrough_79 rfl (lv_at hl 0 rfl) ?_
          refine lv_if_eq (tgt := 14) hx hb dX3_goesThrough_80 (by decide) (fun c25 => ?_) (fun c25 => absurd c25 (by decide))
          refine lv_iload_n hx hb dX3_goesThrough_14 rfl (lv_at hl 0 rfl) ?_
          refine lv_if_eq (tgt := 109) hx hb dX3_goesThrough_15 (by decide) (fun c26 => ?_) (fun c26 => absurd c26 (by decide))
          refine lv_iload_n hx hb dX3_goesThrough_109 rfl (lv_at hl 1 rfl) ?_
          have hR : fq = (gd ch len (len + 1) 0 tz0 f).2 := hR
          refine hret _ _ _ _ _ rfl ?_ ⟨_, _, _, _, _, (by rw [← hR]; exact hP)⟩ hS dX3_goesThrough_110
          rw [← hC]
          rfl
  exact LP (len + 1) 0 tz0 0 le wh f _ _ _ (by omega) (Nat.zero_le _) hI (Nat.zero_add _) rfl hP hD hS (lv_sub hl [0, 1, 2, 3] rfl)
