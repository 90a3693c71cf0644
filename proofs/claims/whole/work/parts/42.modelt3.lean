theorem m3_readErrand (l : Launch) (D : va_G) (cI : ClassId) (o ps pa pv pn px : Nat) (f fa fv fn fx : Nat → Int32) (th mn kp le wh : Int32) (dg : Int64) (tz : Nat) (ch : Nat → Nat) (len i : Nat) (hlen : len ≤ 60) (hi61 : i ≤ 60) (hfx : ∀ j, j < len → fx j = nI (ch j)) (hch : ∀ j, j < len → ch j < 128) (hD : va_D (fun _ => True) (wR o ps pa pv pn px cI (oM ps pa pv pn px th mn kp (nI len) (nI i) (nI 0) le wh (nI tz) dg) (rr f) fa fv fn fx)) : q_V l yX3_readErrand wsX3_readErrand { frames := 3, cells := 0, slots := 0, locals := 68 } [.ref o] (q_bp D (wR o ps pa pv pn px cI (oM ps pa pv pn px th mn kp (nI len) (nI i) (nI 0) le wh (nI tz) dg) (rr f) fa fv fn fx) [(cI, .int)]) (fun H => va_P D vwCl (wR o ps pa pv pn px cI (oM ps pa pv pn px th mn kp (nI len) (nI ((rd ch len i tz).1)) (p_b (rd ch len i tz).2.1) (nI ((rd ch len i tz).2.2.1)) (nI ((rd ch len i tz).2.2.2.1)) (nI ((rd ch len i tz).2.2.2.2)) dg) (rr f) fa fv fn fx) H) (AM o ps pa pv pn px) 0 0 := by
  by_cases h1 : p_let (rd_c ch len i) = false
  · have e : rd ch len i tz = (i, true, rd_c ch len i, 0, tz) := by unfold rd; rw [if_pos h1]
    rw [e]
    by_cases hil : i < len
    · have e2 : rd_c ch len i = ch i := by unfold rd_c; rw [if_pos hil]
      rw [e2] at h1 ⊢
      exact m3_rd_bad1 l D cI o ps pa pv pn px f fa fv fn fx th mn kp le wh (nI tz) dg ch len i hlen hi61 hfx hch hil h1 hD
    · have e2 : rd_c ch len i = 0 := by unfold rd_c; rw [if_neg hil]
      rw [e2]
      exact m3_rd_bad2 l D cI o ps pa pv pn px f fa fv fn fx th mn kp le wh (nI tz) dg ch len i hlen hi61 hfx hch (by omega) hD
  · have hl : p_let (rd_c ch len i) = true := by simpa using h1
    have hil : i < len := by
      rcases Nat.lt_or_ge i len with q | q
      · exact q
      · unfold rd_c at hl
        rw [if_neg (by omega)] at hl
        cases hl
    have e2 : rd_c ch len i = ch i := by unfold rd_c; rw [if_pos hil]
    by_cases h2 : n_ok ch len (1 + i) false 48 (47 + p_many (rd_c ch len i)) = false
    · have e : rd ch len i tz = (1 + i, true, rd_c ch len i, 0, if rd_c ch len i = 98 then 1 else tz) := by unfold rd; rw [if_neg h1, if_pos h2]
      rw [e, e2]
      rw [e2] at h2 hl
      rcases p_let_s hl with hc | hc | hc | hc | hc | hc
      · rw [hc] at h2 ⊢
        exact m3_rd_98_F l D cI o ps pa pv pn px f fa fv fn fx th mn kp le wh (nI tz) dg ch len i hlen hi61 hfx hch hil hc h2 hD
      · rw [hc] at h2 ⊢
        exact m3_rd_112_F l D cI o ps pa pv pn px f fa fv fn fx th mn kp le wh (nI tz) dg ch len i hlen hi61 hfx hch hil hc h2 hD
      · rw [hc] at h2 ⊢
        exact m3_rd_110_F l D cI o ps pa pv pn px f fa fv fn fx th mn kp le wh (nI tz) dg ch len i hlen hi61 hfx hch hil hc h2 hD
      · rw [hc] at h2 ⊢
        exact m3_rd_108_F l D cI o ps pa pv pn px f fa fv fn fx th mn kp le wh (nI tz) dg ch len i hlen hi61 hfx hch hil hc h2 hD
      · rw [hc] at h2 ⊢
        exact m3_rd_114_F l D cI o ps pa pv pn px f fa fv fn fx th mn kp le wh (nI tz) dg ch len i hlen hi61 hfx hch hil hc h2 hD
      · rw [hc] at h2 ⊢
        exact m3_rd_115_F l D cI o ps pa pv pn px f fa fv fn fx th mn kp le wh (nI tz) dg ch len i hlen hi61 hfx hch hil hc h2 hD
    · obtain ⟨-, n1, n2, n3⟩ := n_ok_s (q_bt h2)
      by_cases h3 : ¬ rd_c ch len i = 98
      · have e : rd ch len i tz = (2 + i, false, rd_c ch len i, ch (1 + i) - 48, tz) := by unfold rd; rw [if_neg h1, if_neg h2, if_pos h3]
        rw [e, e2]
        rw [e2] at n3 hl h3
        rcases p_let_s hl with hc | hc | hc | hc | hc | hc
        · exact absurd hc h3
        · rw [hc] at n3 ⊢
          exact m3_rd_112_T l D cI o ps pa pv pn px f fa fv fn fx th mn kp le wh (nI tz) dg ch len i hlen hi61 hfx hch hil hc n1 n2 n3 hD
        · rw [hc] at n3 ⊢
          exact m3_rd_110_T l D cI o ps pa pv pn px f fa fv fn fx th mn kp le wh (nI tz) dg ch len i hlen hi61 hfx hch hil hc n1 n2 n3 hD
        · rw [hc] at n3 ⊢
          exact m3_rd_108_T l D cI o ps pa pv pn px f fa fv fn fx th mn kp le wh (nI tz) dg ch len i hlen hi61 hfx hch hil hc n1 n2 n3 hD
        · rw [hc] at n3 ⊢
          exact m3_rd_114_T l D cI o ps pa pv pn px f fa fv fn fx th mn kp le wh (nI tz) dg ch len i hlen hi61 hfx hch hil hc n1 n2 n3 hD
        · rw [hc] at n3 ⊢
          exact m3_rd_115_T l D cI o ps pa pv pn px f fa fv fn fx th mn kp le wh (nI tz) dg ch len i hlen hi61 hfx hch hil hc n1 n2 n3 hD
      · have h98 : rd_c ch len i = 98 := Classical.not_not.mp h3
        have hc : ch i = 98 := e2 ▸ h98
        rw [h98] at n3
        by_cases h4 : n_ok ch len (2 + i) false 49 57 = false
        · have e : rd ch len i tz = (2 + i, true, 98, ch (1 + i) - 48, 1) := by unfold rd; rw [if_neg h1, if_neg h2, if_neg h3, if_pos h4]
          rw [e]
          exact m3_rd_98_F2 l D cI o ps pa pv pn px f fa fv fn fx th mn kp le wh (nI tz) dg ch len i hlen hi61 hfx hch hil hc n1 n2 n3 h4 hD
        · obtain ⟨-, m1, m2, m3⟩ := n_ok_s (q_bt h4)
          have e : rd ch len i tz = (d_j ch len (len - (3 + i)) (3 + i) (1 + (ch (2 + i) - 49)), false, 98, ch (1 + i) - 48, d_t ch len (len - (3 + i)) (3 + i) (1 + (ch (2 + i) - 49))) := by unfold rd; rw [if_neg h1, if_neg h2, if_neg h3, if_neg h4]
          rw [e]
          exact m3_rd_98_T l D cI o ps pa pv pn px f fa fv fn fx th mn kp le wh (nI tz) dg ch len i hlen hi61 hfx hch hil hc n1 n2 n3 m1 m2 m3 hD
set_option maxHeartbeats 4000000 in
set_option maxRecDepth 100000 in
theorem m3_isDone_98t (l : Launch) (D : va_G) (cI : ClassId) (o ps pa pv pn px : Nat) (f fa fv fn fx : Nat → Int32) (th mn kp ln sp wr : Int32) (dg : Int64) (u t : Nat) (B : Nat) (hI : Inv B f) (hB : B + 1600 < 2000000000) (hk : u < 3) (ht1 : 1 ≤ t) (ht2 : t ≤ 200) (hok : f (75 + u) + nI t ≤ nI 200) (hD : va_D (fun _ => True) (wR o ps pa pv pn px cI (oM ps pa pv pn px th mn kp ln sp wr (nI 98) (nI u) (nI t) dg) (rr f) fa fv fn fx)) : q_I l yX3_isDone wsX3_isDone { frames := 7, cells := 0, slots := 0, locals := 160 } [.ref o] (q_bp D (wR o ps pa pv pn px cI (oM ps pa pv pn px th mn kp ln sp wr (nI 98) (nI u) (nI t) dg) (rr f) fa fv fn fx) [(cI, .int)]) (fun v => v = nI 1) (fun H => va_P D vwCl (wR o ps pa pv pn px cI (oM ps pa pv pn px th mn kp ln sp wr (nI 98) (nI u) (nI t) dg) (rr (g_brew f u (nI t))) fa fv fn fx) H) (AM o ps pa pv pn px) 0 0 := by
  refine q_goI (cc := cX3_isDone) (maxL := 1) (ty := .boolean) (lv0 := [(0, .ref o)]) (by decide) rfl (Nat.le_of_ble_eq_true rfl) rfl ?_
  intro p e s m args below meth c Q ls hx hb hml hts hown hP hK hl hret
  have hi3 : ∀ w ∈ wsX30, w ∈ wsX3_isDone := by decide +kernel
  have hfl113 := hts (.fieldLink RX3 113 "WhisperedPotsModel" "letter" "I") (by decide +kernel)
  have hfl7 := hts (.fieldLink RX3 7 "WhisperedPotsModel" "s" "[I") (by decide +kernel)
  have hfl119 := hts (.fieldLink RX3 119 "WhisperedPotsModel" "whose" "I") (by decide +kernel)
  have hfl122 := hts (.fieldLink RX3 122 "WhisperedPotsModel" "tea" "I") (by decide +kernel)
  have hS : va_S (AM o ps pa pv pn px) s.heap s.heap [] := va_S.rf
  have hne : o ≠ ps := fun h => absurd (hD.1 0 1 _ _ rfl rfl h) (by decide)
  refine lv_aload_n hx hb dX3_isDone_0 rfl (lv_at hl 0 rfl) ?_
  refine va_get (D := D) (ci := 3) (v := .int (nI 98)) (C := RX3) (T := TX3) (N := 15) hx hb hts hi3 hown hK hP 0 rfl rfl 11 (by decide) hfl113 (fun _ h9 => h9) rfl dX3_isDone_1 ?_
  refine lv_lookup (tgt := 56) (off := 52) hx hb dX3_isDone_4 (by decide) (by decide) (by decide) ?_
  refine lv_aload_n hx hb dX3_isDone_56 rfl (lv_at hl 0 rfl) ?_
  refine va_get (D := D) (ci := 3) (v := .ref ps) (C := RX3) (T := TX3) (N := 15) hx hb hts hi3 hown hK hP 0 rfl rfl 1 (by decide) hfl7 (fun _ h9 => h9) rfl dX3_isDone_57 ?_
  refine lv_aload_n hx hb dX3_isDone_60 rfl (lv_at hl 0 rfl) ?_
  refine va_get (D := D) (ci := 3) (v := .int (nI u)) (C := RX3) (T := TX3) (N := 15) hx hb hts hi3 hown hK hP 0 rfl rfl 12 (by decide) hfl119 (fun _ h9 => h9) rfl dX3_isDone_61 ?_
  refine lv_iconst (v := nI 1) hx hb dX3_isDone_64 (by decide) ?_
  refine q_ciR (va_runS (rm := { frames := 0, cells := 0, slots := 0, locals := 0 }) (As := [.int (nI u), .int (nI 1)]) (rest := [.ref ps]) ⟨hx, hb, hml, hown, hts⟩ (m3_ofPot l D u 1 (by omega) (by omega)) (va_cwS 2 hts gX3_isDone_X3_ofPot rfl rfl rfl (by decide +kernel) ⟨Nat.le_of_ble_eq_true rfl, Nat.le_of_ble_eq_true rfl⟩) (q_pS (hP.sub [] rfl) (hK.sub [] rfl)) rfl rfl hl.1 rfl (lv_room (Nat.le_of_ble_eq_true rfl)) dX3_isDone_65 ⟨Nat.le_of_ble_eq_true rfl, Nat.le_of_ble_eq_true rfl⟩) hP hS (fun x1 H locs e1 hP hS => ?_)
  have e1 : x1 = (nI (73 + 5 * u)) := Eq.trans e1 (congrArg nI (by omega))
  subst e1
  refine q_ld hx hb hK hP 1 0 rfl rfl (j := (73 + 5 * u)) (v := f (75 + u)) (by omega) (by omega) (rr_at (pm_p1 (by omega))) dX3_isDone_68 ?_
  refine lv_aload_n hx hb dX3_isDone_69 rfl (lv_at hl 0 rfl) ?_
  refine va_get (D := D) (ci := 3) (v := .int (nI t)) (C := RX3) (T := TX3) (N := 15) hx hb hts hi3 hown hK hP 0 rfl rfl 13 (by decide) hfl122 (fun _ h9 => h9) rfl dX3_isDone_70 ?_
  refine lv_iadd hx hb dX3_isDone_73 ?_
  refine lv_sipush (v := nI 200) hx hb dX3_isDone_74 (by decide) ?_
  refine lv_icmp_gt (tgt := 99) hx hb dX3_isDone_77 (by decide) (fun c2 => absurd c2 (fun z => (by rw [← q_nlt] at hok; exact hok z))) (fun c2 => ?_)
  refine lv_aload_n hx hb dX3_isDone_80 rfl (lv_at hl 0 rfl) ?_
  refine lv_aload_n hx hb dX3_isDone_81 rfl (lv_at hl 0 rfl) ?_
  refine va_get (D := D) (ci := 3) (v := .int (nI u)) (C := RX3) (T := TX3) (N := 15) hx hb hts hi3 hown hK hP 0 rfl rfl 12 (by decide) hfl119 (fun _ h9 => h9) rfl dX3_isDone_82 ?_
  refine lv_aload_n hx hb dX3_isDone_85 rfl (lv_at hl 0 rfl) ?_
  refine va_get (D := D) (ci := 3) (v := .int (nI t)) (C := RX3) (T := TX3) (N := 15) hx hb hts hi3 hown hK hP 0 rfl rfl 13 (by decide) hfl122 (fun _ h9 => h9) rfl dX3_isDone_86 ?_
  refine q_ci1 (i := 1) (ws' := wR o ps pa pv pn px cI (oM ps pa pv pn px th mn kp ln sp wr (nI 98) (nI u) (nI t) dg) (rr (g_brew f u (nI t))) fa fv fn fx) (va_runV (rm := { frames := 1, cells := 0, slots := 0, locals := 21 }) (As := [.int (nI u), .int (nI t)]) (rest := []) ⟨hx, hb, hml, hown, hts⟩ (m3_brews l D cI o ps u (oM ps pa pv pn px th mn kp ln sp wr (nI 98) (nI u) (nI t) dg) f rfl (by omega) (nI t) hne) (cwV 2 hts gX3_isDone_X3_brews rfl rfl rfl (by decide +kernel) ⟨Nat.le_of_ble_eq_true rfl, Nat.le_of_ble_eq_true rfl⟩) (q_pV (ci := 3) (q0 := 0) (hP.sub (ws' := wS o ps cI (oM ps pa pv pn px th mn kp ln sp wr (nI 98) (nI u) (nI t) dg) f) [0, 1] rfl) hK rfl rfl) rfl rfl hl.1 rfl (lv_room (Nat.le_of_ble_eq_true rfl)) dX3_isDone_89 ⟨Nat.le_of_ble_eq_true rfl, Nat.le_of_ble_eq_true rfl⟩) hP hD hS rfl (Or.inr (Or.inl rfl)) rfl (fun x3 H locs e3 hP hD hS => ?_)
  obtain ⟨f3, hf3⟩ : ∃ z, z = g_brew f u (nI t) := ⟨_, rfl⟩
  rw [← hf3] at hP hD
  have e3 : x3 = g_brew f u (nI t) (75 + u) := e3
  refine lv_if_le (tgt := 99) hx hb dX3_isDone_92 (by decide) (fun c4 => absurd c4 (fun z => by rw [e3, brew_v] at z; have h8 := hI.2.2.2.2.2.2.2.1 u hk; have h9 := t_le.mp z; rw [t_0, t_add (by rw [t_nI (by omega)]; omega) (by rw [t_nI (by omega)]; omega), t_nI (by omega)] at h9; omega)) (fun c4 => ?_)
  refine lv_iconst (v := nI 1) hx hb dX3_isDone_95 (by decide) ?_
  refine lv_goto (tgt := 100) hx hb dX3_isDone_96 (by decide) ?_
  have hE : f3 = g_brew f u (nI t) := by (subst e3 hf3; rfl)
  rw [hE] at hP
  refine hret _ _ _ _ _ (by decide) ?_ (hP) hS dX3_isDone_100
  rfl
set_option maxHeartbeats 4000000 in
set_option maxRecDepth 100000 in
theorem m3_isDone_98f (l : Launch) (D : va_G) (cI : ClassId) (o ps pa pv pn px : Nat) (f fa fv fn fx : Nat → Int32) (th mn kp ln sp wr : Int32) (dg : Int64) (u t : Nat) (B : Nat) (hI : Inv B f) (hB : B + 1600 < 2000000000) (hk : u < 3) (ht1 : 1 ≤ t) (ht2 : t ≤ 200) (hok : ¬ f (75 + u) + nI t ≤ nI 200) (hD : va_D (fun _ => True) (wR o ps pa pv pn px cI (oM ps pa pv pn px th mn kp ln sp wr (nI 98) (nI u) (nI t) dg) (rr f) fa fv fn fx)) : q_I l yX3_isDone wsX3_isDone { frames := 7, cells := 0, slots := 0, locals := 160 } [.ref o] (q_bp D (wR o ps pa pv pn px cI (oM ps pa pv pn px th mn kp ln sp wr (nI 98) (nI u) (nI t) dg) (rr f) fa fv fn fx) [(cI, .int)]) (fun v => v = nI 0) (fun H => va_P D vwCl (wR o ps pa pv pn px cI (oM ps pa pv pn px th mn kp ln sp wr (nI 98) (nI u) (nI t) dg) (rr f) fa fv fn fx) H) (AM o ps pa pv pn px) 0 0 := by
  refine q_goI (cc := cX3_isDone) (maxL := 1) (ty := .boolean) (lv0 := [(0, .ref o)]) (by decide) rfl (Nat.le_of_ble_eq_true rfl) rfl ?_
  intro p e s m args below meth c Q ls hx hb hml hts hown hP hK hl hret
  have hi3 : ∀ w ∈ wsX30, w ∈ wsX3_isDone := by decide +kernel
  have hfl113 := hts (.fieldLink RX3 113 "WhisperedPotsModel" "letter" "I") (by decide +kernel)
  have hfl7 := hts (.fieldLink RX3 7 "WhisperedPotsModel" "s" "[I") (by decide +kernel)
  have hfl119 := hts (.fieldLink RX3 119 "WhisperedPotsModel" "whose" "I") (by decide +kernel)
  have hfl122 := hts (.fieldLink RX3 122 "WhisperedPotsModel" "tea" "I") (by decide +kernel)
  have hS : va_S (AM o ps pa pv pn px) s.heap s.heap [] := va_S.rf
  have hne : o ≠ ps := fun h => absurd (hD.1 0 1 _ _ rfl rfl h) (by decide)
  refine lv_aload_n hx hb dX3_isDone_0 rfl (lv_at hl 0 rfl) ?_
  refine va_get (D := D) (ci := 3) (v := .int (nI 98)) (C := RX3) (T := TX3) (N := 15) hx hb hts hi3 hown hK hP 0 rfl rfl 11 (by decide) hfl113 (fun _ h9 => h9) rfl dX3_isDone_1 ?_
  refine lv_lookup (tgt := 56) (off := 52) hx hb dX3_isDone_4 (by decide) (by decide) (by decide) ?_
  refine lv_aload_n hx hb dX3_isDone_56 rfl (lv_at hl 0 rfl) ?_
  refine va_get (D := D) (ci := 3) (v := .ref ps) (C := RX3) (T := TX3) (N := 15) hx hb hts hi3 hown hK hP 0 rfl rfl 1 (by decide) hfl7 (fun _ h9 => h9) rfl dX3_isDone_57 ?_
  refine lv_aload_n hx hb dX3_isDone_60 rfl (lv_at hl 0 rfl) ?_
  refine va_get (D := D) (ci := 3) (v := .int (nI u)) (C := RX3) (T := TX3) (N := 15) hx hb hts hi3 hown hK hP 0 rfl rfl 12 (by decide) hfl119 (fun _ h9 => h9) rfl dX3_isDone_61 ?_
  refine lv_iconst (v := nI 1) hx hb dX3_isDone_64 (by decide) ?_
  refine q_ciR (va_runS (rm := { frames := 0, cells := 0, slots := 0, locals := 0 }) (As := [.int (nI u), .int (nI 1)]) (rest := [.ref ps]) ⟨hx, hb, hml, hown, hts⟩ (m3_ofPot l D u 1 (by omega) (by omega)) (va_cwS 2 hts gX3_isDone_X3_ofPot rfl rfl rfl (by decide +kernel) ⟨Nat.le_of_ble_eq_true rfl, Nat.le_of_ble_eq_true rfl⟩) (q_pS (hP.sub [] rfl) (hK.sub [] rfl)) rfl rfl hl.1 rfl (lv_room (Nat.le_of_ble_eq_true rfl)) dX3_isDone_65 ⟨Nat.le_of_ble_eq_true rfl, Nat.le_of_ble_eq_true rfl⟩) hP hS (fun x1 H locs e1 hP hS => ?_)
  have e1 : x1 = (nI (73 + 5 * u)) := Eq.trans e1 (congrArg nI (by omega))
  subst e1
  refine q_ld hx hb hK hP 1 0 rfl rfl (j := (73 + 5 * u)) (v := f (75 + u)) (by omega) (by omega) (rr_at (pm_p1 (by omega))) dX3_isDone_68 ?_
  refine lv_aload_n hx hb dX3_isDone_69 rfl (lv_at hl 0 rfl) ?_
  refine va_get (D := D) (ci := 3) (v := .int (nI t)) (C := RX3) (T := TX3) (N := 15) hx hb hts hi3 hown hK hP 0 rfl rfl 13 (by decide) hfl122 (fun _ h9 => h9) rfl dX3_isDone_70 ?_
  refine lv_iadd hx hb dX3_isDone_73 ?_
  refine lv_sipush (v := nI 200) hx hb dX3_isDone_74 (by decide) ?_
  refine lv_icmp_gt (tgt := 99) hx hb dX3_isDone_77 (by decide) (fun c2 => ?_) (fun c2 => absurd c2 (fun z => z (by rw [← q_nlt, Classical.not_not] at hok; exact hok)))
  refine lv_iconst (v := nI 0) hx hb dX3_isDone_99 (by decide) ?_
  refine hret _ _ _ _ _ (by decide) ?_ (hP) hS dX3_isDone_100
  rfl
set_option maxHeartbeats 4000000 in
set_option maxRecDepth 100000 in
theorem m3_isDone_112t (l : Launch) (D : va_G) (cI : ClassId) (o ps pa pv pn px : Nat) (f fa fv fn fx : Nat → Int32) (th mn kp ln sp wr : Int32) (dg : Int64) (u t : Nat) (B : Nat) (hI : Inv B f) (hB : B + 1600 < 2000000000) (hk : u < 3) (hok : g_wy f u = 0) (hD : va_D (fun _ => True) (wR o ps pa pv pn px cI (oM ps pa pv pn px th mn kp ln sp wr (nI 112) (nI u) (nI t) dg) (rr f) fa fv fn fx)) : q_I l yX3_isDone wsX3_isDone { frames := 7, cells := 0, slots := 0, locals := 160 } [.ref o] (q_bp D (wR o ps pa pv pn px cI (oM ps pa pv pn px th mn kp ln sp wr (nI 112) (nI u) (nI t) dg) (rr f) fa fv fn fx) [(cI, .int)]) (fun v => v = nI 1) (fun H => va_P D vwCl (wR o ps pa pv pn px cI (oM ps pa pv pn px th mn kp ln sp wr (nI 112) (nI u) (nI t) dg) (rr (g_pour f u)) fa fv fn fx) H) (AM o ps pa pv pn px) 0 0 := by
  refine q_goI (cc := cX3_isDone) (maxL := 1) (ty := .boolean) (lv0 := [(0, .ref o)]) (by decide) rfl (Nat.le_of_ble_eq_true rfl) rfl ?_
  intro p e s m args below meth c Q ls hx hb hml hts hown hP hK hl hret
  have hi3 : ∀ w ∈ wsX30, w ∈ wsX3_isDone := by decide +kernel
  have hfl113 := hts (.fieldLink RX3 113 "WhisperedPotsModel" "letter" "I") (by decide +kernel)
  have hfl7 := hts (.fieldLink RX3 7 "WhisperedPotsModel" "s" "[I") (by decide +kernel)
  have hfl119 := hts (.fieldLink RX3 119 "WhisperedPotsModel" "whose" "I") (by decide +kernel)
  have hfl122 := hts (.fieldLink RX3 122 "WhisperedPotsModel" "tea" "I") (by decide +kernel)
  have hS : va_S (AM o ps pa pv pn px) s.heap s.heap [] := va_S.rf
  have hne : o ≠ ps := fun h => absurd (hD.1 0 1 _ _ rfl rfl h) (by decide)
  refine lv_aload_n hx hb dX3_isDone_0 rfl (lv_at hl 0 rfl) ?_
  refine va_get (D := D) (ci := 3) (v := .int (nI 112)) (C := RX3) (T := TX3) (N := 15) hx hb hts hi3 hown hK hP 0 rfl rfl 11 (by decide) hfl113 (fun _ h9 => h9) rfl dX3_isDone_1 ?_
  refine lv_lookup (tgt := 101) (off := 97) hx hb dX3_isDone_4 (by decide) (by decide) (by decide) ?_
  refine lv_aload_n hx hb dX3_isDone_101 rfl (lv_at hl 0 rfl) ?_
  refine lv_aload_n hx hb dX3_isDone_102 rfl (lv_at hl 0 rfl) ?_
  refine va_get (D := D) (ci := 3) (v := .int (nI u)) (C := RX3) (T := TX3) (N := 15) hx hb hts hi3 hown hK hP 0 rfl rfl 12 (by decide) hfl119 (fun _ h9 => h9) rfl dX3_isDone_103 ?_
  refine q_ciR (va_runV (rm := { frames := 2, cells := 0, slots := 0, locals := 42 }) (As := [.int (nI u)]) (rest := []) ⟨hx, hb, hml, hown, hts⟩ (m3_hindrance l D cI o ps u (oM ps pa pv pn px th mn kp ln sp wr (nI 112) (nI u) (nI t) dg) f rfl B hI hk) (cwV 1 hts gX3_isDone_X3_hindrance rfl rfl rfl (by decide +kernel) ⟨Nat.le_of_ble_eq_true rfl, Nat.le_of_ble_eq_true rfl⟩) (q_pV (ci := 3) (q0 := 0) (hP.sub (ws' := wS o ps cI (oM ps pa pv pn px th mn kp ln sp wr (nI 112) (nI u) (nI t) dg) f) [0, 1] rfl) hK rfl rfl) rfl rfl hl.1 rfl (lv_room (Nat.le_of_ble_eq_true rfl)) dX3_isDone_106 ⟨Nat.le_of_ble_eq_true rfl, Nat.le_of_ble_eq_true rfl⟩) hP hS (fun x1 H locs e1 hP hS => ?_)
  have e1 : x1 = g_wy f u := e1
  refine lv_if_ne (tgt := 127) hx hb dX3_isDone_109 (by decide) (fun c2 => absurd c2 (fun z => z (by rw [e1, hok]))) (fun c2 => ?_)
  refine lv_aload_n hx hb dX3_isDone_112 rfl (lv_at hl 0 rfl) ?_
  refine lv_aload_n hx hb dX3_isDone_113 rfl (lv_at hl 0 rfl) ?_
  refine va_get (D := D) (ci := 3) (v := .int (nI u)) (C := RX3) (T := TX3) (N := 15) hx hb hts hi3 hown hK hP 0 rfl rfl 12 (by decide) hfl119 (fun _ h9 => h9) rfl dX3_isDone_114 ?_
  refine q_ci1 (i := 1) (ws' := wR o ps pa pv pn px cI (oM ps pa pv pn px th mn kp ln sp wr (nI 112) (nI u) (nI t) dg) (rr (g_pour f u)) fa fv fn fx) (va_runV (rm := { frames := 5, cells := 0, slots := 0, locals := 110 }) (As := [.int (nI u)]) (rest := []) ⟨hx, hb, hml, hown, hts⟩ (m3_pours l D cI o ps u (oM ps pa pv pn px th mn kp ln sp wr (nI 112) (nI u) (nI t) dg) f rfl B hI hk hne) (cwV 1 hts gX3_isDone_X3_pours rfl rfl rfl (by decide +kernel) ⟨Nat.le_of_ble_eq_true rfl, Nat.le_of_ble_eq_true rfl⟩) (q_pV (ci := 3) (q0 := 0) (hP.sub (ws' := wS o ps cI (oM ps pa pv pn px th mn kp ln sp wr (nI 112) (nI u) (nI t) dg) f) [0, 1] rfl) hK rfl rfl) rfl rfl hl.1 rfl (lv_room (Nat.le_of_ble_eq_true rfl)) dX3_isDone_117 ⟨Nat.le_of_ble_eq_true rfl, Nat.le_of_ble_eq_true rfl⟩) hP hD hS rfl (Or.inr (Or.inl rfl)) rfl (fun x3 H locs e3 hP hD hS => ?_)
  obtain ⟨f3, hf3⟩ : ∃ z, z = g_pour f u := ⟨_, rfl⟩
  rw [← hf3] at hP hD
  have e3 : x3 = g_ov f u := e3
  refine lv_if_lt (tgt := 127) hx hb dX3_isDone_120 (by decide) (fun c4 => absurd c4 (fun z => by rw [e3] at z; have h8 := hI.ov hk; have h9 := t_lt.mp z; rw [t_0] at h9; omega)) (fun c4 => ?_)
  refine lv_iconst (v := nI 1) hx hb dX3_isDone_123 (by decide) ?_
  refine lv_goto (tgt := 128) hx hb dX3_isDone_124 (by decide) ?_
  have hE : f3 = g_pour f u := by (subst e3 hf3 e1; rfl)
  rw [hE] at hP
  refine hret _ _ _ _ _ (by decide) ?_ (hP) hS dX3_isDone_128
  rfl
set_option maxHeartbeats 4000000 in
set_option maxRecDepth 100000 in
theorem m3_isDone_112f (l : Launch) (D : va_G) (cI : ClassId) (o ps pa pv pn px : Nat) (f fa fv fn fx : Nat → Int32) (th mn kp ln sp wr : Int32) (dg : Int64) (u t : Nat) (B : Nat) (hI : Inv B f) (hB : B + 1600 < 2000000000) (hk : u < 3) (hok : ¬ g_wy f u = 0) (hD : va_D (fun _ => True) (wR o ps pa pv pn px cI (oM ps pa pv pn px th mn kp ln sp wr (nI 112) (nI u) (nI t) dg) (rr f) fa fv fn fx)) : q_I l yX3_isDone wsX3_isDone { frames := 7, cells := 0, slots := 0, locals := 160 } [.ref o] (q_bp D (wR o ps pa pv pn px cI (oM ps pa pv pn px th mn kp ln sp wr (nI 112) (nI u) (nI t) dg) (rr f) fa fv fn fx) [(cI, .int)]) (fun v => v = nI 0) (fun H => va_P D vwCl (wR o ps pa pv pn px cI (oM ps pa pv pn px th mn kp ln sp wr (nI 112) (nI u) (nI t) dg) (rr f) fa fv fn fx) H) (AM o ps pa pv pn px) 0 0 := by
  refine q_goI (cc := cX3_isDone) (maxL := 1) (ty := .boolean) (lv0 := [(0, .ref o)]) (by decide) rfl (Nat.le_of_ble_eq_true rfl) rfl ?_
  intro p e s m args below meth c Q ls hx hb hml hts hown hP hK hl hret
  have hi3 : ∀ w ∈ wsX30, w ∈ wsX3_isDone := by decide +kernel
  have hfl113 := hts (.fieldLink RX3 113 "WhisperedPotsModel" "letter" "I") (by decide +kernel)
  have hfl7 := hts (.fieldLink RX3 7 "WhisperedPotsModel" "s" "[I") (by decide +kernel)
  have hfl119 := hts (.fieldLink RX3 119 "WhisperedPotsModel" "whose" "I") (by decide +kernel)
  have hfl122 := hts (.fieldLink RX3 122 "WhisperedPotsModel" "tea" "I") (by decide +kernel)
  have hS : va_S (AM o ps pa pv pn px) s.heap s.heap [] := va_S.rf
  have hne : o ≠ ps := fun h => absurd (hD.1 0 1 _ _ rfl rfl h) (by decide)
  refine lv_aload_n hx hb dX3_isDone_0 rfl (lv_at hl 0 rfl) ?_
  refine va_get (D := D) (ci := 3) (v := .int (nI 112)) (C := RX3) (T := TX3) (N := 15) hx hb hts hi3 hown hK hP 0 rfl rfl 11 (by decide) hfl113 (fun _ h9 => h9) rfl dX3_isDone_1 ?_
  refine lv_lookup (tgt := 101) (off := 97) hx hb dX3_isDone_4 (by decide) (by decide) (by decide) ?_
  refine lv_aload_n hx hb dX3_isDone_101 rfl (lv_at hl 0 rfl) ?_
  refine lv_aload_n hx hb dX3_isDone_102 rfl (lv_at hl 0 rfl) ?_
  refine va_get (D := D) (ci := 3) (v := .int (nI u)) (C := RX3) (T := TX3) (N := 15) hx hb hts hi3 hown hK hP 0 rfl rfl 12 (by decide) hfl119 (fun _ h9 => h9) rfl dX3_isDone_103 ?_
  refine q_ciR (va_runV (rm := { frames := 2, cells := 0, slots := 0, locals := 42 }) (As := [.int (nI u)]) (rest := []) ⟨hx, hb, hml, hown, hts⟩ (m3_hindrance l D cI o ps u (oM ps pa pv pn px th mn kp ln sp wr (nI 112) (nI u) (nI t) dg) f rfl B hI hk) (cwV 1 hts gX3_isDone_X3_hindrance rfl rfl rfl (by decide +kernel) ⟨Nat.le_of_ble_eq_true rfl, Nat.le_of_ble_eq_true rfl⟩) (q_pV (ci := 3) (q0 := 0) (hP.sub (ws' := wS o ps cI (oM ps pa pv pn px th mn kp ln sp wr (nI 112) (nI u) (nI t) dg) f) [0, 1] rfl) hK rfl rfl) rfl rfl hl.1 rfl (lv_room (Nat.le_of_ble_eq_true rfl)) dX3_isDone_106 ⟨Nat.le_of_ble_eq_true rfl, Nat.le_of_ble_eq_true rfl⟩) hP hS (fun x1 H locs e1 hP hS => ?_)
  have e1 : x1 = g_wy f u := e1
  refine lv_if_ne (tgt := 127) hx hb dX3_isDone_109 (by decide) (fun c2 => ?_) (fun c2 => absurd c2 (fun y => hok (by rw [← e1]; exact y)))
  refine lv_iconst (v := nI 0) hx hb dX3_isDone_127 (by decide) ?_
  refine hret _ _ _ _ _ (by decide) ?_ (hP) hS dX3_isDone_128
  rfl
set_option maxHeartbeats 4000000 in
set_option maxRecDepth 100000 in
theorem m3_isDone_110 (l : Launch) (D : va_G) (cI : ClassId) (o ps pa pv pn px : Nat) (f fa fv fn fx : Nat → Int32) (th mn kp ln sp wr : Int32) (dg : Int64) (u t : Nat) (B : Nat) (hI : Inv B f) (hB : B + 1600 < 2000000000) (hk : u < 3)  (hD : va_D (fun _ => True) (wR o ps pa pv pn px cI (oM ps pa pv pn px th mn kp ln sp wr (nI 110) (nI u) (nI t) dg) (rr f) fa fv fn fx)) : q_I l yX3_isDone wsX3_isDone { frames := 7, cells := 0, slots := 0, locals := 160 } [.ref o] (q_bp D (wR o ps pa pv pn px cI (oM ps pa pv pn px th mn kp ln sp wr (nI 110) (nI u) (nI t) dg) (rr f) fa fv fn fx) [(cI, .int)]) (fun v => v = nI 1) (fun H => va_P D vwCl (wR o ps pa pv pn px cI (oM ps pa pv pn px th mn kp ln sp wr (nI 110) (nI u) (nI t) dg) (rr (g_hand f u 1)) fa fv fn fx) H) (AM o ps pa pv pn px) 0 0 := by
  refine q_goI (cc := cX3_isDone) (maxL := 1) (ty := .boolean) (lv0 := [(0, .ref o)]) (by decide) rfl (Nat.le_of_ble_eq_true rfl) rfl ?_
  intro p e s m args below meth c Q ls hx hb hml hts hown hP hK hl hret
  have hi3 : ∀ w ∈ wsX30, w ∈ wsX3_isDone := by decide +kernel
  have hfl113 := hts (.fieldLink RX3 113 "WhisperedPotsModel" "letter" "I") (by decide +kernel)
  have hfl7 := hts (.fieldLink RX3 7 "WhisperedPotsModel" "s" "[I") (by decide +kernel)
  have hfl119 := hts (.fieldLink RX3 119 "WhisperedPotsModel" "whose" "I") (by decide +kernel)
  have hfl122 := hts (.fieldLink RX3 122 "WhisperedPotsModel" "tea" "I") (by decide +kernel)
  have hS : va_S (AM o ps pa pv pn px) s.heap s.heap [] := va_S.rf
  have hne : o ≠ ps := fun h => absurd (hD.1 0 1 _ _ rfl rfl h) (by decide)
  refine lv_aload_n hx hb dX3_isDone_0 rfl (lv_at hl 0 rfl) ?_
  refine va_get (D := D) (ci := 3) (v := .int (nI 110)) (C := RX3) (T := TX3) (N := 15) hx hb hts hi3 hown hK hP 0 rfl rfl 11 (by decide) hfl113 (fun _ h9 => h9) rfl dX3_isDone_1 ?_
  refine lv_lookup (tgt := 129) (off := 125) hx hb dX3_isDone_4 (by decide) (by decide) (by decide) ?_
  refine lv_aload_n hx hb dX3_isDone_129 rfl (lv_at hl 0 rfl) ?_
  refine lv_aload_n hx hb dX3_isDone_130 rfl (lv_at hl 0 rfl) ?_
  refine va_get (D := D) (ci := 3) (v := .int (nI u)) (C := RX3) (T := TX3) (N := 15) hx hb hts hi3 hown hK hP 0 rfl rfl 12 (by decide) hfl119 (fun _ h9 => h9) rfl dX3_isDone_131 ?_
  refine lv_iconst (v := nI 1) hx hb dX3_isDone_134 (by decide) ?_
  refine q_ci1 (i := 1) (ws' := wR o ps pa pv pn px cI (oM ps pa pv pn px th mn kp ln sp wr (nI 110) (nI u) (nI t) dg) (rr (g_hand f u 1)) fa fv fn fx) (va_runV (rm := { frames := 3, cells := 0, slots := 0, locals := 64 }) (As := [.int (nI u), .int (nI 1)]) (rest := []) ⟨hx, hb, hml, hown, hts⟩ (m3_hands l D cI o ps u (hN f u + 9) 1 (oM ps pa pv pn px th mn kp ln sp wr (nI 110) (nI u) (nI t) dg) f rfl B hI (nI 1) hk (bw_1 _) (by omega) (by have := hI.hN8 hk; omega) hne) (cwV 2 hts gX3_isDone_X3_hands rfl rfl rfl (by decide +kernel) ⟨Nat.le_of_ble_eq_true rfl, Nat.le_of_ble_eq_true rfl⟩) (q_pV (ci := 3) (q0 := 0) (hP.sub (ws' := wS o ps cI (oM ps pa pv pn px th mn kp ln sp wr (nI 110) (nI u) (nI t) dg) f) [0, 1] rfl) hK rfl rfl) rfl rfl hl.1 rfl (lv_room (Nat.le_of_ble_eq_true rfl)) dX3_isDone_135 ⟨Nat.le_of_ble_eq_true rfl, Nat.le_of_ble_eq_true rfl⟩) hP hD hS rfl (Or.inr (Or.inl rfl)) rfl (fun x1 H locs e1 hP hD hS => ?_)
  obtain ⟨f1, hf1⟩ : ∃ z, z = g_hand f u 1 := ⟨_, rfl⟩
  rw [← hf1] at hP hD
  have e1 : x1 = nI ((hN f u + 1) % 8) := e1
  refine lv_if_lt (tgt := 145) hx hb dX3_isDone_138 (by decide) (fun c2 => absurd c2 (fun z => by rw [e1] at z; exact nI_pos (by omega) z)) (fun c2 => ?_)
  refine lv_iconst (v := nI 1) hx hb dX3_isDone_141 (by decide) ?_
  refine lv_goto (tgt := 146) hx hb dX3_isDone_142 (by decide) ?_
  have hE : f1 = g_hand f u 1 := by (subst e1 hf1; rfl)
  rw [hE] at hP
  refine hret _ _ _ _ _ (by decide) ?_ (hP) hS dX3_isDone_146
  rfl
set_option maxHeartbeats 4000000 in
set_option maxRecDepth 100000 in
theorem m3_isDone_108 (l : Launch) (D : va_G) (cI : ClassId) (o ps pa pv pn px : Nat) (f fa fv fn fx : Nat → Int32) (th mn kp ln sp wr : Int32) (dg : Int64) (u t : Nat) (B : Nat) (hI : Inv B f) (hB : B + 1600 < 2000000000) (hk : u < 3)  (hD : va_D (fun _ => True) (wR o ps pa pv pn px cI (oM ps pa pv pn px th mn kp ln sp wr (nI 108) (nI u) (nI t) dg) (rr f) fa fv fn fx)) : q_I l yX3_isDone wsX3_isDone { frames := 7, cells := 0, slots := 0, locals := 160 } [.ref o] (q_bp D (wR o ps pa pv pn px cI (oM ps pa pv pn px th mn kp ln sp wr (nI 108) (nI u) (nI t) dg) (rr f) fa fv fn fx) [(cI, .int)]) (fun v => v = nI 1) (fun H => va_P D vwCl (wR o ps pa pv pn px cI (oM ps pa pv pn px th mn kp ln sp wr (nI 108) (nI u) (nI t) dg) (rr (g_hand f u 7)) fa fv fn fx) H) (AM o ps pa pv pn px) 0 0 := by
  refine q_goI (cc := cX3_isDone) (maxL := 1) (ty := .boolean) (lv0 := [(0, .ref o)]) (by decide) rfl (Nat.le_of_ble_eq_true rfl) rfl ?_
  intro p e s m args below meth c Q ls hx hb hml hts hown hP hK hl hret
  have hi3 : ∀ w ∈ wsX30, w ∈ wsX3_isDone := by decide +kernel
  have hfl113 := hts (.fieldLink RX3 113 "WhisperedPotsModel" "letter" "I") (by decide +kernel)
  have hfl7 := hts (.fieldLink RX3 7 "WhisperedPotsModel" "s" "[I") (by decide +kernel)
  have hfl119 := hts (.fieldLink RX3 119 "WhisperedPotsModel" "whose" "I") (by decide +kernel)
  have hfl122 := hts (.fieldLink RX3 122 "WhisperedPotsModel" "tea" "I") (by decide +kernel)
  have hS : va_S (AM o ps pa pv pn px) s.heap s.heap [] := va_S.rf
  have hne : o ≠ ps := fun h => absurd (hD.1 0 1 _ _ rfl rfl h) (by decide)
  refine lv_aload_n hx hb dX3_isDone_0 rfl (lv_at hl 0 rfl) ?_
  refine va_get (D := D) (ci := 3) (v := .int (nI 108)) (C := RX3) (T := TX3) (N := 15) hx hb hts hi3 hown hK hP 0 rfl rfl 11 (by decide) hfl113 (fun _ h9 => h9) rfl dX3_isDone_1 ?_
  refine lv_lookup (tgt := 147) (off := 143) hx hb dX3_isDone_4 (by decide) (by decide) (by decide) ?_
  refine lv_aload_n hx hb dX3_isDone_147 rfl (lv_at hl 0 rfl) ?_
  refine lv_aload_n hx hb dX3_isDone_148 rfl (lv_at hl 0 rfl) ?_
  refine va_get (D := D) (ci := 3) (v := .int (nI u)) (C := RX3) (T := TX3) (N := 15) hx hb hts hi3 hown hK hP 0 rfl rfl 12 (by decide) hfl119 (fun _ h9 => h9) rfl dX3_isDone_149 ?_
  refine lv_iconst (v := (-1)) hx hb dX3_isDone_152 (by decide) ?_
  refine q_ci1 (i := 1) (ws' := wR o ps pa pv pn px cI (oM ps pa pv pn px th mn kp ln sp wr (nI 108) (nI u) (nI t) dg) (rr (g_hand f u 7)) fa fv fn fx) (va_runV (rm := { frames := 3, cells := 0, slots := 0, locals := 64 }) (As := [.int (nI u), .int (-1)]) (rest := []) ⟨hx, hb, hml, hown, hts⟩ (m3_hands l D cI o ps u (hN f u + 7) 7 (oM ps pa pv pn px th mn kp ln sp wr (nI 108) (nI u) (nI t) dg) f rfl B hI (-1) hk (bw_0 _) rfl (by have := hI.hN8 hk; omega) hne) (cwV 2 hts gX3_isDone_X3_hands rfl rfl rfl (by decide +kernel) ⟨Nat.le_of_ble_eq_true rfl, Nat.le_of_ble_eq_true rfl⟩) (q_pV (ci := 3) (q0 := 0) (hP.sub (ws' := wS o ps cI (oM ps pa pv pn px th mn kp ln sp wr (nI 108) (nI u) (nI t) dg) f) [0, 1] rfl) hK rfl rfl) rfl rfl hl.1 rfl (lv_room (Nat.le_of_ble_eq_true rfl)) dX3_isDone_153 ⟨Nat.le_of_ble_eq_true rfl, Nat.le_of_ble_eq_true rfl⟩) hP hD hS rfl (Or.inr (Or.inl rfl)) rfl (fun x1 H locs e1 hP hD hS => ?_)
  obtain ⟨f1, hf1⟩ : ∃ z, z = g_hand f u 7 := ⟨_, rfl⟩
  rw [← hf1] at hP hD
  have e1 : x1 = nI ((hN f u + 7) % 8) := e1
  refine lv_if_lt (tgt := 163) hx hb dX3_isDone_156 (by decide) (fun c2 => absurd c2 (fun z => by rw [e1] at z; exact nI_pos (by omega) z)) (fun c2 => ?_)
  refine lv_iconst (v := nI 1) hx hb dX3_isDone_159 (by decide) ?_
  refine lv_goto (tgt := 164) hx hb dX3_isDone_160 (by decide) ?_
  have hE : f1 = g_hand f u 7 := by (subst e1 hf1; rfl)
  rw [hE] at hP
  refine hret _ _ _ _ _ (by decide) ?_ (hP) hS dX3_isDone_164
  rfl
set_option maxHeartbeats 4000000 in
set_option maxRecDepth 100000 in
theorem m3_isDone_114 (l : Launch) (D : va_G) (cI : ClassId) (o ps pa pv pn px : Nat) (f fa fv fn fx : Nat → Int32) (th mn kp ln sp wr : Int32) (dg : Int64) (u t : Nat) (B : Nat) (hI : Inv B f) (hB : B + 1600 < 2000000000) (hk : u < 3)  (hD : va_D (fun _ => True) (wR o ps pa pv pn px cI (oM ps pa pv pn px th mn kp ln sp wr (nI 114) (nI u) (nI t) dg) (rr f) fa fv fn fx)) : q_I l yX3_isDone wsX3_isDone { frames := 7, cells := 0, slots := 0, locals := 160 } [.ref o] (q_bp D (wR o ps pa pv pn px cI (oM ps pa pv pn px th mn kp ln sp wr (nI 114) (nI u) (nI t) dg) (rr f) fa fv fn fx) [(cI, .int)]) (fun v => v = nI 1) (fun H => va_P D vwCl (wR o ps pa pv pn px cI (oM ps pa pv pn px th mn kp ln sp wr (nI 114) (nI u) (nI t) dg) (rr (g_rn 8 f u)) fa fv fn fx) H) (AM o ps pa pv pn px) 0 0 := by
  refine q_goI (cc := cX3_isDone) (maxL := 1) (ty := .boolean) (lv0 := [(0, .ref o)]) (by decide) rfl (Nat.le_of_ble_eq_true rfl) rfl ?_
  intro p e s m args below meth c Q ls hx hb hml hts hown hP hK hl hret
  have hi3 : ∀ w ∈ wsX30, w ∈ wsX3_isDone := by decide +kernel
  have hfl113 := hts (.fieldLink RX3 113 "WhisperedPotsModel" "letter" "I") (by decide +kernel)
  have hfl7 := hts (.fieldLink RX3 7 "WhisperedPotsModel" "s" "[I") (by decide +kernel)
  have hfl119 := hts (.fieldLink RX3 119 "WhisperedPotsModel" "whose" "I") (by decide +kernel)
  have hfl122 := hts (.fieldLink RX3 122 "WhisperedPotsModel" "tea" "I") (by decide +kernel)
  have hS : va_S (AM o ps pa pv pn px) s.heap s.heap [] := va_S.rf
  have hne : o ≠ ps := fun h => absurd (hD.1 0 1 _ _ rfl rfl h) (by decide)
  refine lv_aload_n hx hb dX3_isDone_0 rfl (lv_at hl 0 rfl) ?_
  refine va_get (D := D) (ci := 3) (v := .int (nI 114)) (C := RX3) (T := TX3) (N := 15) hx hb hts hi3 hown hK hP 0 rfl rfl 11 (by decide) hfl113 (fun _ h9 => h9) rfl dX3_isDone_1 ?_
  refine lv_lookup (tgt := 165) (off := 161) hx hb dX3_isDone_4 (by decide) (by decide) (by decide) ?_
  refine lv_aload_n hx hb dX3_isDone_165 rfl (lv_at hl 0 rfl) ?_
  refine lv_aload_n hx hb dX3_isDone_166 rfl (lv_at hl 0 rfl) ?_
  refine va_get (D := D) (ci := 3) (v := .int (nI u)) (C := RX3) (T := TX3) (N := 15) hx hb hts hi3 hown hK hP 0 rfl rfl 12 (by decide) hfl119 (fun _ h9 => h9) rfl dX3_isDone_167 ?_
  refine q_ci1 (i := 1) (ws' := wR o ps pa pv pn px cI (oM ps pa pv pn px th mn kp ln sp wr (nI 114) (nI u) (nI t) dg) (rr (g_rn 8 f u)) fa fv fn fx) (va_runV (rm := { frames := 6, cells := 0, slots := 0, locals := 135 }) (As := [.int (nI u)]) (rest := []) ⟨hx, hb, hml, hown, hts⟩ (m3_goesRound l D cI o ps u (oM ps pa pv pn px th mn kp ln sp wr (nI 114) (nI u) (nI t) dg) f rfl B hI hk (by omega) hne) (cwV 1 hts gX3_isDone_X3_goesRound rfl rfl rfl (by decide +kernel) ⟨Nat.le_of_ble_eq_true rfl, Nat.le_of_ble_eq_true rfl⟩) (q_pV (ci := 3) (q0 := 0) (hP.sub (ws' := wS o ps cI (oM ps pa pv pn px th mn kp ln sp wr (nI 114) (nI u) (nI t) dg) f) [0, 1] rfl) hK rfl rfl) rfl rfl hl.1 rfl (lv_room (Nat.le_of_ble_eq_true rfl)) dX3_isDone_170 ⟨Nat.le_of_ble_eq_true rfl, Nat.le_of_ble_eq_true rfl⟩) hP hD hS rfl (Or.inr (Or.inl rfl)) rfl (fun x1 H locs e1 hP hD hS => ?_)
  obtain ⟨f1, hf1⟩ : ∃ z, z = g_rn 8 f u := ⟨_, rfl⟩
  rw [← hf1] at hP hD
  have e1 : x1 = nI (g_rc 8 f u) := e1
  refine lv_if_lt (tgt := 180) hx hb dX3_isDone_173 (by decide) (fun c2 => absurd c2 (fun z => by rw [e1] at z; have h8 := rc_le 8 f u; exact nI_pos (by omega) z)) (fun c2 => ?_)
  refine lv_iconst (v := nI 1) hx hb dX3_isDone_176 (by decide) ?_
  refine lv_goto (tgt := 181) hx hb dX3_isDone_177 (by decide) ?_
  have hE : f1 = g_rn 8 f u := by (subst e1 hf1; rfl)
  rw [hE] at hP
  refine hret _ _ _ _ _ (by decide) ?_ (hP) hS dX3_isDone_181
  rfl
set_option maxHeartbeats 4000000 in
set_option maxRecDepth 100000 in
theorem m3_isDone_115 (l : Launch) (D : va_G) (cI : ClassId) (o ps pa pv pn px : Nat) (f fa fv fn fx : Nat → Int32) (th mn kp ln sp wr : Int32) (dg : Int64) (u t : Nat) (B : Nat) (hI : Inv B f) (hB : B + 1600 < 2000000000) (hg : u < 8)  (hD : va_D (fun _ => True) (wR o ps pa pv pn px cI (oM ps pa pv pn px th mn kp ln sp wr (nI 115) (nI u) (nI t) dg) (rr f) fa fv fn fx)) : q_I l yX3_isDone wsX3_isDone { frames := 7, cells := 0, slots := 0, locals := 160 } [.ref o] (q_bp D (wR o ps pa pv pn px cI (oM ps pa pv pn px th mn kp ln sp wr (nI 115) (nI u) (nI t) dg) (rr f) fa fv fn fx) [(cI, .int)]) (fun v => v = nI 1) (fun H => va_P D vwCl (wR o ps pa pv pn px cI (oM ps pa pv pn px th mn kp ln sp wr (nI 115) (nI u) (nI t) dg) (rr (g_drink f u)) fa fv fn fx) H) (AM o ps pa pv pn px) 0 0 := by
  refine q_goI (cc := cX3_isDone) (maxL := 1) (ty := .boolean) (lv0 := [(0, .ref o)]) (by decide) rfl (Nat.le_of_ble_eq_true rfl) rfl ?_
  intro p e s m args below meth c Q ls hx hb hml hts hown hP hK hl hret
  have hi3 : ∀ w ∈ wsX30, w ∈ wsX3_isDone := by decide +kernel
  have hfl113 := hts (.fieldLink RX3 113 "WhisperedPotsModel" "letter" "I") (by decide +kernel)
  have hfl7 := hts (.fieldLink RX3 7 "WhisperedPotsModel" "s" "[I") (by decide +kernel)
  have hfl119 := hts (.fieldLink RX3 119 "WhisperedPotsModel" "whose" "I") (by decide +kernel)
  have hfl122 := hts (.fieldLink RX3 122 "WhisperedPotsModel" "tea" "I") (by decide +kernel)
  have hS : va_S (AM o ps pa pv pn px) s.heap s.heap [] := va_S.rf
  have hne : o ≠ ps := fun h => absurd (hD.1 0 1 _ _ rfl rfl h) (by decide)
  refine lv_aload_n hx hb dX3_isDone_0 rfl (lv_at hl 0 rfl) ?_
  refine va_get (D := D) (ci := 3) (v := .int (nI 115)) (C := RX3) (T := TX3) (N := 15) hx hb hts hi3 hown hK hP 0 rfl rfl 11 (by decide) hfl113 (fun _ h9 => h9) rfl dX3_isDone_1 ?_
  refine lv_lookup (tgt := 182) (off := 178) hx hb dX3_isDone_4 (by decide) (by decide) (by decide) ?_
  refine lv_aload_n hx hb dX3_isDone_182 rfl (lv_at hl 0 rfl) ?_
  refine lv_aload_n hx hb dX3_isDone_183 rfl (lv_at hl 0 rfl) ?_
  refine va_get (D := D) (ci := 3) (v := .int (nI u)) (C := RX3) (T := TX3) (N := 15) hx hb hts hi3 hown hK hP 0 rfl rfl 12 (by decide) hfl119 (fun _ h9 => h9) rfl dX3_isDone_184 ?_
  refine q_ci1 (i := 1) (ws' := wR o ps pa pv pn px cI (oM ps pa pv pn px th mn kp ln sp wr (nI 115) (nI u) (nI t) dg) (rr (g_drink f u)) fa fv fn fx) (va_runV (rm := { frames := 1, cells := 0, slots := 0, locals := 21 }) (As := [.int (nI u)]) (rest := []) ⟨hx, hb, hml, hown, hts⟩ (m3_sips l D cI o ps u (oM ps pa pv pn px th mn kp ln sp wr (nI 115) (nI u) (nI t) dg) f rfl (by omega) B hI hne) (cwV 1 hts gX3_isDone_X3_sips rfl rfl rfl (by decide +kernel) ⟨Nat.le_of_ble_eq_true rfl, Nat.le_of_ble_eq_true rfl⟩) (q_pV (ci := 3) (q0 := 0) (hP.sub (ws' := wS o ps cI (oM ps pa pv pn px th mn kp ln sp wr (nI 115) (nI u) (nI t) dg) f) [0, 1] rfl) hK rfl rfl) rfl rfl hl.1 rfl (lv_room (Nat.le_of_ble_eq_true rfl)) dX3_isDone_187 ⟨Nat.le_of_ble_eq_true rfl, Nat.le_of_ble_eq_true rfl⟩) hP hD hS rfl (Or.inr (Or.inl rfl)) rfl (fun x1 H locs e1 hP hD hS => ?_)
  obtain ⟨f1, hf1⟩ : ∃ z, z = g_drink f u := ⟨_, rfl⟩
  rw [← hf1] at hP hD
  have e1 : x1 = g_dr f u := e1
  refine lv_if_lt (tgt := 197) hx hb dX3_isDone_190 (by decide) (fun c2 => absurd c2 (fun z => by rw [e1] at z; have h8 := hI.dr hg; have h9 := t_lt.mp z; rw [t_0] at h9; omega)) (fun c2 => ?_)
  refine lv_iconst (v := nI 1) hx hb dX3_isDone_193 (by decide) ?_
  refine lv_goto (tgt := 198) hx hb dX3_isDone_194 (by decide) ?_
  have hE : f1 = g_drink f u := by (subst e1 hf1; rfl)
  rw [hE] at hP
  refine hret _ _ _ _ _ (by decide) ?_ (hP) hS dX3_isDone_198
  rfl
