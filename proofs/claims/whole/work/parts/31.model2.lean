set_option maxHeartbeats 4000000 in
set_option maxRecDepth 100000 in
theorem m3_hands (l : Launch) (D : va_G) (cI : ClassId) (o ps k z d : Nat) (fs : List Value) (f : Nat → Int32) (h1 : fs[1]? = some (.ref ps)) (B : Nat) (hI : Inv B f) (bw : Int32) (hk : k < 3) (hbw : nI (hN f k) + bw + nI 8 = nI z) (hz : z % 8 = (hN f k + d) % 8) (hz2 : z < 100) (hne : o ≠ ps) : q_I l yX3_hands wsX3_hands { frames := 3, cells := 0, slots := 0, locals := 64 } [.ref o, .int (nI k), .int bw] (q_bp D (wS o ps cI fs f) [(cI, .int)]) (fun v => v = nI ((hN f k + d) % 8)) (fun H => va_at D vwCl (ps, .inl (cI, 138, .inl (rr (g_hand f k d)))) H) (fun q => q = ps) 0 0 := by
  refine q_goI (cc := cX3_hands) (maxL := 6) (ty := .int) (lv0 := [(0, .ref o), (1, .int (nI k)), (2, .int bw)]) (by decide) rfl (Nat.le_of_ble_eq_true rfl) rfl ?_
  intro p e s m args below meth c Q ls hx hb hml hts hown hP hK hl hret
  have hi3 : ∀ w ∈ wsX30, w ∈ wsX3_hands := by decide +kernel
  have hfl7 := hts (.fieldLink RX3 7 "WhisperedPotsModel" "s" "[I") (by decide +kernel)
  have hS : va_S (fun q => q = ps) s.heap s.heap [] := va_S.rf
  have hD : va_D (fun _ => True) (wS o ps cI fs f) := q_dT hne
  have hO := hI.ok1 hk
  have h8 := hO.2
  have hO2 := hI.ok2 hk
  refine lv_aload_n hx hb dX3_hands_0 rfl (lv_at hl 0 rfl) ?_
  refine lv_iload_n hx hb dX3_hands_1 rfl (lv_at hl 1 rfl) ?_
  refine q_ciR (va_runV (rm := { frames := 1, cells := 0, slots := 0, locals := 21 }) (As := [.int (nI k)]) (rest := []) ⟨hx, hb, hml, hown, hts⟩ (m3_with l D cI o ps k fs f h1 B hI hk) (cwV 1 hts gX3_hands_X3_with rfl rfl rfl (by decide +kernel) ⟨Nat.le_of_ble_eq_true rfl, Nat.le_of_ble_eq_true rfl⟩) (q_pV (ci := 3) (q0 := 0) hP hK rfl rfl) rfl rfl hl.1 rfl (lv_room (Nat.le_of_ble_eq_true rfl)) dX3_hands_2 ⟨Nat.le_of_ble_eq_true rfl, Nat.le_of_ble_eq_true rfl⟩) hP hS (fun x1 H locs e1 hP hS => ?_)
  have e1 : x1 = (nI ((hN f k))) := Eq.trans e1 (congrArg nI (by omega))
  subst e1
  refine lv_istore_n (lv' := [(3, .int (nI ((hN f k)))), (0, .ref o), (1, .int (nI k)), (2, .int bw)]) hx hb dX3_hands_5 rfl hl (by decide) rfl (fun ls hl => ?_)
  refine lv_aload_n hx hb dX3_hands_6 rfl (lv_at hl 1 rfl) ?_
  refine lv_iload_n hx hb dX3_hands_7 rfl (lv_at hl 2 rfl) ?_
  refine q_ciR (va_runV (rm := { frames := 2, cells := 0, slots := 0, locals := 42 }) (As := [.int (nI k)]) (rest := []) ⟨hx, hb, hml, hown, hts⟩ (m3_guess l D cI o ps k fs f h1 B hI hk) (cwV 1 hts gX3_hands_X3_guess rfl rfl rfl (by decide +kernel) ⟨Nat.le_of_ble_eq_true rfl, Nat.le_of_ble_eq_true rfl⟩) (q_pV (ci := 3) (q0 := 0) hP hK rfl rfl) rfl rfl hl.1 rfl (lv_room (Nat.le_of_ble_eq_true rfl)) dX3_hands_8 ⟨Nat.le_of_ble_eq_true rfl, Nat.le_of_ble_eq_true rfl⟩) hP hS (fun x2 H locs e2 hP hS => ?_)
  have e2 : x2 = g_gs f k := e2
  refine lv_aload_n hx hb dX3_hands_11 rfl (lv_at hl 1 rfl) ?_
  refine va_get (D := D) (ci := 3) (v := .ref ps) (C := RX3) (T := TX3) (N := 15) hx hb hts hi3 hown hK hP 0 rfl rfl 1 (by decide) hfl7 (fun _ h9 => h9) h1 dX3_hands_12 ?_
  refine lv_iload_n hx hb dX3_hands_15 rfl (lv_at hl 0 rfl) ?_
  refine lv_iconst (v := nI 4) hx hb dX3_hands_16 (by decide) ?_
  refine q_ciR (va_runS (rm := { frames := 0, cells := 0, slots := 0, locals := 0 }) (As := [.int (nI ((hN f k))), .int (nI 4)]) (rest := [.ref ps, .int x2]) ⟨hx, hb, hml, hown, hts⟩ (m3_of l D ((hN f k)) 4 (by omega) (by omega)) (va_cwS 2 hts gX3_hands_X3_of rfl rfl rfl (by decide +kernel) ⟨Nat.le_of_ble_eq_true rfl, Nat.le_of_ble_eq_true rfl⟩) (q_pS (hP.sub [] rfl) (hK.sub [] rfl)) rfl rfl hl.1 rfl (lv_room (Nat.le_of_ble_eq_true rfl)) dX3_hands_17 ⟨Nat.le_of_ble_eq_true rfl, Nat.le_of_ble_eq_true rfl⟩) hP hS (fun x3 H locs e3 hP hS => ?_)
  have e3 : x3 = (nI (4 + 9 * (hN f k))) := Eq.trans e3 (congrArg nI (by omega))
  subst e3
  refine q_ld hx hb hK hP 1 0 rfl rfl (j := (4 + 9 * (hN f k))) (v := f (32 + (hN f k))) (by omega) (by omega) (rr_at (pm_g4 (by omega))) dX3_hands_20 ?_
  refine lv_iadd hx hb dX3_hands_21 ?_
  refine lv_topi (fun x4 e4 => ?_)
  refine lv_istore (lv' := [(4, .int x4), (3, .int (nI ((hN f k)))), (0, .ref o), (1, .int (nI k)), (2, .int bw)]) hx hb dX3_hands_22 hl (by decide) rfl (fun ls hl => ?_)
  refine lv_iload hx hb dX3_hands_24 (lv_at hl 0 rfl) ?_
  refine lv_if_ge (tgt := 33) hx hb dX3_hands_26 (by decide) (fun c5 => ?_) (fun c5 => ?_)
  ·
    have d5 := q_ge1 c5
    refine lv_iload hx hb dX3_hands_33 (lv_at hl 0 rfl) ?_
    refine lv_sipush (v := nI 200) hx hb dX3_hands_35 (by decide) ?_
    refine lv_icmp_le (tgt := 47) hx hb dX3_hands_38 (by decide) (fun c6 => ?_) (fun c6 => ?_)
    ·
      refine lv_iload hx hb dX3_hands_47 (lv_at hl 0 rfl) ?_
      refine lv_istore (lv' := [(4, .int x4), (3, .int (nI ((hN f k)))), (0, .ref o), (1, .int (nI k)), (2, .int bw)]) hx hb dX3_hands_49 hl (by decide) rfl (fun ls hl => ?_)
      refine lv_bipush (v := nI 8) hx hb dX3_hands_51 (by decide) ?_
      refine lv_iload_n hx hb dX3_hands_53 rfl (lv_at hl 3 rfl) ?_
      refine q_mulN hx hb (8 * k) (by omega) dX3_hands_54 ?_
      refine lv_iload_n hx hb dX3_hands_55 rfl (lv_at hl 1 rfl) ?_
      refine q_addN hx hb (8 * k + (hN f k)) (by omega) dX3_hands_56 ?_
      refine lv_istore (lv' := [(5, .int (nI (8 * k + (hN f k)))), (4, .int x4), (3, .int (nI ((hN f k)))), (0, .ref o), (1, .int (nI k)), (2, .int bw)]) hx hb dX3_hands_57 hl (by decide) rfl (fun ls hl => ?_)
      refine lv_aload_n hx hb dX3_hands_59 rfl (lv_at hl 3 rfl) ?_
      refine va_get (D := D) (ci := 3) (v := .ref ps) (C := RX3) (T := TX3) (N := 15) hx hb hts hi3 hown hK hP 0 rfl rfl 1 (by decide) hfl7 (fun _ h9 => h9) h1 dX3_hands_60 ?_
      refine lv_bipush (v := nI 87) hx hb dX3_hands_63 (by decide) ?_
      refine lv_iload hx hb dX3_hands_65 (lv_at hl 0 rfl) ?_
      refine q_addN hx hb (87 + 8 * k + (hN f k)) (by omega) dX3_hands_67 ?_
      refine q_ld hx hb hK hP 1 0 rfl rfl (j := (87 + 8 * k + (hN f k))) (v := f (87 + 8 * k + (hN f k))) (by omega) (by omega) (rr_at (pm_id (by omega))) dX3_hands_68 ?_
      refine lv_iconst (v := (-1)) hx hb dX3_hands_69 (by decide) ?_
      refine lv_icmp_ne (tgt := 103) hx hb dX3_hands_70 (by decide) (fun c7 => ?_) (fun c7 => ?_)
      ·
        refine lv_aload_n hx hb dX3_hands_103 rfl (lv_at hl 3 rfl) ?_
        refine va_get (D := D) (ci := 3) (v := .ref ps) (C := RX3) (T := TX3) (N := 15) hx hb hts hi3 hown hK hP 0 rfl rfl 1 (by decide) hfl7 (fun _ h9 => h9) h1 dX3_hands_104 ?_
        refine lv_bipush (v := nI 87) hx hb dX3_hands_107 (by decide) ?_
        refine lv_iload hx hb dX3_hands_109 (lv_at hl 0 rfl) ?_
        refine q_addN hx hb (87 + 8 * k + (hN f k)) (by omega) dX3_hands_111 ?_
        refine lv_iload hx hb dX3_hands_112 (lv_at hl 1 rfl) ?_
        refine q_stR hx hb hK hP hD hS 1 0 rfl rfl rfl (j := (87 + 8 * k + (hN f k))) (i := (87 + 8 * k + (hN f k))) (by omega) (by omega) (pm_id (by omega)) (fun g => wS o ps cI fs g) (fun _ => rfl) dX3_hands_114 (fun H locs f8 hf8 hP hD hS => ?_)
        refine lv_aload_n hx hb dX3_hands_115 rfl (lv_at hl 3 rfl) ?_
        refine va_get (D := D) (ci := 3) (v := .ref ps) (C := RX3) (T := TX3) (N := 15) hx hb hts hi3 hown hK hP 0 rfl rfl 1 (by decide) hfl7 (fun _ h9 => h9) h1 dX3_hands_116 ?_
        refine lv_iload_n hx hb dX3_hands_119 rfl (lv_at hl 4 rfl) ?_
        refine lv_iconst (v := nI 2) hx hb dX3_hands_120 (by decide) ?_
        refine q_ciR (va_runS (rm := { frames := 0, cells := 0, slots := 0, locals := 0 }) (As := [.int (nI k), .int (nI 2)]) (rest := [.ref ps]) ⟨hx, hb, hml, hown, hts⟩ (m3_ofPot l D k 2 (by omega) (by omega)) (va_cwS 2 hts gX3_hands_X3_ofPot rfl rfl rfl (by decide +kernel) ⟨Nat.le_of_ble_eq_true rfl, Nat.le_of_ble_eq_true rfl⟩) (q_pS (hP.sub [] rfl) (hK.sub [] rfl)) rfl rfl hl.1 rfl (lv_room (Nat.le_of_ble_eq_true rfl)) dX3_hands_121 ⟨Nat.le_of_ble_eq_true rfl, Nat.le_of_ble_eq_true rfl⟩) hP hS (fun x9 H locs e9 hP hS => ?_)
        have e9 : x9 = (nI (74 + 5 * k)) := Eq.trans e9 (congrArg nI (by omega))
        subst e9
        refine lv_iload hx hb dX3_hands_124 (lv_at hl 1 rfl) ?_
        refine q_stR hx hb hK hP hD hS 1 0 rfl rfl rfl (j := (74 + 5 * k)) (i := (78 + k)) (by omega) (by omega) (pm_p2 (by omega)) (fun g => wS o ps cI fs g) (fun _ => rfl) dX3_hands_126 (fun H locs f10 hf10 hP hD hS => ?_)
        refine lv_aload_n hx hb dX3_hands_127 rfl (lv_at hl 3 rfl) ?_
        refine va_get (D := D) (ci := 3) (v := .ref ps) (C := RX3) (T := TX3) (N := 15) hx hb hts hi3 hown hK hP 0 rfl rfl 1 (by decide) hfl7 (fun _ h9 => h9) h1 dX3_hands_128 ?_
        refine lv_iload_n hx hb dX3_hands_131 rfl (lv_at hl 4 rfl) ?_
        refine lv_iconst (v := nI 4) hx hb dX3_hands_132 (by decide) ?_
        refine q_ciR (va_runS (rm := { frames := 0, cells := 0, slots := 0, locals := 0 }) (As := [.int (nI k), .int (nI 4)]) (rest := [.ref ps]) ⟨hx, hb, hml, hown, hts⟩ (m3_ofPot l D k 4 (by omega) (by omega)) (va_cwS 2 hts gX3_hands_X3_ofPot rfl rfl rfl (by decide +kernel) ⟨Nat.le_of_ble_eq_true rfl, Nat.le_of_ble_eq_true rfl⟩) (q_pS (hP.sub [] rfl) (hK.sub [] rfl)) rfl rfl hl.1 rfl (lv_room (Nat.le_of_ble_eq_true rfl)) dX3_hands_133 ⟨Nat.le_of_ble_eq_true rfl, Nat.le_of_ble_eq_true rfl⟩) hP hS (fun x11 H locs e11 hP hS => ?_)
        have e11 : x11 = (nI (76 + 5 * k)) := Eq.trans e11 (congrArg nI (by omega))
        subst e11
        refine lv_dup2_11 hx hb dX3_hands_136 rfl rfl ?_
        refine q_ld hx hb hK hP 1 0 rfl rfl (j := (76 + 5 * k)) (v := f10 (84 + k)) (by omega) (by omega) (rr_at (pm_p4 (by omega))) dX3_hands_137 ?_
        refine lv_iconst (v := nI 1) hx hb dX3_hands_138 (by decide) ?_
        refine lv_iadd hx hb dX3_hands_139 ?_
        refine lv_topi (fun x12 e12 => ?_)
        refine q_stR hx hb hK hP hD hS 1 0 rfl rfl rfl (j := (76 + 5 * k)) (i := (84 + k)) (by omega) (by omega) (pm_p4 (by omega)) (fun g => wS o ps cI fs g) (fun _ => rfl) dX3_hands_140 (fun H locs f13 hf13 hP hD hS => ?_)
        refine lv_aload_n hx hb dX3_hands_141 rfl (lv_at hl 3 rfl) ?_
        refine va_get (D := D) (ci := 3) (v := .ref ps) (C := RX3) (T := TX3) (N := 15) hx hb hts hi3 hown hK hP 0 rfl rfl 1 (by decide) hfl7 (fun _ h9 => h9) h1 dX3_hands_142 ?_
        refine lv_iload_n hx hb dX3_hands_145 rfl (lv_at hl 4 rfl) ?_
        refine lv_iconst (v := nI 0) hx hb dX3_hands_146 (by decide) ?_
        refine q_ciR (va_runS (rm := { frames := 0, cells := 0, slots := 0, locals := 0 }) (As := [.int (nI k), .int (nI 0)]) (rest := [.ref ps]) ⟨hx, hb, hml, hown, hts⟩ (m3_ofPot l D k 0 (by omega) (by omega)) (va_cwS 2 hts gX3_hands_X3_ofPot rfl rfl rfl (by decide +kernel) ⟨Nat.le_of_ble_eq_true rfl, Nat.le_of_ble_eq_true rfl⟩) (q_pS (hP.sub [] rfl) (hK.sub [] rfl)) rfl rfl hl.1 rfl (lv_room (Nat.le_of_ble_eq_true rfl)) dX3_hands_147 ⟨Nat.le_of_ble_eq_true rfl, Nat.le_of_ble_eq_true rfl⟩) hP hS (fun x14 H locs e14 hP hS => ?_)
        have e14 : x14 = (nI (72 + 5 * k)) := Eq.trans e14 (congrArg nI (by omega))
        subst e14
        refine lv_iload_n hx hb dX3_hands_150 rfl (lv_at hl 2 rfl) ?_
        refine lv_iload_n hx hb dX3_hands_151 rfl (lv_at hl 5 rfl) ?_
        refine lv_iadd hx hb dX3_hands_152 ?_
        refine lv_bipush (v := nI 8) hx hb dX3_hands_153 (by decide) ?_
        refine lv_iadd hx hb dX3_hands_155 ?_
        refine q_top hbw ?_
        refine lv_bipush (v := nI 8) hx hb dX3_hands_156 (by decide) ?_
        refine q_remN hx hb ((hN f k + d) % 8) hz (by omega) (by omega) (by omega) dX3_hands_158 ?_
        refine q_stR hx hb hK hP hD hS 1 0 rfl rfl rfl (j := (72 + 5 * k)) (i := (72 + k)) (by omega) (by omega) (pm_p0 (by omega)) (fun g => wS o ps cI fs g) (fun _ => rfl) dX3_hands_159 (fun H locs f15 hf15 hP hD hS => ?_)
        refine lv_aload_n hx hb dX3_hands_160 rfl (lv_at hl 3 rfl) ?_
        refine lv_iload_n hx hb dX3_hands_161 rfl (lv_at hl 4 rfl) ?_
        have hE : f15 = g_hand f k d := by
          subst hf15 hf13 e12 hf10 hf8 e4 e2
          simp only [g_hand, g_tl, ← b_wh_eq, b_wh, r_w0, d5, c6, c7, ↓reduceIte]
        have hIE : Inv B f15 := by rw [hE]; exact hand_inv hI hk
        refine q_ciR (va_runV (rm := { frames := 1, cells := 0, slots := 0, locals := 21 }) (As := [.int (nI k)]) (rest := []) ⟨hx, hb, hml, hown, hts⟩ (m3_with l D cI o ps k fs f15 h1 B hIE hk) (cwV 1 hts gX3_hands_X3_with rfl rfl rfl (by decide +kernel) ⟨Nat.le_of_ble_eq_true rfl, Nat.le_of_ble_eq_true rfl⟩) (q_pV (ci := 3) (q0 := 0) hP hK rfl rfl) rfl rfl hl.1 rfl (lv_room (Nat.le_of_ble_eq_true rfl)) dX3_hands_162 ⟨Nat.le_of_ble_eq_true rfl, Nat.le_of_ble_eq_true rfl⟩) hP hS (fun x16 H locs e16 hP hS => ?_)
        have e16 : x16 = nI (hN f15 k) := e16
        exact hret _ _ _ _ _ rfl (by show x16 = _; rw [e16, hE, hand_hN]) (by rw [← hE]; exact hP 1 _ rfl) hS dX3_hands_165
      ·
        have h24 := hO2 c7
        refine lv_aload_n hx hb dX3_hands_73 rfl (lv_at hl 3 rfl) ?_
        refine va_get (D := D) (ci := 3) (v := .ref ps) (C := RX3) (T := TX3) (N := 15) hx hb hts hi3 hown hK hP 0 rfl rfl 1 (by decide) hfl7 (fun _ h9 => h9) h1 dX3_hands_74 ?_
        refine lv_bipush (v := nI 111) hx hb dX3_hands_77 (by decide) ?_
        refine lv_aload_n hx hb dX3_hands_79 rfl (lv_at hl 3 rfl) ?_
        refine va_get (D := D) (ci := 3) (v := .ref ps) (C := RX3) (T := TX3) (N := 15) hx hb hts hi3 hown hK hP 0 rfl rfl 1 (by decide) hfl7 (fun _ h9 => h9) h1 dX3_hands_80 ?_
        refine lv_sipush (v := nI 135) hx hb dX3_hands_83 (by decide) ?_
        refine q_ld hx hb hK hP 1 0 rfl rfl (j := 135) (v := (nI ((tN f)))) (by omega) (by omega) ((rr_at (pm_id (by omega))).trans h24.1) dX3_hands_86 ?_
        refine q_addN hx hb (111 + (tN f)) (by omega) dX3_hands_87 ?_
        refine lv_iload hx hb dX3_hands_88 (lv_at hl 0 rfl) ?_
        refine q_stR hx hb hK hP hD hS 1 0 rfl rfl rfl (j := (111 + (tN f))) (i := (111 + (tN f))) (by omega) (by omega) (pm_id (by omega)) (fun g => wS o ps cI fs g) (fun _ => rfl) dX3_hands_90 (fun H locs f17 hf17 hP hD hS => ?_)
        refine lv_aload_n hx hb dX3_hands_91 rfl (lv_at hl 3 rfl) ?_
        refine va_get (D := D) (ci := 3) (v := .ref ps) (C := RX3) (T := TX3) (N := 15) hx hb hts hi3 hown hK hP 0 rfl rfl 1 (by decide) hfl7 (fun _ h9 => h9) h1 dX3_hands_92 ?_
        refine lv_sipush (v := nI 135) hx hb dX3_hands_95 (by decide) ?_
        refine lv_dup2_11 hx hb dX3_hands_98 rfl rfl ?_
        refine q_ld hx hb hK hP 1 0 rfl rfl (j := 135) (v := f17 135) (by omega) (by omega) (rr_at (pm_id (by omega))) dX3_hands_99 ?_
        refine lv_iconst (v := nI 1) hx hb dX3_hands_100 (by decide) ?_
        refine lv_iadd hx hb dX3_hands_101 ?_
        refine lv_topi (fun x18 e18 => ?_)
        refine q_stR hx hb hK hP hD hS 1 0 rfl rfl rfl (j := 135) (i := 135) (by omega) (by omega) (pm_id (by omega)) (fun g => wS o ps cI fs g) (fun _ => rfl) dX3_hands_102 (fun H locs f19 hf19 hP hD hS => ?_)
        refine lv_aload_n hx hb dX3_hands_103 rfl (lv_at hl 3 rfl) ?_
        refine va_get (D := D) (ci := 3) (v := .ref ps) (C := RX3) (T := TX3) (N := 15) hx hb hts hi3 hown hK hP 0 rfl rfl 1 (by decide) hfl7 (fun _ h9 => h9) h1 dX3_hands_104 ?_
        refine lv_bipush (v := nI 87) hx hb dX3_hands_107 (by decide) ?_
        refine lv_iload hx hb dX3_hands_109 (lv_at hl 0 rfl) ?_
        refine q_addN hx hb (87 + 8 * k + (hN f k)) (by omega) dX3_hands_111 ?_
        refine lv_iload hx hb dX3_hands_112 (lv_at hl 1 rfl) ?_
        refine q_stR hx hb hK hP hD hS 1 0 rfl rfl rfl (j := (87 + 8 * k + (hN f k))) (i := (87 + 8 * k + (hN f k))) (by omega) (by omega) (pm_id (by omega)) (fun g => wS o ps cI fs g) (fun _ => rfl) dX3_hands_114 (fun H locs f20 hf20 hP hD hS => ?_)
        refine lv_aload_n hx hb dX3_hands_115 rfl (lv_at hl 3 rfl) ?_
        refine va_get (D := D) (ci := 3) (v := .ref ps) (C := RX3) (T := TX3) (N := 15) hx hb hts hi3 hown hK hP 0 rfl rfl 1 (by decide) hfl7 (fun _ h9 => h9) h1 dX3_hands_116 ?_
        refine lv_iload_n hx hb dX3_hands_119 rfl (lv_at hl 4 rfl) ?_
        refine lv_iconst (v := nI 2) hx hb dX3_hands_120 (by decide) ?_
        refine q_ciR (va_runS (rm := { frames := 0, cells := 0, slots := 0, locals := 0 }) (As := [.int (nI k), .int (nI 2)]) (rest := [.ref ps]) ⟨hx, hb, hml, hown, hts⟩ (m3_ofPot l D k 2 (by omega) (by omega)) (va_cwS 2 hts gX3_hands_X3_ofPot rfl rfl rfl (by decide +kernel) ⟨Nat.le_of_ble_eq_true rfl, Nat.le_of_ble_eq_true rfl⟩) (q_pS (hP.sub [] rfl) (hK.sub [] rfl)) rfl rfl hl.1 rfl (lv_room (Nat.le_of_ble_eq_true rfl)) dX3_hands_121 ⟨Nat.le_of_ble_eq_true rfl, Nat.le_of_ble_eq_true rfl⟩) hP hS (fun x21 H locs e21 hP hS => ?_)
        have e21 : x21 = (nI (74 + 5 * k)) := Eq.trans e21 (congrArg nI (by omega))
        subst e21
        refine lv_iload hx hb dX3_hands_124 (lv_at hl 1 rfl) ?_
        refine q_stR hx hb hK hP hD hS 1 0 rfl rfl rfl (j := (74 + 5 * k)) (i := (78 + k)) (by omega) (by omega) (pm_p2 (by omega)) (fun g => wS o ps cI fs g) (fun _ => rfl) dX3_hands_126 (fun H locs f22 hf22 hP hD hS => ?_)
        refine lv_aload_n hx hb dX3_hands_127 rfl (lv_at hl 3 rfl) ?_
        refine va_get (D := D) (ci := 3) (v := .ref ps) (C := RX3) (T := TX3) (N := 15) hx hb hts hi3 hown hK hP 0 rfl rfl 1 (by decide) hfl7 (fun _ h9 => h9) h1 dX3_hands_128 ?_
        refine lv_iload_n hx hb dX3_hands_131 rfl (lv_at hl 4 rfl) ?_
        refine lv_iconst (v := nI 4) hx hb dX3_hands_132 (by decide) ?_
        refine q_ciR (va_runS (rm := { frames := 0, cells := 0, slots := 0, locals := 0 }) (As := [.int (nI k), .int (nI 4)]) (rest := [.ref ps]) ⟨hx, hb, hml, hown, hts⟩ (m3_ofPot l D k 4 (by omega) (by omega)) (va_cwS 2 hts gX3_hands_X3_ofPot rfl rfl rfl (by decide +kernel) ⟨Nat.le_of_ble_eq_true rfl, Nat.le_of_ble_eq_true rfl⟩) (q_pS (hP.sub [] rfl) (hK.sub [] rfl)) rfl rfl hl.1 rfl (lv_room (Nat.le_of_ble_eq_true rfl)) dX3_hands_133 ⟨Nat.le_of_ble_eq_true rfl, Nat.le_of_ble_eq_true rfl⟩) hP hS (fun x23 H locs e23 hP hS => ?_)
        have e23 : x23 = (nI (76 + 5 * k)) := Eq.trans e23 (congrArg nI (by omega))
        subst e23
        refine lv_dup2_11 hx hb dX3_hands_136 rfl rfl ?_
        refine q_ld hx hb hK hP 1 0 rfl rfl (j := (76 + 5 * k)) (v := f22 (84 + k)) (by omega) (by omega) (rr_at (pm_p4 (by omega))) dX3_hands_137 ?_
        refine lv_iconst (v := nI 1) hx hb dX3_hands_138 (by decide) ?_
        refine lv_iadd hx hb dX3_hands_139 ?_
        refine lv_topi (fun x24 e24 => ?_)
        refine q_stR hx hb hK hP hD hS 1 0 rfl rfl rfl (j := (76 + 5 * k)) (i := (84 + k)) (by omega) (by omega) (pm_p4 (by omega)) (fun g => wS o ps cI fs g) (fun _ => rfl) dX3_hands_140 (fun H locs f25 hf25 hP hD hS => ?_)
        refine lv_aload_n hx hb dX3_hands_141 rfl (lv_at hl 3 rfl) ?_
        refine va_get (D := D) (ci := 3) (v := .ref ps) (C := RX3) (T := TX3) (N := 15) hx hb hts hi3 hown hK hP 0 rfl rfl 1 (by decide) hfl7 (fun _ h9 => h9) h1 dX3_hands_142 ?_
        refine lv_iload_n hx hb dX3_hands_145 rfl (lv_at hl 4 rfl) ?_
        refine lv_iconst (v := nI 0) hx hb dX3_hands_146 (by decide) ?_
        refine q_ciR (va_runS (rm := { frames := 0, cells := 0, slots := 0, locals := 0 }) (As := [.int (nI k), .int (nI 0)]) (rest := [.ref ps]) ⟨hx, hb, hml, hown, hts⟩ (m3_ofPot l D k 0 (by omega) (by omega)) (va_cwS 2 hts gX3_hands_X3_ofPot rfl rfl rfl (by decide +kernel) ⟨Nat.le_of_ble_eq_true rfl, Nat.le_of_ble_eq_true rfl⟩) (q_pS (hP.sub [] rfl) (hK.sub [] rfl)) rfl rfl hl.1 rfl (lv_room (Nat.le_of_ble_eq_true rfl)) dX3_hands_147 ⟨Nat.le_of_ble_eq_true rfl, Nat.le_of_ble_eq_true rfl⟩) hP hS (fun x26 H locs e26 hP hS => ?_)
        have e26 : x26 = (nI (72 + 5 * k)) := Eq.trans e26 (congrArg nI (by omega))
        subst e26
        refine lv_iload_n hx hb dX3_hands_150 rfl (lv_at hl 2 rfl) ?_
        refine lv_iload_n hx hb dX3_hands_151 rfl (lv_at hl 5 rfl) ?_
        refine lv_iadd hx hb dX3_hands_152 ?_
        refine lv_bipush (v := nI 8) hx hb dX3_hands_153 (by decide) ?_
        refine lv_iadd hx hb dX3_hands_155 ?_
        refine q_top hbw ?_
        refine lv_bipush (v := nI 8) hx hb dX3_hands_156 (by decide) ?_
        refine q_remN hx hb ((hN f k + d) % 8) hz (by omega) (by omega) (by omega) dX3_hands_158 ?_
        refine q_stR hx hb hK hP hD hS 1 0 rfl rfl rfl (j := (72 + 5 * k)) (i := (72 + k)) (by omega) (by omega) (pm_p0 (by omega)) (fun g => wS o ps cI fs g) (fun _ => rfl) dX3_hands_159 (fun H locs f27 hf27 hP hD hS => ?_)
        refine lv_aload_n hx hb dX3_hands_160 rfl (lv_at hl 3 rfl) ?_
        refine lv_iload_n hx hb dX3_hands_161 rfl (lv_at hl 4 rfl) ?_
        have hE : f27 = g_hand f k d := by
          subst hf27 hf25 e24 hf22 hf20 hf19 e18 hf17 e4 e2
          simp only [g_hand, g_tl, ← b_wh_eq, b_wh, r_w0, d5, c6, c7, ↓reduceIte]
        have hIE : Inv B f27 := by rw [hE]; exact hand_inv hI hk
        refine q_ciR (va_runV (rm := { frames := 1, cells := 0, slots := 0, locals := 21 }) (As := [.int (nI k)]) (rest := []) ⟨hx, hb, hml, hown, hts⟩ (m3_with l D cI o ps k fs f27 h1 B hIE hk) (cwV 1 hts gX3_hands_X3_with rfl rfl rfl (by decide +kernel) ⟨Nat.le_of_ble_eq_true rfl, Nat.le_of_ble_eq_true rfl⟩) (q_pV (ci := 3) (q0 := 0) hP hK rfl rfl) rfl rfl hl.1 rfl (lv_room (Nat.le_of_ble_eq_true rfl)) dX3_hands_162 ⟨Nat.le_of_ble_eq_true rfl, Nat.le_of_ble_eq_true rfl⟩) hP hS (fun x28 H locs e28 hP hS => ?_)
        have e28 : x28 = nI (hN f27 k) := e28
        exact hret _ _ _ _ _ rfl (by show x28 = _; rw [e28, hE, hand_hN]) (by rw [← hE]; exact hP 1 _ rfl) hS dX3_hands_165
    ·
      refine lv_sipush (v := nI 200) hx hb dX3_hands_41 (by decide) ?_
      refine lv_goto (tgt := 49) hx hb dX3_hands_44 (by decide) ?_
      refine lv_istore (lv' := [(4, .int (nI 200)), (3, .int (nI ((hN f k)))), (0, .ref o), (1, .int (nI k)), (2, .int bw)]) hx hb dX3_hands_49 hl (by decide) rfl (fun ls hl => ?_)
      refine lv_bipush (v := nI 8) hx hb dX3_hands_51 (by decide) ?_
      refine lv_iload_n hx hb dX3_hands_53 rfl (lv_at hl 3 rfl) ?_
      refine q_mulN hx hb (8 * k) (by omega) dX3_hands_54 ?_
      refine lv_iload_n hx hb dX3_hands_55 rfl (lv_at hl 1 rfl) ?_
      refine q_addN hx hb (8 * k + (hN f k)) (by omega) dX3_hands_56 ?_
      refine lv_istore (lv' := [(5, .int (nI (8 * k + (hN f k)))), (4, .int (nI 200)), (3, .int (nI ((hN f k)))), (0, .ref o), (1, .int (nI k)), (2, .int bw)]) hx hb dX3_hands_57 hl (by decide) rfl (fun ls hl => ?_)
      refine lv_aload_n hx hb dX3_hands_59 rfl (lv_at hl 3 rfl) ?_
      refine va_get (D := D) (ci := 3) (v := .ref ps) (C := RX3) (T := TX3) (N := 15) hx hb hts hi3 hown hK hP 0 rfl rfl 1 (by decide) hfl7 (fun _ h9 => h9) h1 dX3_hands_60 ?_
      refine lv_bipush (v := nI 87) hx hb dX3_hands_63 (by decide) ?_
      refine lv_iload hx hb dX3_hands_65 (lv_at hl 0 rfl) ?_
      refine q_addN hx hb (87 + 8 * k + (hN f k)) (by omega) dX3_hands_67 ?_
      refine q_ld hx hb hK hP 1 0 rfl rfl (j := (87 + 8 * k + (hN f k))) (v := f (87 + 8 * k + (hN f k))) (by omega) (by omega) (rr_at (pm_id (by omega))) dX3_hands_68 ?_
      refine lv_iconst (v := (-1)) hx hb dX3_hands_69 (by decide) ?_
      refine lv_icmp_ne (tgt := 103) hx hb dX3_hands_70 (by decide) (fun c29 => ?_) (fun c29 => ?_)
      ·
        refine lv_aload_n hx hb dX3_hands_103 rfl (lv_at hl 3 rfl) ?_
        refine va_get (D := D) (ci := 3) (v := .ref ps) (C := RX3) (T := TX3) (N := 15) hx hb hts hi3 hown hK hP 0 rfl rfl 1 (by decide) hfl7 (fun _ h9 => h9) h1 dX3_hands_104 ?_
        refine lv_bipush (v := nI 87) hx hb dX3_hands_107 (by decide) ?_
        refine lv_iload hx hb dX3_hands_109 (lv_at hl 0 rfl) ?_
        refine q_addN hx hb (87 + 8 * k + (hN f k)) (by omega) dX3_hands_111 ?_
        refine lv_iload hx hb dX3_hands_112 (lv_at hl 1 rfl) ?_
        refine q_stR hx hb hK hP hD hS 1 0 rfl rfl rfl (j := (87 + 8 * k + (hN f k))) (i := (87 + 8 * k + (hN f k))) (by omega) (by omega) (pm_id (by omega)) (fun g => wS o ps cI fs g) (fun _ => rfl) dX3_hands_114 (fun H locs f30 hf30 hP hD hS => ?_)
        refine lv_aload_n hx hb dX3_hands_115 rfl (lv_at hl 3 rfl) ?_
        refine va_get (D := D) (ci := 3) (v := .ref ps) (C := RX3) (T := TX3) (N := 15) hx hb hts hi3 hown hK hP 0 rfl rfl 1 (by decide) hfl7 (fun _ h9 => h9) h1 dX3_hands_116 ?_
        refine lv_iload_n hx hb dX3_hands_119 rfl (lv_at hl 4 rfl) ?_
        refine lv_iconst (v := nI 2) hx hb dX3_hands_120 (by decide) ?_
        refine q_ciR (va_runS (rm := { frames := 0, cells := 0, slots := 0, locals := 0 }) (As := [.int (nI k), .int (nI 2)]) (rest := [.ref ps]) ⟨hx, hb, hml, hown, hts⟩ (m3_ofPot l D k 2 (by omega) (by omega)) (va_cwS 2 hts gX3_hands_X3_ofPot rfl rfl rfl (by decide +kernel) ⟨Nat.le_of_ble_eq_true rfl, Nat.le_of_ble_eq_true rfl⟩) (q_pS (hP.sub [] rfl) (hK.sub [] rfl)) rfl rfl hl.1 rfl (lv_room (Nat.le_of_ble_eq_true rfl)) dX3_hands_121 ⟨Nat.le_of_ble_eq_true rfl, Nat.le_of_ble_eq_true rfl⟩) hP hS (fun x31 H locs e31 hP hS => ?_)
        have e31 : x31 = (nI (74 + 5 * k)) := Eq.trans e31 (congrArg nI (by omega))
        subst e31
        refine lv_iload hx hb dX3_hands_124 (lv_at hl 1 rfl) ?_
        refine q_stR hx hb hK hP hD hS 1 0 rfl rfl rfl (j := (74 + 5 * k)) (i := (78 + k)) (by omega) (by omega) (pm_p2 (by omega)) (fun g => wS o ps cI fs g) (fun _ => rfl) dX3_hands_126 (fun H locs f32 hf32 hP hD hS => ?_)
        refine lv_aload_n hx hb dX3_hands_127 rfl (lv_at hl 3 rfl) ?_
        refine va_get (D := D) (ci := 3) (v := .ref ps) (C := RX3) (T := TX3) (N := 15) hx hb hts hi3 hown hK hP 0 rfl rfl 1 (by decide) hfl7 (fun _ h9 => h9) h1 dX3_hands_128 ?_
        refine lv_iload_n hx hb dX3_hands_131 rfl (lv_at hl 4 rfl) ?_
        refine lv_iconst (v := nI 4) hx hb dX3_hands_132 (by decide) ?_
        refine q_ciR (va_runS (rm := { frames := 0, cells := 0, slots := 0, locals := 0 }) (As := [.int (nI k), .int (nI 4)]) (rest := [.ref ps]) ⟨hx, hb, hml, hown, hts⟩ (m3_ofPot l D k 4 (by omega) (by omega)) (va_cwS 2 hts gX3_hands_X3_ofPot rfl rfl rfl (by decide +kernel) ⟨Nat.le_of_ble_eq_true rfl, Nat.le_of_ble_eq_true rfl⟩) (q_pS (hP.sub [] rfl) (hK.sub [] rfl)) rfl rfl hl.1 rfl (lv_room (Nat.le_of_ble_eq_true rfl)) dX3_hands_133 ⟨Nat.le_of_ble_eq_true rfl, Nat.le_of_ble_eq_true rfl⟩) hP hS (fun x33 H locs e33 hP hS => ?_)
        have e33 : x33 = (nI (76 + 5 * k)) := Eq.trans e33 (congrArg nI (by omega))
        subst e33
        refine lv_dup2_11 hx hb dX3_hands_136 rfl rfl ?_
        refine q_ld hx hb hK hP 1 0 rfl rfl (j := (76 + 5 * k)) (v := f32 (84 + k)) (by omega) (by omega) (rr_at (pm_p4 (by omega))) dX3_hands_137 ?_
        refine lv_iconst (v := nI 1) hx hb dX3_hands_138 (by decide) ?_
        refine lv_iadd hx hb dX3_hands_139 ?_
        refine lv_topi (fun x34 e34 => ?_)
        refine q_stR hx hb hK hP hD hS 1 0 rfl rfl rfl (j := (76 + 5 * k)) (i := (84 + k)) (by omega) (by omega) (pm_p4 (by omega)) (fun g => wS o ps cI fs g) (fun _ => rfl) dX3_hands_140 (fun H locs f35 hf35 hP hD hS => ?_)
        refine lv_aload_n hx hb dX3_hands_141 rfl (lv_at hl 3 rfl) ?_
        refine va_get (D := D) (ci := 3) (v := .ref ps) (C := RX3) (T := TX3) (N := 15) hx hb hts hi3 hown hK hP 0 rfl rfl 1 (by decide) hfl7 (fun _ h9 => h9) h1 dX3_hands_142 ?_
        refine lv_iload_n hx hb dX3_hands_145 rfl (lv_at hl 4 rfl) ?_
        refine lv_iconst (v := nI 0) hx hb dX3_hands_146 (by decide) ?_
        refine q_ciR (va_runS (rm := { frames := 0, cells := 0, slots := 0, locals := 0 }) (As := [.int (nI k), .int (nI 0)]) (rest := [.ref ps]) ⟨hx, hb, hml, hown, hts⟩ (m3_ofPot l D k 0 (by omega) (by omega)) (va_cwS 2 hts gX3_hands_X3_ofPot rfl rfl rfl (by decide +kernel) ⟨Nat.le_of_ble_eq_true rfl, Nat.le_of_ble_eq_true rfl⟩) (q_pS (hP.sub [] rfl) (hK.sub [] rfl)) rfl rfl hl.1 rfl (lv_room (Nat.le_of_ble_eq_true rfl)) dX3_hands_147 ⟨Nat.le_of_ble_eq_true rfl, Nat.le_of_ble_eq_true rfl⟩) hP hS (fun x36 H locs e36 hP hS => ?_)
        have e36 : x36 = (nI (72 + 5 * k)) := Eq.trans e36 (congrArg nI (by omega))
        subst e36
        refine lv_iload_n hx hb dX3_hands_150 rfl (lv_at hl 2 rfl) ?_
        refine lv_iload_n hx hb dX3_hands_151 rfl (lv_at hl 5 rfl) ?_
        refine lv_iadd hx hb dX3_hands_152 ?_
        refine lv_bipush (v := nI 8) hx hb dX3_hands_153 (by decide) ?_
        refine lv_iadd hx hb dX3_hands_155 ?_
        refine q_top hbw ?_
        refine lv_bipush (v := nI 8) hx hb dX3_hands_156 (by decide) ?_
        refine q_remN hx hb ((hN f k + d) % 8) hz (by omega) (by omega) (by omega) dX3_hands_158 ?_
        refine q_stR hx hb hK hP hD hS 1 0 rfl rfl rfl (j := (72 + 5 * k)) (i := (72 + k)) (by omega) (by omega) (pm_p0 (by omega)) (fun g => wS o ps cI fs g) (fun _ => rfl) dX3_hands_159 (fun H locs f37 hf37 hP hD hS => ?_)
        refine lv_aload_n hx hb dX3_hands_160 rfl (lv_at hl 3 rfl) ?_
        refine lv_iload_n hx hb dX3_hands_161 rfl (lv_at hl 4 rfl) ?_
        have hE : f37 = g_hand f k d := by
          subst hf37 hf35 e34 hf32 hf30 e4 e2
          simp only [g_hand, g_tl, ← b_wh_eq, b_wh, r_w0, d5, c6, c29, ↓reduceIte]
        have hIE : Inv B f37 := by rw [hE]; exact hand_inv hI hk
        refine q_ciR (va_runV (rm := { frames := 1, cells := 0, slots := 0, locals := 21 }) (As := [.int (nI k)]) (rest := []) ⟨hx, hb, hml, hown, hts⟩ (m3_with l D cI o ps k fs f37 h1 B hIE hk) (cwV 1 hts gX3_hands_X3_with rfl rfl rfl (by decide +kernel) ⟨Nat.le_of_ble_eq_true rfl, Nat.le_of_ble_eq_true rfl⟩) (q_pV (ci := 3) (q0 := 0) hP hK rfl rfl) rfl rfl hl.1 rfl (lv_room (Nat.le_of_ble_eq_true rfl)) dX3_hands_162 ⟨Nat.le_of_ble_eq_true rfl, Nat.le_of_ble_eq_true rfl⟩) hP hS (fun x38 H locs e38 hP hS => ?_)
        have e38 : x38 = nI (hN f37 k) := e38
        exact hret _ _ _ _ _ rfl (by show x38 = _; rw [e38, hE, hand_hN]) (by rw [← hE]; exact hP 1 _ rfl) hS dX3_hands_165
      ·
        have h24 := hO2 c29
        refine lv_aload_n hx hb dX3_hands_73 rfl (lv_at hl 3 rfl) ?_
        refine va_get (D := D) (ci := 3) (v := .ref ps) (C := RX3) (T := TX3) (N := 15) hx hb hts hi3 hown hK hP 0 rfl rfl 1 (by decide) hfl7 (fun _ h9 => h9) h1 dX3_hands_74 ?_
        refine lv_bipush (v := nI 111) hx hb dX3_hands_77 (by decide) ?_
        refine lv_aload_n hx hb dX3_hands_79 rfl (lv_at hl 3 rfl) ?_
        refine va_get (D := D) (ci := 3) (v := .ref ps) (C := RX3) (T := TX3) (N := 15) hx hb hts hi3 hown hK hP 0 rfl rfl 1 (by decide) hfl7 (fun _ h9 => h9) h1 dX3_hands_80 ?_
        refine lv_sipush (v := nI 135) hx hb dX3_hands_83 (by decide) ?_
        refine q_ld hx hb hK hP 1 0 rfl rfl (j := 135) (v := (nI ((tN f)))) (by omega) (by omega) ((rr_at (pm_id (by omega))).trans h24.1) dX3_hands_86 ?_
        refine q_addN hx hb (111 + (tN f)) (by omega) dX3_hands_87 ?_
        refine lv_iload hx hb dX3_hands_88 (lv_at hl 0 rfl) ?_
        refine q_stR hx hb hK hP hD hS 1 0 rfl rfl rfl (j := (111 + (tN f))) (i := (111 + (tN f))) (by omega) (by omega) (pm_id (by omega)) (fun g => wS o ps cI fs g) (fun _ => rfl) dX3_hands_90 (fun H locs f39 hf39 hP hD hS => ?_)
        refine lv_aload_n hx hb dX3_hands_91 rfl (lv_at hl 3 rfl) ?_
        refine va_get (D := D) (ci := 3) (v := .ref ps) (C := RX3) (T := TX3) (N := 15) hx hb hts hi3 hown hK hP 0 rfl rfl 1 (by decide) hfl7 (fun _ h9 => h9) h1 dX3_hands_92 ?_
        refine lv_sipush (v := nI 135) hx hb dX3_hands_95 (by decide) ?_
        refine lv_dup2_11 hx hb dX3_hands_98 rfl rfl ?_
        refine q_ld hx hb hK hP 1 0 rfl rfl (j := 135) (v := f39 135) (by omega) (by omega) (rr_at (pm_id (by omega))) dX3_hands_99 ?_
        refine lv_iconst (v := nI 1) hx hb dX3_hands_100 (by decide) ?_
        refine lv_iadd hx hb dX3_hands_101 ?_
        refine lv_topi (fun x40 e40 => ?_)
        refine q_stR hx hb hK hP hD hS 1 0 rfl rfl rfl (j := 135) (i := 135) (by omega) (by omega) (pm_id (by omega)) (fun g => wS o ps cI fs g) (fun _ => rfl) dX3_hands_102 (fun H locs f41 hf41 hP hD hS => ?_)
        refine lv_aload_n hx hb dX3_hands_103 rfl (lv_at hl 3 rfl) ?_
        refine va_get (D := D) (ci := 3) (v := .ref ps) (C := RX3) (T := TX3) (N := 15) hx hb hts hi3 hown hK hP 0 rfl rfl 1 (by decide) hfl7 (fun _ h9 => h9) h1 dX3_hands_104 ?_
        refine lv_bipush (v := nI 87) hx hb dX3_hands_107 (by decide) ?_
        refine lv_iload hx hb dX3_hands_109 (lv_at hl 0 rfl) ?_
        refine q_addN hx hb (87 + 8 * k + (hN f k)) (by omega) dX3_hands_111 ?_
        refine lv_iload hx hb dX3_hands_112 (lv_at hl 1 rfl) ?_
        refine q_stR hx hb hK hP hD hS 1 0 rfl rfl rfl (j := (87 + 8 * k + (hN f k))) (i := (87 + 8 * k + (hN f k))) (by omega) (by omega) (pm_id (by omega)) (fun g => wS o ps cI fs g) (fun _ => rfl) dX3_hands_114 (fun H locs f42 hf42 hP hD hS => ?_)
        refine lv_aload_n hx hb dX3_hands_115 rfl (lv_at hl 3 rfl) ?_
        refine va_get (D := D) (ci := 3) (v := .ref ps) (C := RX3) (T := TX3) (N := 15) hx hb hts hi3 hown hK hP 0 rfl rfl 1 (by decide) hfl7 (fun _ h9 => h9) h1 dX3_hands_116 ?_
        refine lv_iload_n hx hb dX3_hands_119 rfl (lv_at hl 4 rfl) ?_
        refine lv_iconst (v := nI 2) hx hb dX3_hands_120 (by decide) ?_
        refine q_ciR (va_runS (rm := { frames := 0, cells := 0, slots := 0, locals := 0 }) (As := [.int (nI k), .int (nI 2)]) (rest := [.ref ps]) ⟨hx, hb, hml, hown, hts⟩ (m3_ofPot l D k 2 (by omega) (by omega)) (va_cwS 2 hts gX3_hands_X3_ofPot rfl rfl rfl (by decide +kernel) ⟨Nat.le_of_ble_eq_true rfl, Nat.le_of_ble_eq_true rfl⟩) (q_pS (hP.sub [] rfl) (hK.sub [] rfl)) rfl rfl hl.1 rfl (lv_room (Nat.le_of_ble_eq_true rfl)) dX3_hands_121 ⟨Nat.le_of_ble_eq_true rfl, Nat.le_of_ble_eq_true rfl⟩) hP hS (fun x43 H locs e43 hP hS => ?_)
        have e43 : x43 = (nI (74 + 5 * k)) := Eq.trans e43 (congrArg nI (by omega))
        subst e43
        refine lv_iload hx hb dX3_hands_124 (lv_at hl 1 rfl) ?_
        refine q_stR hx hb hK hP hD hS 1 0 rfl rfl rfl (j := (74 + 5 * k)) (i := (78 + k)) (by omega) (by omega) (pm_p2 (by omega)) (fun g => wS o ps cI fs g) (fun _ => rfl) dX3_hands_126 (fun H locs f44 hf44 hP hD hS => ?_)
        refine lv_aload_n hx hb dX3_hands_127 rfl (lv_at hl 3 rfl) ?_
        refine va_get (D := D) (ci := 3) (v := .ref ps) (C := RX3) (T := TX3) (N := 15) hx hb hts hi3 hown hK hP 0 rfl rfl 1 (by decide) hfl7 (fun _ h9 => h9) h1 dX3_hands_128 ?_
        refine lv_iload_n hx hb dX3_hands_131 rfl (lv_at hl 4 rfl) ?_
        refine lv_iconst (v := nI 4) hx hb dX3_hands_132 (by decide) ?_
        refine q_ciR (va_runS (rm := { frames := 0, cells := 0, slots := 0, locals := 0 }) (As := [.int (nI k), .int (nI 4)]) (rest := [.ref ps]) ⟨hx, hb, hml, hown, hts⟩ (m3_ofPot l D k 4 (by omega) (by omega)) (va_cwS 2 hts gX3_hands_X3_ofPot rfl rfl rfl (by decide +kernel) ⟨Nat.le_of_ble_eq_true rfl, Nat.le_of_ble_eq_true rfl⟩) (q_pS (hP.sub [] rfl) (hK.sub [] rfl)) rfl rfl hl.1 rfl (lv_room (Nat.le_of_ble_eq_true rfl)) dX3_hands_133 ⟨Nat.le_of_ble_eq_true rfl, Nat.le_of_ble_eq_true rfl⟩) hP hS (fun x45 H locs e45 hP hS => ?_)
        have e45 : x45 = (nI (76 + 5 * k)) := Eq.trans e45 (congrArg nI (by omega))
        subst e45
        refine lv_dup2_11 hx hb dX3_hands_136 rfl rfl ?_
        refine q_ld hx hb hK hP 1 0 rfl rfl (j := (76 + 5 * k)) (v := f44 (84 + k)) (by omega) (by omega) (rr_at (pm_p4 (by omega))) dX3_hands_137 ?_
        refine lv_iconst (v := nI 1) hx hb dX3_hands_138 (by decide) ?_
        refine lv_iadd hx hb dX3_hands_139 ?_
        refine lv_topi (fun x46 e46 => ?_)
        refine q_stR hx hb hK hP hD hS 1 0 rfl rfl rfl (j := (76 + 5 * k)) (i := (84 + k)) (by omega) (by omega) (pm_p4 (by omega)) (fun g => wS o ps cI fs g) (fun _ => rfl) dX3_hands_140 (fun H locs f47 hf47 hP hD hS => ?_)
        refine lv_aload_n hx hb dX3_hands_141 rfl (lv_at hl 3 rfl) ?_
        refine va_get (D := D) (ci := 3) (v := .ref ps) (C := RX3) (T := TX3) (N := 15) hx hb hts hi3 hown hK hP 0 rfl rfl 1 (by decide) hfl7 (fun _ h9 => h9) h1 dX3_hands_142 ?_
        refine lv_iload_n hx hb dX3_hands_145 rfl (lv_at hl 4 rfl) ?_
        refine lv_iconst (v := nI 0) hx hb dX3_hands_146 (by decide) ?_
        refine q_ciR (va_runS (rm := { frames := 0, cells := 0, slots := 0, locals := 0 }) (As := [.int (nI k), .int (nI 0)]) (rest := [.ref ps]) ⟨hx, hb, hml, hown, hts⟩ (m3_ofPot l D k 0 (by omega) (by omega)) (va_cwS 2 hts gX3_hands_X3_ofPot rfl rfl rfl (by decide +kernel) ⟨Nat.le_of_ble_eq_true rfl, Nat.le_of_ble_eq_true rfl⟩) (q_pS (hP.sub [] rfl) (hK.sub [] rfl)) rfl rfl hl.1 rfl (lv_room (Nat.le_of_ble_eq_true rfl)) dX3_hands_147 ⟨Nat.le_of_ble_eq_true rfl, Nat.le_of_ble_eq_true rfl⟩) hP hS (fun x48 H locs e48 hP hS => ?_)
        have e48 : x48 = (nI (72 + 5 * k)) := Eq.trans e48 (congrArg nI (by omega))
        subst e48
        refine lv_iload_n hx hb dX3_hands_150 rfl (lv_at hl 2 rfl) ?_
        refine lv_iload_n hx hb dX3_hands_151 rfl (lv_at hl 5 rfl) ?_
        refine lv_iadd hx hb dX3_hands_152 ?_
        refine lv_bipush (v := nI 8) hx hb dX3_hands_153 (by decide) ?_
        refine lv_iadd hx hb dX3_hands_155 ?_
        refine q_top hbw ?_
        refine lv_bipush (v := nI 8) hx hb dX3_hands_156 (by decide) ?_
        refine q_remN hx hb ((hN f k + d) % 8) hz (by omega) (by omega) (by omega) dX3_hands_158 ?_
        refine q_stR hx hb hK hP hD hS 1 0 rfl rfl rfl (j := (72 + 5 * k)) (i := (72 + k)) (by omega) (by omega) (pm_p0 (by omega)) (fun g => wS o ps cI fs g) (fun _ => rfl) dX3_hands_159 (fun H locs f49 hf49 hP hD hS => ?_)
        refine lv_aload_n hx hb dX3_hands_160 rfl (lv_at hl 3 rfl) ?_
        refine lv_iload_n hx hb dX3_hands_161 rfl (lv_at hl 4 rfl) ?_
        have hE : f49 = g_hand f k d := by
          subst hf49 hf47 e46 hf44 hf42 hf41 e40 hf39 e4 e2
          simp only [g_hand, g_tl, ← b_wh_eq, b_wh, r_w0, d5, c6, c29, ↓reduceIte]
        have hIE : Inv B f49 := by rw [hE]; exact hand_inv hI hk
        refine q_ciR (va_runV (rm := { frames := 1, cells := 0, slots := 0, locals := 21 }) (As := [.int (nI k)]) (rest := []) ⟨hx, hb, hml, hown, hts⟩ (m3_with l D cI o ps k fs f49 h1 B hIE hk) (cwV 1 hts gX3_hands_X3_with rfl rfl rfl (by decide +kernel) ⟨Nat.le_of_ble_eq_true rfl, Nat.le_of_ble_eq_true rfl⟩) (q_pV (ci := 3) (q0 := 0) hP hK rfl rfl) rfl rfl hl.1 rfl (lv_room (Nat.le_of_ble_eq_true rfl)) dX3_hands_162 ⟨Nat.le_of_ble_eq_true rfl, Nat.le_of_ble_eq_true rfl⟩) hP hS (fun x50 H locs e50 hP hS => ?_)
        have e50 : x50 = nI (hN f49 k) := e50
        exact hret _ _ _ _ _ rfl (by show x50 = _; rw [e50, hE, hand_hN]) (by rw [← hE]; exact hP 1 _ rfl) hS dX3_hands_165
  ·
    have d5 := q_ge2 c5
    refine lv_iconst (v := nI 0) hx hb dX3_hands_29 (by decide) ?_
    refine lv_goto (tgt := 49) hx hb dX3_hands_30 (by decide) ?_
    refine lv_istore (lv' := [(4, .int (nI 0)), (3, .int (nI ((hN f k)))), (0, .ref o), (1, .int (nI k)), (2, .int bw)]) hx hb dX3_hands_49 hl (by decide) rfl (fun ls hl => ?_)
    refine lv_bipush (v := nI 8) hx hb dX3_hands_51 (by decide) ?_
    refine lv_iload_n hx hb dX3_hands_53 rfl (lv_at hl 3 rfl) ?_
    refine q_mulN hx hb (8 * k) (by omega) dX3_hands_54 ?_
    refine lv_iload_n hx hb dX3_hands_55 rfl (lv_at hl 1 rfl) ?_
    refine q_addN hx hb (8 * k + (hN f k)) (by omega) dX3_hands_56 ?_
    refine lv_istore (lv' := [(5, .int (nI (8 * k + (hN f k)))), (4, .int (nI 0)), (3, .int (nI ((hN f k)))), (0, .ref o), (1, .int (nI k)), (2, .int bw)]) hx hb dX3_hands_57 hl (by decide) rfl (fun ls hl => ?_)
    refine lv_aload_n hx hb dX3_hands_59 rfl (lv_at hl 3 rfl) ?_
    refine va_get (D := D) (ci := 3) (v := .ref ps) (C := RX3) (T := TX3) (N := 15) hx hb hts hi3 hown hK hP 0 rfl rfl 1 (by decide) hfl7 (fun _ h9 => h9) h1 dX3_hands_60 ?_
    refine lv_bipush (v := nI 87) hx hb dX3_hands_63 (by decide) ?_
    refine lv_iload hx hb dX3_hands_65 (lv_at hl 0 rfl) ?_
    refine q_addN hx hb (87 + 8 * k + (hN f k)) (by omega) dX3_hands_67 ?_
    refine q_ld hx hb hK hP 1 0 rfl rfl (j := (87 + 8 * k + (hN f k))) (v := f (87 + 8 * k + (hN f k))) (by omega) (by omega) (rr_at (pm_id (by omega))) dX3_hands_68 ?_
    refine lv_iconst (v := (-1)) hx hb dX3_hands_69 (by decide) ?_
    refine lv_icmp_ne (tgt := 103) hx hb dX3_hands_70 (by decide) (fun c51 => ?_) (fun c51 => ?_)
    ·
      refine lv_aload_n hx hb dX3_hands_103 rfl (lv_at hl 3 rfl) ?_
      refine va_get (D := D) (ci := 3) (v := .ref ps) (C := RX3) (T := TX3) (N := 15) hx hb hts hi3 hown hK hP 0 rfl rfl 1 (by decide) hfl7 (fun _ h9 => h9) h1 dX3_hands_104 ?_
      refine lv_bipush (v := nI 87) hx hb dX3_hands_107 (by decide) ?_
      refine lv_iload hx hb dX3_hands_109 (lv_at hl 0 rfl) ?_
      refine q_addN hx hb (87 + 8 * k + (hN f k)) (by omega) dX3_hands_111 ?_
      refine lv_iload hx hb dX3_hands_112 (lv_at hl 1 rfl) ?_
      refine q_stR hx hb hK hP hD hS 1 0 rfl rfl rfl (j := (87 + 8 * k + (hN f k))) (i := (87 + 8 * k + (hN f k))) (by omega) (by omega) (pm_id (by omega)) (fun g => wS o ps cI fs g) (fun _ => rfl) dX3_hands_114 (fun H locs f52 hf52 hP hD hS => ?_)
      refine lv_aload_n hx hb dX3_hands_115 rfl (lv_at hl 3 rfl) ?_
      refine va_get (D := D) (ci := 3) (v := .ref ps) (C := RX3) (T := TX3) (N := 15) hx hb hts hi3 hown hK hP 0 rfl rfl 1 (by decide) hfl7 (fun _ h9 => h9) h1 dX3_hands_116 ?_
      refine lv_iload_n hx hb dX3_hands_119 rfl (lv_at hl 4 rfl) ?_
      refine lv_iconst (v := nI 2) hx hb dX3_hands_120 (by decide) ?_
      refine q_ciR (va_runS (rm := { frames := 0, cells := 0, slots := 0, locals := 0 }) (As := [.int (nI k), .int (nI 2)]) (rest := [.ref ps]) ⟨hx, hb, hml, hown, hts⟩ (m3_ofPot l D k 2 (by omega) (by omega)) (va_cwS 2 hts gX3_hands_X3_ofPot rfl rfl rfl (by decide +kernel) ⟨Nat.le_of_ble_eq_true rfl, Nat.le_of_ble_eq_true rfl⟩) (q_pS (hP.sub [] rfl) (hK.sub [] rfl)) rfl rfl hl.1 rfl (lv_room (Nat.le_of_ble_eq_true rfl)) dX3_hands_121 ⟨Nat.le_of_ble_eq_true rfl, Nat.le_of_ble_eq_true rfl⟩) hP hS (fun x53 H locs e53 hP hS => ?_)
      have e53 : x53 = (nI (74 + 5 * k)) := Eq.trans e53 (congrArg nI (by omega))
      subst e53
      refine lv_iload hx hb dX3_hands_124 (lv_at hl 1 rfl) ?_
      refine q_stR hx hb hK hP hD hS 1 0 rfl rfl rfl (j := (74 + 5 * k)) (i := (78 + k)) (by omega) (by omega) (pm_p2 (by omega)) (fun g => wS o ps cI fs g) (fun _ => rfl) dX3_hands_126 (fun H locs f54 hf54 hP hD hS => ?_)
      refine lv_aload_n hx hb dX3_hands_127 rfl (lv_at hl 3 rfl) ?_
      refine va_get (D := D) (ci := 3) (v := .ref ps) (C := RX3) (T := TX3) (N := 15) hx hb hts hi3 hown hK hP 0 rfl rfl 1 (by decide) hfl7 (fun _ h9 => h9) h1 dX3_hands_128 ?_
      refine lv_iload_n hx hb dX3_hands_131 rfl (lv_at hl 4 rfl) ?_
      refine lv_iconst (v := nI 4) hx hb dX3_hands_132 (by decide) ?_
      refine q_ciR (va_runS (rm := { frames := 0, cells := 0, slots := 0, locals := 0 }) (As := [.int (nI k), .int (nI 4)]) (rest := [.ref ps]) ⟨hx, hb, hml, hown, hts⟩ (m3_ofPot l D k 4 (by omega) (by omega)) (va_cwS 2 hts gX3_hands_X3_ofPot rfl rfl rfl (by decide +kernel) ⟨Nat.le_of_ble_eq_true rfl, Nat.le_of_ble_eq_true rfl⟩) (q_pS (hP.sub [] rfl) (hK.sub [] rfl)) rfl rfl hl.1 rfl (lv_room (Nat.le_of_ble_eq_true rfl)) dX3_hands_133 ⟨Nat.le_of_ble_eq_true rfl, Nat.le_of_ble_eq_true rfl⟩) hP hS (fun x55 H locs e55 hP hS => ?_)
      have e55 : x55 = (nI (76 + 5 * k)) := Eq.trans e55 (congrArg nI (by omega))
      subst e55
      refine lv_dup2_11 hx hb dX3_hands_136 rfl rfl ?_
      refine q_ld hx hb hK hP 1 0 rfl rfl (j := (76 + 5 * k)) (v := f54 (84 + k)) (by omega) (by omega) (rr_at (pm_p4 (by omega))) dX3_hands_137 ?_
      refine lv_iconst (v := nI 1) hx hb dX3_hands_138 (by decide) ?_
      refine lv_iadd hx hb dX3_hands_139 ?_
      refine lv_topi (fun x56 e56 => ?_)
      refine q_stR hx hb hK hP hD hS 1 0 rfl rfl rfl (j := (76 + 5 * k)) (i := (84 + k)) (by omega) (by omega) (pm_p4 (by omega)) (fun g => wS o ps cI fs g) (fun _ => rfl) dX3_hands_140 (fun H locs f57 hf57 hP hD hS => ?_)
      refine lv_aload_n hx hb dX3_hands_141 rfl (lv_at hl 3 rfl) ?_
      refine va_get (D := D) (ci := 3) (v := .ref ps) (C := RX3) (T := TX3) (N := 15) hx hb hts hi3 hown hK hP 0 rfl rfl 1 (by decide) hfl7 (fun _ h9 => h9) h1 dX3_hands_142 ?_
      refine lv_iload_n hx hb dX3_hands_145 rfl (lv_at hl 4 rfl) ?_
      refine lv_iconst (v := nI 0) hx hb dX3_hands_146 (by decide) ?_
      refine q_ciR (va_runS (rm := { frames := 0, cells := 0, slots := 0, locals := 0 }) (As := [.int (nI k), .int (nI 0)]) (rest := [.ref ps]) ⟨hx, hb, hml, hown, hts⟩ (m3_ofPot l D k 0 (by omega) (by omega)) (va_cwS 2 hts gX3_hands_X3_ofPot rfl rfl rfl (by decide +kernel) ⟨Nat.le_of_ble_eq_true rfl, Nat.le_of_ble_eq_true rfl⟩) (q_pS (hP.sub [] rfl) (hK.sub [] rfl)) rfl rfl hl.1 rfl (lv_room (Nat.le_of_ble_eq_true rfl)) dX3_hands_147 ⟨Nat.le_of_ble_eq_true rfl, Nat.le_of_ble_eq_true rfl⟩) hP hS (fun x58 H locs e58 hP hS => ?_)
      have e58 : x58 = (nI (72 + 5 * k)) := Eq.trans e58 (congrArg nI (by omega))
      subst e58
      refine lv_iload_n hx hb dX3_hands_150 rfl (lv_at hl 2 rfl) ?_
      refine lv_iload_n hx hb dX3_hands_151 rfl (lv_at hl 5 rfl) ?_
      refine lv_iadd hx hb dX3_hands_152 ?_
      refine lv_bipush (v := nI 8) hx hb dX3_hands_153 (by decide) ?_
      refine lv_iadd hx hb dX3_hands_155 ?_
      refine q_top hbw ?_
      refine lv_bipush (v := nI 8) hx hb dX3_hands_156 (by decide) ?_
      refine q_remN hx hb ((hN f k + d) % 8) hz (by omega) (by omega) (by omega) dX3_hands_158 ?_
      refine q_stR hx hb hK hP hD hS 1 0 rfl rfl rfl (j := (72 + 5 * k)) (i := (72 + k)) (by omega) (by omega) (pm_p0 (by omega)) (fun g => wS o ps cI fs g) (fun _ => rfl) dX3_hands_159 (fun H locs f59 hf59 hP hD hS => ?_)
      refine lv_aload_n hx hb dX3_hands_160 rfl (lv_at hl 3 rfl) ?_
      refine lv_iload_n hx hb dX3_hands_161 rfl (lv_at hl 4 rfl) ?_
      have hE : f59 = g_hand f k d := by
        subst hf59 hf57 e56 hf54 hf52 e4 e2
        simp only [g_hand, g_tl, ← b_wh_eq, b_wh, r_w0, d5, c51, ↓reduceIte]
      have hIE : Inv B f59 := by rw [hE]; exact hand_inv hI hk
      refine q_ciR (va_runV (rm := { frames := 1, cells := 0, slots := 0, locals := 21 }) (As := [.int (nI k)]) (rest := []) ⟨hx, hb, hml, hown, hts⟩ (m3_with l D cI o ps k fs f59 h1 B hIE hk) (cwV 1 hts gX3_hands_X3_with rfl rfl rfl (by decide +kernel) ⟨Nat.le_of_ble_eq_true rfl, Nat.le_of_ble_eq_true rfl⟩) (q_pV (ci := 3) (q0 := 0) hP hK rfl rfl) rfl rfl hl.1 rfl (lv_room (Nat.le_of_ble_eq_true rfl)) dX3_hands_162 ⟨Nat.le_of_ble_eq_true rfl, Nat.le_of_ble_eq_true rfl⟩) hP hS (fun x60 H locs e60 hP hS => ?_)
      have e60 : x60 = nI (hN f59 k) := e60
      exact hret _ _ _ _ _ rfl (by show x60 = _; rw [e60, hE, hand_hN]) (by rw [← hE]; exact hP 1 _ rfl) hS dX3_hands_165
    ·
      have h24 := hO2 c51
      refine lv_aload_n hx hb dX3_hands_73 rfl (lv_at hl 3 rfl) ?_
      refine va_get (D := D) (ci := 3) (v := .ref ps) (C := RX3) (T := TX3) (N := 15) hx hb hts hi3 hown hK hP 0 rfl rfl 1 (by decide) hfl7 (fun _ h9 => h9) h1 dX3_hands_74 ?_
      refine lv_bipush (v := nI 111) hx hb dX3_hands_77 (by decide) ?_
      refine lv_aload_n hx hb dX3_hands_79 rfl (lv_at hl 3 rfl) ?_
      refine va_get (D := D) (ci := 3) (v := .ref ps) (C := RX3) (T := TX3) (N := 15) hx hb hts hi3 hown hK hP 0 rfl rfl 1 (by decide) hfl7 (fun _ h9 => h9) h1 dX3_hands_80 ?_
      refine lv_sipush (v := nI 135) hx hb dX3_hands_83 (by decide) ?_
      refine q_ld hx hb hK hP 1 0 rfl rfl (j := 135) (v := (nI ((tN f)))) (by omega) (by omega) ((rr_at (pm_id (by omega))).trans h24.1) dX3_hands_86 ?_
      refine q_addN hx hb (111 + (tN f)) (by omega) dX3_hands_87 ?_
      refine lv_iload hx hb dX3_hands_88 (lv_at hl 0 rfl) ?_
      refine q_stR hx hb hK hP hD hS 1 0 rfl rfl rfl (j := (111 + (tN f))) (i := (111 + (tN f))) (by omega) (by omega) (pm_id (by omega)) (fun g => wS o ps cI fs g) (fun _ => rfl) dX3_hands_90 (fun H locs f61 hf61 hP hD hS => ?_)
      refine lv_aload_n hx hb dX3_hands_91 rfl (lv_at hl 3 rfl) ?_
      refine va_get (D := D) (ci := 3) (v := .ref ps) (C := RX3) (T := TX3) (N := 15) hx hb hts hi3 hown hK hP 0 rfl rfl 1 (by decide) hfl7 (fun _ h9 => h9) h1 dX3_hands_92 ?_
      refine lv_sipush (v := nI 135) hx hb dX3_hands_95 (by decide) ?_
      refine lv_dup2_11 hx hb dX3_hands_98 rfl rfl ?_
      refine q_ld hx hb hK hP 1 0 rfl rfl (j := 135) (v := f61 135) (by omega) (by omega) (rr_at (pm_id (by omega))) dX3_hands_99 ?_
      refine lv_iconst (v := nI 1) hx hb dX3_hands_100 (by decide) ?_
      refine lv_iadd hx hb dX3_hands_101 ?_
      refine lv_topi (fun x62 e62 => ?_)
      refine q_stR hx hb hK hP hD hS 1 0 rfl rfl rfl (j := 135) (i := 135) (by omega) (by omega) (pm_id (by omega)) (fun g => wS o ps cI fs g) (fun _ => rfl) dX3_hands_102 (fun H locs f63 hf63 hP hD hS => ?_)
      refine lv_aload_n hx hb dX3_hands_103 rfl (lv_at hl 3 rfl) ?_
      refine va_get (D := D) (ci := 3) (v := .ref ps) (C := RX3) (T := TX3) (N := 15) hx hb hts hi3 hown hK hP 0 rfl rfl 1 (by decide) hfl7 (fun _ h9 => h9) h1 dX3_hands_104 ?_
      refine lv_bipush (v := nI 87) hx hb dX3_hands_107 (by decide) ?_
      refine lv_iload hx hb dX3_hands_109 (lv_at hl 0 rfl) ?_
      refine q_addN hx hb (87 + 8 * k + (hN f k)) (by omega) dX3_hands_111 ?_
      refine lv_iload hx hb dX3_hands_112 (lv_at hl 1 rfl) ?_
      refine q_stR hx hb hK hP hD hS 1 0 rfl rfl rfl (j := (87 + 8 * k + (hN f k))) (i := (87 + 8 * k + (hN f k))) (by omega) (by omega) (pm_id (by omega)) (fun g => wS o ps cI fs g) (fun _ => rfl) dX3_hands_114 (fun H locs f64 hf64 hP hD hS => ?_)
      refine lv_aload_n hx hb dX3_hands_115 rfl (lv_at hl 3 rfl) ?_
      refine va_get (D := D) (ci := 3) (v := .ref ps) (C := RX3) (T := TX3) (N := 15) hx hb hts hi3 hown hK hP 0 rfl rfl 1 (by decide) hfl7 (fun _ h9 => h9) h1 dX3_hands_116 ?_
      refine lv_iload_n hx hb dX3_hands_119 rfl (lv_at hl 4 rfl) ?_
      refine lv_iconst (v := nI 2) hx hb dX3_hands_120 (by decide) ?_
      refine q_ciR (va_runS (rm := { frames := 0, cells := 0, slots := 0, locals := 0 }) (As := [.int (nI k), .int (nI 2)]) (rest := [.ref ps]) ⟨hx, hb, hml, hown, hts⟩ (m3_ofPot l D k 2 (by omega) (by omega)) (va_cwS 2 hts gX3_hands_X3_ofPot rfl rfl rfl (by decide +kernel) ⟨Nat.le_of_ble_eq_true rfl, Nat.le_of_ble_eq_true rfl⟩) (q_pS (hP.sub [] rfl) (hK.sub [] rfl)) rfl rfl hl.1 rfl (lv_room (Nat.le_of_ble_eq_true rfl)) dX3_hands_121 ⟨Nat.le_of_ble_eq_true rfl, Nat.le_of_ble_eq_true rfl⟩) hP hS (fun x65 H locs e65 hP hS => ?_)
      have e65 : x65 = (nI (74 + 5 * k)) := Eq.trans e65 (congrArg nI (by omega))
      subst e65
      refine lv_iload hx hb dX3_hands_124 (lv_at hl 1 rfl) ?_
      refine q_stR hx hb hK hP hD hS 1 0 rfl rfl rfl (j := (74 + 5 * k)) (i := (78 + k)) (by omega) (by omega) (pm_p2 (by omega)) (fun g => wS o ps cI fs g) (fun _ => rfl) dX3_hands_126 (fun H locs f66 hf66 hP hD hS => ?_)
      refine lv_aload_n hx hb dX3_hands_127 rfl (lv_at hl 3 rfl) ?_
      refine va_get (D := D) (ci := 3) (v := .ref ps) (C := RX3) (T := TX3) (N := 15) hx hb hts hi3 hown hK hP 0 rfl rfl 1 (by decide) hfl7 (fun _ h9 => h9) h1 dX3_hands_128 ?_
      refine lv_iload_n hx hb dX3_hands_131 rfl (lv_at hl 4 rfl) ?_
      refine lv_iconst (v := nI 4) hx hb dX3_hands_132 (by decide) ?_
      refine q_ciR (va_runS (rm := { frames := 0, cells := 0, slots := 0, locals := 0 }) (As := [.int (nI k), .int (nI 4)]) (rest := [.ref ps]) ⟨hx, hb, hml, hown, hts⟩ (m3_ofPot l D k 4 (by omega) (by omega)) (va_cwS 2 hts gX3_hands_X3_ofPot rfl rfl rfl (by decide +kernel) ⟨Nat.le_of_ble_eq_true rfl, Nat.le_of_ble_eq_true rfl⟩) (q_pS (hP.sub [] rfl) (hK.sub [] rfl)) rfl rfl hl.1 rfl (lv_room (Nat.le_of_ble_eq_true rfl)) dX3_hands_133 ⟨Nat.le_of_ble_eq_true rfl, Nat.le_of_ble_eq_true rfl⟩) hP hS (fun x67 H locs e67 hP hS => ?_)
      have e67 : x67 = (nI (76 + 5 * k)) := Eq.trans e67 (congrArg nI (by omega))
      subst e67
      refine lv_dup2_11 hx hb dX3_hands_136 rfl rfl ?_
      refine q_ld hx hb hK hP 1 0 rfl rfl (j := (76 + 5 * k)) (v := f66 (84 + k)) (by omega) (by omega) (rr_at (pm_p4 (by omega))) dX3_hands_137 ?_
      refine lv_iconst (v := nI 1) hx hb dX3_hands_138 (by decide) ?_
      refine lv_iadd hx hb dX3_hands_139 ?_
      refine lv_topi (fun x68 e68 => ?_)
      refine q_stR hx hb hK hP hD hS 1 0 rfl rfl rfl (j := (76 + 5 * k)) (i := (84 + k)) (by omega) (by omega) (pm_p4 (by omega)) (fun g => wS o ps cI fs g) (fun _ => rfl) dX3_hands_140 (fun H locs f69 hf69 hP hD hS => ?_)
      refine lv_aload_n hx hb dX3_hands_141 rfl (lv_at hl 3 rfl) ?_
      refine va_get (D := D) (ci := 3) (v := .ref ps) (C := RX3) (T := TX3) (N := 15) hx hb hts hi3 hown hK hP 0 rfl rfl 1 (by decide) hfl7 (fun _ h9 => h9) h1 dX3_hands_142 ?_
      refine lv_iload_n hx hb dX3_hands_145 rfl (lv_at hl 4 rfl) ?_
      refine lv_iconst (v := nI 0) hx hb dX3_hands_146 (by decide) ?_
      refine q_ciR (va_runS (rm := { frames := 0, cells := 0, slots := 0, locals := 0 }) (As := [.int (nI k), .int (nI 0)]) (rest := [.ref ps]) ⟨hx, hb, hml, hown, hts⟩ (m3_ofPot l D k 0 (by omega) (by omega)) (va_cwS 2 hts gX3_hands_X3_ofPot rfl rfl rfl (by decide +kernel) ⟨Nat.le_of_ble_eq_true rfl, Nat.le_of_ble_eq_true rfl⟩) (q_pS (hP.sub [] rfl) (hK.sub [] rfl)) rfl rfl hl.1 rfl (lv_room (Nat.le_of_ble_eq_true rfl)) dX3_hands_147 ⟨Nat.le_of_ble_eq_true rfl, Nat.le_of_ble_eq_true rfl⟩) hP hS (fun x70 H locs e70 hP hS => ?_)
      have e70 : x70 = (nI (72 + 5 * k)) := Eq.trans e70 (congrArg nI (by omega))
      subst e70
      refine lv_iload_n hx hb dX3_hands_150 rfl (lv_at hl 2 rfl) ?_
      refine lv_iload_n hx hb dX3_hands_151 rfl (lv_at hl 5 rfl) ?_
      refine lv_iadd hx hb dX3_hands_152 ?_
      refine lv_bipush (v := nI 8) hx hb dX3_hands_153 (by decide) ?_
      refine lv_iadd hx hb dX3_hands_155 ?_
      refine q_top hbw ?_
      refine lv_bipush (v := nI 8) hx hb dX3_hands_156 (by decide) ?_
      refine q_remN hx hb ((hN f k + d) % 8) hz (by omega) (by omega) (by omega) dX3_hands_158 ?_
      refine q_stR hx hb hK hP hD hS 1 0 rfl rfl rfl (j := (72 + 5 * k)) (i := (72 + k)) (by omega) (by omega) (pm_p0 (by omega)) (fun g => wS o ps cI fs g) (fun _ => rfl) dX3_hands_159 (fun H locs f71 hf71 hP hD hS => ?_)
      refine lv_aload_n hx hb dX3_hands_160 rfl (lv_at hl 3 rfl) ?_
      refine lv_iload_n hx hb dX3_hands_161 rfl (lv_at hl 4 rfl) ?_
      have hE : f71 = g_hand f k d := by
        subst hf71 hf69 e68 hf66 hf64 hf63 e62 hf61 e4 e2
        simp only [g_hand, g_tl, ← b_wh_eq, b_wh, r_w0, d5, c51, ↓reduceIte]
      have hIE : Inv B f71 := by rw [hE]; exact hand_inv hI hk
      refine q_ciR (va_runV (rm := { frames := 1, cells := 0, slots := 0, locals := 21 }) (As := [.int (nI k)]) (rest := []) ⟨hx, hb, hml, hown, hts⟩ (m3_with l D cI o ps k fs f71 h1 B hIE hk) (cwV 1 hts gX3_hands_X3_with rfl rfl rfl (by decide +kernel) ⟨Nat.le_of_ble_eq_true rfl, Nat.le_of_ble_eq_true rfl⟩) (q_pV (ci := 3) (q0 := 0) hP hK rfl rfl) rfl rfl hl.1 rfl (lv_room (Nat.le_of_ble_eq_true rfl)) dX3_hands_162 ⟨Nat.le_of_ble_eq_true rfl, Nat.le_of_ble_eq_true rfl⟩) hP hS (fun x72 H locs e72 hP hS => ?_)
      have e72 : x72 = nI (hN f71 k) := e72
      exact hret _ _ _ _ _ rfl (by show x72 = _; rw [e72, hE, hand_hN]) (by rw [← hE]; exact hP 1 _ rfl) hS dX3_hands_165
set_option maxHeartbeats 4000000 in
set_option maxRecDepth 100000 in
theorem m3_sips (l : Launch) (D : va_G) (cI : ClassId) (o ps g : Nat) (fs : List Value) (f : Nat → Int32) (h1 : fs[1]? = some (.ref ps)) (hg : g < 8) (B : Nat) (hI : Inv B f) (hne : o ≠ ps) : q_I l yX3_sips wsX3_sips { frames := 1, cells := 0, slots := 0, locals := 21 } [.ref o, .int (nI g)] (q_bp D (wS o ps cI fs f) [(cI, .int)]) (fun v => v = g_dr f g) (fun H => va_at D vwCl (ps, .inl (cI, 138, .inl (rr (g_drink f g)))) H) (fun q => q = ps) 0 0 := by
  refine q_goI (cc := cX3_sips) (maxL := 3) (ty := .int) (lv0 := [(0, .ref o), (1, .int (nI g))]) (by decide) rfl (Nat.le_of_ble_eq_true rfl) rfl ?_
  intro p e s m args below meth c Q ls hx hb hml hts hown hP hK hl hret
  have hi3 : ∀ w ∈ wsX30, w ∈ wsX3_sips := by decide +kernel
  have hfl7 := hts (.fieldLink RX3 7 "WhisperedPotsModel" "s" "[I") (by decide +kernel)
  have hS : va_S (fun q => q = ps) s.heap s.heap [] := va_S.rf
  have hD : va_D (fun _ => True) (wS o ps cI fs f) := q_dT hne
  refine lv_aload_n hx hb dX3_sips_0 rfl (lv_at hl 0 rfl) ?_
  refine va_get (D := D) (ci := 3) (v := .ref ps) (C := RX3) (T := TX3) (N := 15) hx hb hts hi3 hown hK hP 0 rfl rfl 1 (by decide) hfl7 (fun _ h9 => h9) h1 dX3_sips_1 ?_
  refine lv_iload_n hx hb dX3_sips_4 rfl (lv_at hl 1 rfl) ?_
  refine lv_iconst (v := nI 1) hx hb dX3_sips_5 (by decide) ?_
  refine q_ciR (va_runS (rm := { frames := 0, cells := 0, slots := 0, locals := 0 }) (As := [.int (nI g), .int (nI 1)]) (rest := [.ref ps]) ⟨hx, hb, hml, hown, hts⟩ (m3_of l D g 1 (by omega) (by omega)) (va_cwS 2 hts gX3_sips_X3_of rfl rfl rfl (by decide +kernel) ⟨Nat.le_of_ble_eq_true rfl, Nat.le_of_ble_eq_true rfl⟩) (q_pS (hP.sub [] rfl) (hK.sub [] rfl)) rfl rfl hl.1 rfl (lv_room (Nat.le_of_ble_eq_true rfl)) dX3_sips_6 ⟨Nat.le_of_ble_eq_true rfl, Nat.le_of_ble_eq_true rfl⟩) hP hS (fun x1 H locs e1 hP hS => ?_)
  have e1 : x1 = (nI (1 + 9 * g)) := Eq.trans e1 (congrArg nI (by omega))
  subst e1
  refine q_ld hx hb hK hP 1 0 rfl rfl (j := (1 + 9 * g)) (v := f (8 + g)) (by omega) (by omega) (rr_at (pm_g1 (by omega))) dX3_sips_9 ?_
  refine lv_aload_n hx hb dX3_sips_10 rfl (lv_at hl 0 rfl) ?_
  refine va_get (D := D) (ci := 3) (v := .ref ps) (C := RX3) (T := TX3) (N := 15) hx hb hts hi3 hown hK hP 0 rfl rfl 1 (by decide) hfl7 (fun _ h9 => h9) h1 dX3_sips_11 ?_
  refine lv_iload_n hx hb dX3_sips_14 rfl (lv_at hl 1 rfl) ?_
  refine lv_iconst (v := nI 2) hx hb dX3_sips_15 (by decide) ?_
  refine q_ciR (va_runS (rm := { frames := 0, cells := 0, slots := 0, locals := 0 }) (As := [.int (nI g), .int (nI 2)]) (rest := [.ref ps, .int (f (8 + g))]) ⟨hx, hb, hml, hown, hts⟩ (m3_of l D g 2 (by omega) (by omega)) (va_cwS 2 hts gX3_sips_X3_of rfl rfl rfl (by decide +kernel) ⟨Nat.le_of_ble_eq_true rfl, Nat.le_of_ble_eq_true rfl⟩) (q_pS (hP.sub [] rfl) (hK.sub [] rfl)) rfl rfl hl.1 rfl (lv_room (Nat.le_of_ble_eq_true rfl)) dX3_sips_16 ⟨Nat.le_of_ble_eq_true rfl, Nat.le_of_ble_eq_true rfl⟩) hP hS (fun x2 H locs e2 hP hS => ?_)
  have e2 : x2 = (nI (2 + 9 * g)) := Eq.trans e2 (congrArg nI (by omega))
  subst e2
  refine q_ld hx hb hK hP 1 0 rfl rfl (j := (2 + 9 * g)) (v := f (16 + g)) (by omega) (by omega) (rr_at (pm_g2 (by omega))) dX3_sips_19 ?_
  refine lv_icmp_ge (tgt := 36) hx hb dX3_sips_20 (by decide) (fun c3 => ?_) (fun c3 => ?_)
  ·
    refine lv_aload_n hx hb dX3_sips_36 rfl (lv_at hl 0 rfl) ?_
    refine va_get (D := D) (ci := 3) (v := .ref ps) (C := RX3) (T := TX3) (N := 15) hx hb hts hi3 hown hK hP 0 rfl rfl 1 (by decide) hfl7 (fun _ h9 => h9) h1 dX3_sips_37 ?_
    refine lv_iload_n hx hb dX3_sips_40 rfl (lv_at hl 1 rfl) ?_
    refine lv_iconst (v := nI 2) hx hb dX3_sips_41 (by decide) ?_
    refine q_ciR (va_runS (rm := { frames := 0, cells := 0, slots := 0, locals := 0 }) (As := [.int (nI g), .int (nI 2)]) (rest := [.ref ps]) ⟨hx, hb, hml, hown, hts⟩ (m3_of l D g 2 (by omega) (by omega)) (va_cwS 2 hts gX3_sips_X3_of rfl rfl rfl (by decide +kernel) ⟨Nat.le_of_ble_eq_true rfl, Nat.le_of_ble_eq_true rfl⟩) (q_pS (hP.sub [] rfl) (hK.sub [] rfl)) rfl rfl hl.1 rfl (lv_room (Nat.le_of_ble_eq_true rfl)) dX3_sips_42 ⟨Nat.le_of_ble_eq_true rfl, Nat.le_of_ble_eq_true rfl⟩) hP hS (fun x4 H locs e4 hP hS => ?_)
    have e4 : x4 = (nI (2 + 9 * g)) := Eq.trans e4 (congrArg nI (by omega))
    subst e4
    refine q_ld hx hb hK hP 1 0 rfl rfl (j := (2 + 9 * g)) (v := f (16 + g)) (by omega) (by omega) (rr_at (pm_g2 (by omega))) dX3_sips_45 ?_
    refine lv_topi (fun x5 e5 => ?_)
    refine lv_istore_n (lv' := [(2, .int x5), (0, .ref o), (1, .int (nI g))]) hx hb dX3_sips_46 rfl hl (by decide) rfl (fun ls hl => ?_)
    refine lv_aload_n hx hb dX3_sips_47 rfl (lv_at hl 1 rfl) ?_
    refine va_get (D := D) (ci := 3) (v := .ref ps) (C := RX3) (T := TX3) (N := 15) hx hb hts hi3 hown hK hP 0 rfl rfl 1 (by decide) hfl7 (fun _ h9 => h9) h1 dX3_sips_48 ?_
    refine lv_iload_n hx hb dX3_sips_51 rfl (lv_at hl 2 rfl) ?_
    refine lv_iconst (v := nI 1) hx hb dX3_sips_52 (by decide) ?_
    refine q_ciR (va_runS (rm := { frames := 0, cells := 0, slots := 0, locals := 0 }) (As := [.int (nI g), .int (nI 1)]) (rest := [.ref ps]) ⟨hx, hb, hml, hown, hts⟩ (m3_of l D g 1 (by omega) (by omega)) (va_cwS 2 hts gX3_sips_X3_of rfl rfl rfl (by decide +kernel) ⟨Nat.le_of_ble_eq_true rfl, Nat.le_of_ble_eq_true rfl⟩) (q_pS (hP.sub [] rfl) (hK.sub [] rfl)) rfl rfl hl.1 rfl (lv_room (Nat.le_of_ble_eq_true rfl)) dX3_sips_53 ⟨Nat.le_of_ble_eq_true rfl, Nat.le_of_ble_eq_true rfl⟩) hP hS (fun x6 H locs e6 hP hS => ?_)
    have e6 : x6 = (nI (1 + 9 * g)) := Eq.trans e6 (congrArg nI (by omega))
    subst e6
    refine lv_dup2_11 hx hb dX3_sips_56 rfl rfl ?_
    refine q_ld hx hb hK hP 1 0 rfl rfl (j := (1 + 9 * g)) (v := f (8 + g)) (by omega) (by omega) (rr_at (pm_g1 (by omega))) dX3_sips_57 ?_
    refine lv_iload_n hx hb dX3_sips_58 rfl (lv_at hl 0 rfl) ?_
    refine lv_isub hx hb dX3_sips_59 ?_
    refine lv_topi (fun x7 e7 => ?_)
    refine q_stR hx hb hK hP hD hS 1 0 rfl rfl rfl (j := (1 + 9 * g)) (i := (8 + g)) (by omega) (by omega) (pm_g1 (by omega)) (fun g => wS o ps cI fs g) (fun _ => rfl) dX3_sips_60 (fun H locs f8 hf8 hP hD hS => ?_)
    refine lv_aload_n hx hb dX3_sips_61 rfl (lv_at hl 1 rfl) ?_
    refine va_get (D := D) (ci := 3) (v := .ref ps) (C := RX3) (T := TX3) (N := 15) hx hb hts hi3 hown hK hP 0 rfl rfl 1 (by decide) hfl7 (fun _ h9 => h9) h1 dX3_sips_62 ?_
    refine lv_iload_n hx hb dX3_sips_65 rfl (lv_at hl 2 rfl) ?_
    refine lv_bipush (v := nI 6) hx hb dX3_sips_66 (by decide) ?_
    refine q_ciR (va_runS (rm := { frames := 0, cells := 0, slots := 0, locals := 0 }) (As := [.int (nI g), .int (nI 6)]) (rest := [.ref ps]) ⟨hx, hb, hml, hown, hts⟩ (m3_of l D g 6 (by omega) (by omega)) (va_cwS 2 hts gX3_sips_X3_of rfl rfl rfl (by decide +kernel) ⟨Nat.le_of_ble_eq_true rfl, Nat.le_of_ble_eq_true rfl⟩) (q_pS (hP.sub [] rfl) (hK.sub [] rfl)) rfl rfl hl.1 rfl (lv_room (Nat.le_of_ble_eq_true rfl)) dX3_sips_68 ⟨Nat.le_of_ble_eq_true rfl, Nat.le_of_ble_eq_true rfl⟩) hP hS (fun x9 H locs e9 hP hS => ?_)
    have e9 : x9 = (nI (6 + 9 * g)) := Eq.trans e9 (congrArg nI (by omega))
    subst e9
    refine lv_dup2_11 hx hb dX3_sips_71 rfl rfl ?_
    refine q_ld hx hb hK hP 1 0 rfl rfl (j := (6 + 9 * g)) (v := f8 (48 + g)) (by omega) (by omega) (rr_at (pm_g6 (by omega))) dX3_sips_72 ?_
    refine lv_iload_n hx hb dX3_sips_73 rfl (lv_at hl 0 rfl) ?_
    refine lv_iadd hx hb dX3_sips_74 ?_
    refine lv_topi (fun x10 e10 => ?_)
    refine q_stR hx hb hK hP hD hS 1 0 rfl rfl rfl (j := (6 + 9 * g)) (i := (48 + g)) (by omega) (by omega) (pm_g6 (by omega)) (fun g => wS o ps cI fs g) (fun _ => rfl) dX3_sips_75 (fun H locs f11 hf11 hP hD hS => ?_)
    refine lv_iload_n hx hb dX3_sips_76 rfl (lv_at hl 0 rfl) ?_
    have hE : f11 = g_drink f g := by
      subst hf11 e10 hf8 e7 e5
      simp only [g_drink, g_dr, ← q_swap, c3, ↓reduceIte]
    refine hret _ _ _ _ _ rfl ?_ (by rw [← hE]; exact hP 1 _ rfl) hS dX3_sips_77
    subst hf11 e10 hf8 e7 e5
    simp only [g_dr, ← q_swap, c3, ↓reduceIte]
  ·
    refine lv_aload_n hx hb dX3_sips_23 rfl (lv_at hl 0 rfl) ?_
    refine va_get (D := D) (ci := 3) (v := .ref ps) (C := RX3) (T := TX3) (N := 15) hx hb hts hi3 hown hK hP 0 rfl rfl 1 (by decide) hfl7 (fun _ h9 => h9) h1 dX3_sips_24 ?_
    refine lv_iload_n hx hb dX3_sips_27 rfl (lv_at hl 1 rfl) ?_
    refine lv_iconst (v := nI 1) hx hb dX3_sips_28 (by decide) ?_
    refine q_ciR (va_runS (rm := { frames := 0, cells := 0, slots := 0, locals := 0 }) (As := [.int (nI g), .int (nI 1)]) (rest := [.ref ps]) ⟨hx, hb, hml, hown, hts⟩ (m3_of l D g 1 (by omega) (by omega)) (va_cwS 2 hts gX3_sips_X3_of rfl rfl rfl (by decide +kernel) ⟨Nat.le_of_ble_eq_true rfl, Nat.le_of_ble_eq_true rfl⟩) (q_pS (hP.sub [] rfl) (hK.sub [] rfl)) rfl rfl hl.1 rfl (lv_room (Nat.le_of_ble_eq_true rfl)) dX3_sips_29 ⟨Nat.le_of_ble_eq_true rfl, Nat.le_of_ble_eq_true rfl⟩) hP hS (fun x12 H locs e12 hP hS => ?_)
    have e12 : x12 = (nI (1 + 9 * g)) := Eq.trans e12 (congrArg nI (by omega))
    subst e12
    refine q_ld hx hb hK hP 1 0 rfl rfl (j := (1 + 9 * g)) (v := f (8 + g)) (by omega) (by omega) (rr_at (pm_g1 (by omega))) dX3_sips_32 ?_
    refine lv_goto (tgt := 46) hx hb dX3_sips_33 (by decide) ?_
    refine lv_topi (fun x13 e13 => ?_)
    refine lv_istore_n (lv' := [(2, .int x13), (0, .ref o), (1, .int (nI g))]) hx hb dX3_sips_46 rfl hl (by decide) rfl (fun ls hl => ?_)
    refine lv_aload_n hx hb dX3_sips_47 rfl (lv_at hl 1 rfl) ?_
    refine va_get (D := D) (ci := 3) (v := .ref ps) (C := RX3) (T := TX3) (N := 15) hx hb hts hi3 hown hK hP 0 rfl rfl 1 (by decide) hfl7 (fun _ h9 => h9) h1 dX3_sips_48 ?_
    refine lv_iload_n hx hb dX3_sips_51 rfl (lv_at hl 2 rfl) ?_
    refine lv_iconst (v := nI 1) hx hb dX3_sips_52 (by decide) ?_
    refine q_ciR (va_runS (rm := { frames := 0, cells := 0, slots := 0, locals := 0 }) (As := [.int (nI g), .int (nI 1)]) (rest := [.ref ps]) ⟨hx, hb, hml, hown, hts⟩ (m3_of l D g 1 (by omega) (by omega)) (va_cwS 2 hts gX3_sips_X3_of rfl rfl rfl (by decide +kernel) ⟨Nat.le_of_ble_eq_true rfl, Nat.le_of_ble_eq_true rfl⟩) (q_pS (hP.sub [] rfl) (hK.sub [] rfl)) rfl rfl hl.1 rfl (lv_room (Nat.le_of_ble_eq_true rfl)) dX3_sips_53 ⟨Nat.le_of_ble_eq_true rfl, Nat.le_of_ble_eq_true rfl⟩) hP hS (fun x14 H locs e14 hP hS => ?_)
    have e14 : x14 = (nI (1 + 9 * g)) := Eq.trans e14 (congrArg nI (by omega))
    subst e14
    refine lv_dup2_11 hx hb dX3_sips_56 rfl rfl ?_
    refine q_ld hx hb hK hP 1 0 rfl rfl (j := (1 + 9 * g)) (v := f (8 + g)) (by omega) (by omega) (rr_at (pm_g1 (by omega))) dX3_sips_57 ?_
    refine lv_iload_n hx hb dX3_sips_58 rfl (lv_at hl 0 rfl) ?_
    refine lv_isub hx hb dX3_sips_59 ?_
    refine lv_topi (fun x15 e15 => ?_)
    refine q_stR hx hb hK hP hD hS 1 0 rfl rfl rfl (j := (1 + 9 * g)) (i := (8 + g)) (by omega) (by omega) (pm_g1 (by omega)) (fun g => wS o ps cI fs g) (fun _ => rfl) dX3_sips_60 (fun H locs f16 hf16 hP hD hS => ?_)
    refine lv_aload_n hx hb dX3_sips_61 rfl (lv_at hl 1 rfl) ?_
    refine va_get (D := D) (ci := 3) (v := .ref ps) (C := RX3) (T := TX3) (N := 15) hx hb hts hi3 hown hK hP 0 rfl rfl 1 (by decide) hfl7 (fun _ h9 => h9) h1 dX3_sips_62 ?_
    refine lv_iload_n hx hb dX3_sips_65 rfl (lv_at hl 2 rfl) ?_
    refine lv_bipush (v := nI 6) hx hb dX3_sips_66 (by decide) ?_
    refine q_ciR (va_runS (rm := { frames := 0, cells := 0, slots := 0, locals := 0 }) (As := [.int (nI g), .int (nI 6)]) (rest := [.ref ps]) ⟨hx, hb, hml, hown, hts⟩ (m3_of l D g 6 (by omega) (by omega)) (va_cwS 2 hts gX3_sips_X3_of rfl rfl rfl (by decide +kernel) ⟨Nat.le_of_ble_eq_true rfl, Nat.le_of_ble_eq_true rfl⟩) (q_pS (hP.sub [] rfl) (hK.sub [] rfl)) rfl rfl hl.1 rfl (lv_room (Nat.le_of_ble_eq_true rfl)) dX3_sips_68 ⟨Nat.le_of_ble_eq_true rfl, Nat.le_of_ble_eq_true rfl⟩) hP hS (fun x17 H locs e17 hP hS => ?_)
    have e17 : x17 = (nI (6 + 9 * g)) := Eq.trans e17 (congrArg nI (by omega))
    subst e17
    refine lv_dup2_11 hx hb dX3_sips_71 rfl rfl ?_
    refine q_ld hx hb hK hP 1 0 rfl rfl (j := (6 + 9 * g)) (v := f16 (48 + g)) (by omega) (by omega) (rr_at (pm_g6 (by omega))) dX3_sips_72 ?_
    refine lv_iload_n hx hb dX3_sips_73 rfl (lv_at hl 0 rfl) ?_
    refine lv_iadd hx hb dX3_sips_74 ?_
    refine lv_topi (fun x18 e18 => ?_)
    refine q_stR hx hb hK hP hD hS 1 0 rfl rfl rfl (j := (6 + 9 * g)) (i := (48 + g)) (by omega) (by omega) (pm_g6 (by omega)) (fun g => wS o ps cI fs g) (fun _ => rfl) dX3_sips_75 (fun H locs f19 hf19 hP hD hS => ?_)
    refine lv_iload_n hx hb dX3_sips_76 rfl (lv_at hl 0 rfl) ?_
    have hE : f19 = g_drink f g := by
      subst hf19 e18 hf16 e15 e13
      simp only [g_drink, g_dr, ← q_swap, c3, ↓reduceIte]
    refine hret _ _ _ _ _ rfl ?_ (by rw [← hE]; exact hP 1 _ rfl) hS dX3_sips_77
    subst hf19 e18 hf16 e15 e13
    simp only [g_dr, ← q_swap, c3, ↓reduceIte]
set_option maxHeartbeats 4000000 in
set_option maxRecDepth 100000 in
theorem m3_brews (l : Launch) (D : va_G) (cI : ClassId) (o ps k : Nat) (fs : List Value) (f : Nat → Int32) (h1 : fs[1]? = some (.ref ps)) (hk : k < 3) (t : Int32) (hne : o ≠ ps) : q_I l yX3_brews wsX3_brews { frames := 1, cells := 0, slots := 0, locals := 21 } [.ref o, .int (nI k), .int t] (q_bp D (wS o ps cI fs f) [(cI, .int)]) (fun v => v = g_brew f k t (75 + k)) (fun H => va_at D vwCl (ps, .inl (cI, 138, .inl (rr (g_brew f k t)))) H) (fun q => q = ps) 0 0 := by
  refine q_goI (cc := cX3_brews) (maxL := 3) (ty := .int) (lv0 := [(0, .ref o), (1, .int (nI k)), (2, .int t)]) (by decide) rfl (Nat.le_of_ble_eq_true rfl) rfl ?_
  intro p e s m args below meth c Q ls hx hb hml hts hown hP hK hl hret
  have hi3 : ∀ w ∈ wsX30, w ∈ wsX3_brews := by decide +kernel
  have hfl7 := hts (.fieldLink RX3 7 "WhisperedPotsModel" "s" "[I") (by decide +kernel)
  have hS : va_S (fun q => q = ps) s.heap s.heap [] := va_S.rf
  have hD : va_D (fun _ => True) (wS o ps cI fs f) := q_dT hne
  refine lv_aload_n hx hb dX3_brews_0 rfl (lv_at hl 0 rfl) ?_
  refine va_get (D := D) (ci := 3) (v := .ref ps) (C := RX3) (T := TX3) (N := 15) hx hb hts hi3 hown hK hP 0 rfl rfl 1 (by decide) hfl7 (fun _ h9 => h9) h1 dX3_brews_1 ?_
  refine lv_iload_n hx hb dX3_brews_4 rfl (lv_at hl 1 rfl) ?_
  refine lv_iconst (v := nI 1) hx hb dX3_brews_5 (by decide) ?_
  refine q_ciR (va_runS (rm := { frames := 0, cells := 0, slots := 0, locals := 0 }) (As := [.int (nI k), .int (nI 1)]) (rest := [.ref ps]) ⟨hx, hb, hml, hown, hts⟩ (m3_ofPot l D k 1 (by omega) (by omega)) (va_cwS 2 hts gX3_brews_X3_ofPot rfl rfl rfl (by decide +kernel) ⟨Nat.le_of_ble_eq_true rfl, Nat.le_of_ble_eq_true rfl⟩) (q_pS (hP.sub [] rfl) (hK.sub [] rfl)) rfl rfl hl.1 rfl (lv_room (Nat.le_of_ble_eq_true rfl)) dX3_brews_6 ⟨Nat.le_of_ble_eq_true rfl, Nat.le_of_ble_eq_true rfl⟩) hP hS (fun x1 H locs e1 hP hS => ?_)
  have e1 : x1 = (nI (73 + 5 * k)) := Eq.trans e1 (congrArg nI (by omega))
  subst e1
  refine lv_dup2_11 hx hb dX3_brews_9 rfl rfl ?_
  refine q_ld hx hb hK hP 1 0 rfl rfl (j := (73 + 5 * k)) (v := f (75 + k)) (by omega) (by omega) (rr_at (pm_p1 (by omega))) dX3_brews_10 ?_
  refine lv_iload_n hx hb dX3_brews_11 rfl (lv_at hl 2 rfl) ?_
  refine lv_iadd hx hb dX3_brews_12 ?_
  refine lv_topi (fun x2 e2 => ?_)
  refine q_stR hx hb hK hP hD hS 1 0 rfl rfl rfl (j := (73 + 5 * k)) (i := (75 + k)) (by omega) (by omega) (pm_p1 (by omega)) (fun g => wS o ps cI fs g) (fun _ => rfl) dX3_brews_13 (fun H locs f3 hf3 hP hD hS => ?_)
  refine lv_aload_n hx hb dX3_brews_14 rfl (lv_at hl 0 rfl) ?_
  refine va_get (D := D) (ci := 3) (v := .ref ps) (C := RX3) (T := TX3) (N := 15) hx hb hts hi3 hown hK hP 0 rfl rfl 1 (by decide) hfl7 (fun _ h9 => h9) h1 dX3_brews_15 ?_
  refine lv_iload_n hx hb dX3_brews_18 rfl (lv_at hl 1 rfl) ?_
  refine lv_iconst (v := nI 3) hx hb dX3_brews_19 (by decide) ?_
  refine q_ciR (va_runS (rm := { frames := 0, cells := 0, slots := 0, locals := 0 }) (As := [.int (nI k), .int (nI 3)]) (rest := [.ref ps]) ⟨hx, hb, hml, hown, hts⟩ (m3_ofPot l D k 3 (by omega) (by omega)) (va_cwS 2 hts gX3_brews_X3_ofPot rfl rfl rfl (by decide +kernel) ⟨Nat.le_of_ble_eq_true rfl, Nat.le_of_ble_eq_true rfl⟩) (q_pS (hP.sub [] rfl) (hK.sub [] rfl)) rfl rfl hl.1 rfl (lv_room (Nat.le_of_ble_eq_true rfl)) dX3_brews_20 ⟨Nat.le_of_ble_eq_true rfl, Nat.le_of_ble_eq_true rfl⟩) hP hS (fun x4 H locs e4 hP hS => ?_)
  have e4 : x4 = (nI (75 + 5 * k)) := Eq.trans e4 (congrArg nI (by omega))
  subst e4
  refine lv_dup2_11 hx hb dX3_brews_23 rfl rfl ?_
  refine q_ld hx hb hK hP 1 0 rfl rfl (j := (75 + 5 * k)) (v := f3 (81 + k)) (by omega) (by omega) (rr_at (pm_p3 (by omega))) dX3_brews_24 ?_
  refine lv_iload_n hx hb dX3_brews_25 rfl (lv_at hl 2 rfl) ?_
  refine lv_iadd hx hb dX3_brews_26 ?_
  refine lv_topi (fun x5 e5 => ?_)
  refine q_stR hx hb hK hP hD hS 1 0 rfl rfl rfl (j := (75 + 5 * k)) (i := (81 + k)) (by omega) (by omega) (pm_p3 (by omega)) (fun g => wS o ps cI fs g) (fun _ => rfl) dX3_brews_27 (fun H locs f6 hf6 hP hD hS => ?_)
  refine lv_aload_n hx hb dX3_brews_28 rfl (lv_at hl 0 rfl) ?_
  refine va_get (D := D) (ci := 3) (v := .ref ps) (C := RX3) (T := TX3) (N := 15) hx hb hts hi3 hown hK hP 0 rfl rfl 1 (by decide) hfl7 (fun _ h9 => h9) h1 dX3_brews_29 ?_
  refine lv_iload_n hx hb dX3_brews_32 rfl (lv_at hl 1 rfl) ?_
  refine lv_iconst (v := nI 1) hx hb dX3_brews_33 (by decide) ?_
  refine q_ciR (va_runS (rm := { frames := 0, cells := 0, slots := 0, locals := 0 }) (As := [.int (nI k), .int (nI 1)]) (rest := [.ref ps]) ⟨hx, hb, hml, hown, hts⟩ (m3_ofPot l D k 1 (by omega) (by omega)) (va_cwS 2 hts gX3_brews_X3_ofPot rfl rfl rfl (by decide +kernel) ⟨Nat.le_of_ble_eq_true rfl, Nat.le_of_ble_eq_true rfl⟩) (q_pS (hP.sub [] rfl) (hK.sub [] rfl)) rfl rfl hl.1 rfl (lv_room (Nat.le_of_ble_eq_true rfl)) dX3_brews_34 ⟨Nat.le_of_ble_eq_true rfl, Nat.le_of_ble_eq_true rfl⟩) hP hS (fun x7 H locs e7 hP hS => ?_)
  have e7 : x7 = (nI (73 + 5 * k)) := Eq.trans e7 (congrArg nI (by omega))
  subst e7
  refine q_ld hx hb hK hP 1 0 rfl rfl (j := (73 + 5 * k)) (v := f6 (75 + k)) (by omega) (by omega) (rr_at (pm_p1 (by omega))) dX3_brews_37 ?_
  have hE : f6 = g_brew f k t := by
    subst hf6 e5 hf3 e2
    rfl
  refine hret _ _ _ _ _ rfl ?_ (by rw [← hE]; exact hP 1 _ rfl) hS dX3_brews_38
  subst hf6 e5 hf3 e2
  rfl
set_option maxHeartbeats 4000000 in
set_option maxRecDepth 100000 in
theorem m3_teaInPots (l : Launch) (D : va_G) (cI : ClassId) (o ps : Nat) (fs : List Value) (f : Nat → Int32) (h1 : fs[1]? = some (.ref ps)) : q_I l yX3_teaInPots wsX3_teaInPots { frames := 1, cells := 0, slots := 0, locals := 21 } [.ref o] (q_bp D (wS o ps cI fs f) [(cI, .int)]) (fun v => v = g_sm f 75 3) (fun H => True) (fun _ => False) 0 0 := by
  refine q_goI (cc := cX3_teaInPots) (maxL := 1) (ty := .int) (lv0 := [(0, .ref o)]) (by decide) rfl (Nat.le_of_ble_eq_true rfl) rfl ?_
  intro p e s m args below meth c Q ls hx hb hml hts hown hP hK hl hret
  have hi3 : ∀ w ∈ wsX30, w ∈ wsX3_teaInPots := by decide +kernel
  have hfl7 := hts (.fieldLink RX3 7 "WhisperedPotsModel" "s" "[I") (by decide +kernel)
  have hS : va_S (fun _ => False) s.heap s.heap [] := va_S.rf
  refine lv_aload_n hx hb dX3_teaInPots_0 rfl (lv_at hl 0 rfl) ?_
  refine va_get (D := D) (ci := 3) (v := .ref ps) (C := RX3) (T := TX3) (N := 15) hx hb hts hi3 hown hK hP 0 rfl rfl 1 (by decide) hfl7 (fun _ h9 => h9) h1 dX3_teaInPots_1 ?_
  refine lv_iconst (v := nI 0) hx hb dX3_teaInPots_4 (by decide) ?_
  refine lv_iconst (v := nI 1) hx hb dX3_teaInPots_5 (by decide) ?_
  refine q_ciR (va_runS (rm := { frames := 0, cells := 0, slots := 0, locals := 0 }) (As := [.int (nI 0), .int (nI 1)]) (rest := [.ref ps]) ⟨hx, hb, hml, hown, hts⟩ (m3_ofPot l D 0 1 (by omega) (by omega)) (va_cwS 2 hts gX3_teaInPots_X3_ofPot rfl rfl rfl (by decide +kernel) ⟨Nat.le_of_ble_eq_true rfl, Nat.le_of_ble_eq_true rfl⟩) (q_pS (hP.sub [] rfl) (hK.sub [] rfl)) rfl rfl hl.1 rfl (lv_room (Nat.le_of_ble_eq_true rfl)) dX3_teaInPots_6 ⟨Nat.le_of_ble_eq_true rfl, Nat.le_of_ble_eq_true rfl⟩) hP hS (fun x1 H locs e1 hP hS => ?_)
  have e1 : x1 = (nI 73) := Eq.trans e1 (congrArg nI (by omega))
  subst e1
  refine q_ld hx hb hK hP 1 0 rfl rfl (j := 73) (v := f 75) (by omega) (by omega) (rr_at (by decide)) dX3_teaInPots_9 ?_
  refine lv_aload_n hx hb dX3_teaInPots_10 rfl (lv_at hl 0 rfl) ?_
  refine va_get (D := D) (ci := 3) (v := .ref ps) (C := RX3) (T := TX3) (N := 15) hx hb hts hi3 hown hK hP 0 rfl rfl 1 (by decide) hfl7 (fun _ h9 => h9) h1 dX3_teaInPots_11 ?_
  refine lv_iconst (v := nI 1) hx hb dX3_teaInPots_14 (by decide) ?_
  refine lv_iconst (v := nI 1) hx hb dX3_teaInPots_15 (by decide) ?_
  refine q_ciR (va_runS (rm := { frames := 0, cells := 0, slots := 0, locals := 0 }) (As := [.int (nI 1), .int (nI 1)]) (rest := [.ref ps, .int (f 75)]) ⟨hx, hb, hml, hown, hts⟩ (m3_ofPot l D 1 1 (by omega) (by omega)) (va_cwS 2 hts gX3_teaInPots_X3_ofPot rfl rfl rfl (by decide +kernel) ⟨Nat.le_of_ble_eq_true rfl, Nat.le_of_ble_eq_true rfl⟩) (q_pS (hP.sub [] rfl) (hK.sub [] rfl)) rfl rfl hl.1 rfl (lv_room (Nat.le_of_ble_eq_true rfl)) dX3_teaInPots_16 ⟨Nat.le_of_ble_eq_true rfl, Nat.le_of_ble_eq_true rfl⟩) hP hS (fun x2 H locs e2 hP hS => ?_)
  have e2 : x2 = (nI 78) := Eq.trans e2 (congrArg nI (by omega))
  subst e2
  refine q_ld hx hb hK hP 1 0 rfl rfl (j := 78) (v := f 76) (by omega) (by omega) (rr_at (by decide)) dX3_teaInPots_19 ?_
  refine lv_iadd hx hb dX3_teaInPots_20 ?_
  refine lv_aload_n hx hb dX3_teaInPots_21 rfl (lv_at hl 0 rfl) ?_
  refine va_get (D := D) (ci := 3) (v := .ref ps) (C := RX3) (T := TX3) (N := 15) hx hb hts hi3 hown hK hP 0 rfl rfl 1 (by decide) hfl7 (fun _ h9 => h9) h1 dX3_teaInPots_22 ?_
  refine lv_iconst (v := nI 2) hx hb dX3_teaInPots_25 (by decide) ?_
  refine lv_iconst (v := nI 1) hx hb dX3_teaInPots_26 (by decide) ?_
  refine q_ciR (va_runS (rm := { frames := 0, cells := 0, slots := 0, locals := 0 }) (As := [.int (nI 2), .int (nI 1)]) (rest := [.ref ps, .int ((f 75) + (f 76))]) ⟨hx, hb, hml, hown, hts⟩ (m3_ofPot l D 2 1 (by omega) (by omega)) (va_cwS 2 hts gX3_teaInPots_X3_ofPot rfl rfl rfl (by decide +kernel) ⟨Nat.le_of_ble_eq_true rfl, Nat.le_of_ble_eq_true rfl⟩) (q_pS (hP.sub [] rfl) (hK.sub [] rfl)) rfl rfl hl.1 rfl (lv_room (Nat.le_of_ble_eq_true rfl)) dX3_teaInPots_27 ⟨Nat.le_of_ble_eq_true rfl, Nat.le_of_ble_eq_true rfl⟩) hP hS (fun x3 H locs e3 hP hS => ?_)
  have e3 : x3 = (nI 83) := Eq.trans e3 (congrArg nI (by omega))
  subst e3
  refine q_ld hx hb hK hP 1 0 rfl rfl (j := 83) (v := f 77) (by omega) (by omega) (rr_at (by decide)) dX3_teaInPots_30 ?_
  refine lv_iadd hx hb dX3_teaInPots_31 ?_
  refine hret _ _ _ _ _ rfl ?_ trivial hS dX3_teaInPots_32
  rw [g_sm3]
set_option maxHeartbeats 4000000 in
set_option maxRecDepth 100000 in
theorem m3_sumOfPots (l : Launch) (D : va_G) (cI : ClassId) (o ps w : Nat) (fs : List Value) (f : Nat → Int32) (h1 : fs[1]? = some (.ref ps)) (hw : w < 5) : q_I l yX3_sumOfPots wsX3_sumOfPots { frames := 1, cells := 0, slots := 0, locals := 21 } [.ref o, .int (nI w)] (q_bp D (wS o ps cI fs f) [(cI, .int)]) (fun v => v = f (72 + 3 * w) + f (73 + 3 * w) + f (74 + 3 * w)) (fun H => True) (fun _ => False) 0 0 := by
  refine q_goI (cc := cX3_sumOfPots) (maxL := 2) (ty := .int) (lv0 := [(0, .ref o), (1, .int (nI w))]) (by decide) rfl (Nat.le_of_ble_eq_true rfl) rfl ?_
  intro p e s m args below meth c Q ls hx hb hml hts hown hP hK hl hret
  have hi3 : ∀ w ∈ wsX30, w ∈ wsX3_sumOfPots := by decide +kernel
  have hfl7 := hts (.fieldLink RX3 7 "WhisperedPotsModel" "s" "[I") (by decide +kernel)
  have hS : va_S (fun _ => False) s.heap s.heap [] := va_S.rf
  refine lv_aload_n hx hb dX3_sumOfPots_0 rfl (lv_at hl 0 rfl) ?_
  refine va_get (D := D) (ci := 3) (v := .ref ps) (C := RX3) (T := TX3) (N := 15) hx hb hts hi3 hown hK hP 0 rfl rfl 1 (by decide) hfl7 (fun _ h9 => h9) h1 dX3_sumOfPots_1 ?_
  refine lv_iconst (v := nI 0) hx hb dX3_sumOfPots_4 (by decide) ?_
  refine lv_iload_n hx hb dX3_sumOfPots_5 rfl (lv_at hl 1 rfl) ?_
  refine q_ciR (va_runS (rm := { frames := 0, cells := 0, slots := 0, locals := 0 }) (As := [.int (nI 0), .int (nI w)]) (rest := [.ref ps]) ⟨hx, hb, hml, hown, hts⟩ (m3_ofPot l D 0 w (by omega) (by omega)) (va_cwS 2 hts gX3_sumOfPots_X3_ofPot rfl rfl rfl (by decide +kernel) ⟨Nat.le_of_ble_eq_true rfl, Nat.le_of_ble_eq_true rfl⟩) (q_pS (hP.sub [] rfl) (hK.sub [] rfl)) rfl rfl hl.1 rfl (lv_room (Nat.le_of_ble_eq_true rfl)) dX3_sumOfPots_6 ⟨Nat.le_of_ble_eq_true rfl, Nat.le_of_ble_eq_true rfl⟩) hP hS (fun x1 H locs e1 hP hS => ?_)
  have e1 : x1 = (nI (72 + w)) := Eq.trans e1 (congrArg nI (by omega))
  subst e1
  refine q_ld hx hb hK hP 1 0 rfl rfl (j := (72 + w)) (v := f (72 + 3 * w)) (by omega) (by omega) (rr_at (pm_q0 hw)) dX3_sumOfPots_9 ?_
  refine lv_aload_n hx hb dX3_sumOfPots_10 rfl (lv_at hl 0 rfl) ?_
  refine va_get (D := D) (ci := 3) (v := .ref ps) (C := RX3) (T := TX3) (N := 15) hx hb hts hi3 hown hK hP 0 rfl rfl 1 (by decide) hfl7 (fun _ h9 => h9) h1 dX3_sumOfPots_11 ?_
  refine lv_iconst (v := nI 1) hx hb dX3_sumOfPots_14 (by decide) ?_
  refine lv_iload_n hx hb dX3_sumOfPots_15 rfl (lv_at hl 1 rfl) ?_
  refine q_ciR (va_runS (rm := { frames := 0, cells := 0, slots := 0, locals := 0 }) (As := [.int (nI 1), .int (nI w)]) (rest := [.ref ps, .int (f (72 + 3 * w))]) ⟨hx, hb, hml, hown, hts⟩ (m3_ofPot l D 1 w (by omega) (by omega)) (va_cwS 2 hts gX3_sumOfPots_X3_ofPot rfl rfl rfl (by decide +kernel) ⟨Nat.le_of_ble_eq_true rfl, Nat.le_of_ble_eq_true rfl⟩) (q_pS (hP.sub [] rfl) (hK.sub [] rfl)) rfl rfl hl.1 rfl (lv_room (Nat.le_of_ble_eq_true rfl)) dX3_sumOfPots_16 ⟨Nat.le_of_ble_eq_true rfl, Nat.le_of_ble_eq_true rfl⟩) hP hS (fun x2 H locs e2 hP hS => ?_)
  have e2 : x2 = (nI (77 + w)) := Eq.trans e2 (congrArg nI (by omega))
  subst e2
  refine q_ld hx hb hK hP 1 0 rfl rfl (j := (77 + w)) (v := f (73 + 3 * w)) (by omega) (by omega) (rr_at (pm_q1 hw)) dX3_sumOfPots_19 ?_
  refine lv_iadd hx hb dX3_sumOfPots_20 ?_
  refine lv_aload_n hx hb dX3_sumOfPots_21 rfl (lv_at hl 0 rfl) ?_
  refine va_get (D := D) (ci := 3) (v := .ref ps) (C := RX3) (T := TX3) (N := 15) hx hb hts hi3 hown hK hP 0 rfl rfl 1 (by decide) hfl7 (fun _ h9 => h9) h1 dX3_sumOfPots_22 ?_
  refine lv_iconst (v := nI 2) hx hb dX3_sumOfPots_25 (by decide) ?_
  refine lv_iload_n hx hb dX3_sumOfPots_26 rfl (lv_at hl 1 rfl) ?_
  refine q_ciR (va_runS (rm := { frames := 0, cells := 0, slots := 0, locals := 0 }) (As := [.int (nI 2), .int (nI w)]) (rest := [.ref ps, .int ((f (72 + 3 * w)) + (f (73 + 3 * w)))]) ⟨hx, hb, hml, hown, hts⟩ (m3_ofPot l D 2 w (by omega) (by omega)) (va_cwS 2 hts gX3_sumOfPots_X3_ofPot rfl rfl rfl (by decide +kernel) ⟨Nat.le_of_ble_eq_true rfl, Nat.le_of_ble_eq_true rfl⟩) (q_pS (hP.sub [] rfl) (hK.sub [] rfl)) rfl rfl hl.1 rfl (lv_room (Nat.le_of_ble_eq_true rfl)) dX3_sumOfPots_27 ⟨Nat.le_of_ble_eq_true rfl, Nat.le_of_ble_eq_true rfl⟩) hP hS (fun x3 H locs e3 hP hS => ?_)
  have e3 : x3 = (nI (82 + w)) := Eq.trans e3 (congrArg nI (by omega))
  subst e3
  refine q_ld hx hb hK hP 1 0 rfl rfl (j := (82 + w)) (v := f (74 + 3 * w)) (by omega) (by omega) (rr_at (pm_q2 hw)) dX3_sumOfPots_30 ?_
  refine lv_iadd hx hb dX3_sumOfPots_31 ?_
  refine hret _ _ _ _ _ rfl ?_ trivial hS dX3_sumOfPots_32
  rfl
set_option maxHeartbeats 4000000 in
set_option maxRecDepth 100000 in
theorem m3_potsWith (l : Launch) (D : va_G) (cI : ClassId) (o ps g : Nat) (fs : List Value) (f : Nat → Int32) (h1 : fs[1]? = some (.ref ps)) (hg : g < 8) (B : Nat) (hI : Inv B f) : q_I l yX3_potsWith wsX3_potsWith { frames := 2, cells := 0, slots := 0, locals := 42 } [.ref o, .int (nI g)] (q_bp D (wS o ps cI fs f) [(cI, .int)]) (fun v => v = g_mk f g 3) (fun H => True) (fun _ => False) 0 0 := by
  refine q_goI (cc := cX3_potsWith) (maxL := 4) (ty := .int) (lv0 := [(0, .ref o), (1, .int (nI g))]) (by decide) rfl (Nat.le_of_ble_eq_true rfl) rfl ?_
  intro p e s m args below meth c Q ls hx hb hml hts hown hP hK hl hret
  have hS : va_S (fun _ => False) s.heap s.heap [] := va_S.rf
  refine lv_iconst (v := nI 0) hx hb dX3_potsWith_0 (by decide) ?_
  refine lv_istore_n (lv' := [(2, .int (nI 0)), (0, .ref o), (1, .int (nI g))]) hx hb dX3_potsWith_1 rfl hl (by decide) rfl (fun ls hl => ?_)
  refine lv_iconst (v := nI 0) hx hb dX3_potsWith_2 (by decide) ?_
  refine lv_istore_n (lv' := [(3, .int (nI 0)), (2, .int (nI 0)), (0, .ref o), (1, .int (nI g))]) hx hb dX3_potsWith_3 rfl hl (by decide) rfl (fun ls hl => ?_)
  have LP : ∀ (n i : Nat)  (H : Heap) (locs : List Loc) (ls : Array Slot), i + n = 3 → va_P D vwCl (wS o ps cI fs f) H → va_S (fun _ => False) s.heap H locs → lv_has ls 4 [(3, .int (nI i)), (2, .int (g_mk f g i)), (0, .ref o), (1, .int (nI g))] → W p l e { frames := 2, cells := 0, slots := 0, locals := 42 } s m args below meth c H locs 0 0 Q (F0 m 4 ls []) := by
    intro n
    induction n with
    | zero =>
      intro i  H locs ls hi  hP hS hl
      obtain rfl : 3 = i := by omega
      refine lv_iload_n hx hb dX3_potsWith_4 rfl (lv_at hl 0 rfl) ?_
      refine lv_iconst (v := nI 3) hx hb dX3_potsWith_5 (by decide) ?_
      refine q_geN (tgt := 34) hx hb (by omega) (by omega) dX3_potsWith_6 (by decide) (fun c1 => ?_) (fun c1 => absurd c1 (by omega))
      refine lv_iload_n hx hb dX3_potsWith_34 rfl (lv_at hl 1 rfl) ?_
      refine hret _ _ _ _ _ rfl ?_ trivial hS dX3_potsWith_35
      rfl
    | succ n ih =>
      intro i  H locs ls hi  hP hS hl
      refine lv_iload_n hx hb dX3_potsWith_4 rfl (lv_at hl 0 rfl) ?_
      refine lv_iconst (v := nI 3) hx hb dX3_potsWith_5 (by decide) ?_
      refine q_geN (tgt := 34) hx hb (by omega) (by omega) dX3_potsWith_6 (by decide) (fun c2 => absurd c2 (by omega)) (fun c2 => ?_)
      refine lv_iload_n hx hb dX3_potsWith_9 rfl (lv_at hl 1 rfl) ?_
      refine lv_aload_n hx hb dX3_potsWith_10 rfl (lv_at hl 2 rfl) ?_
      refine lv_iload_n hx hb dX3_potsWith_11 rfl (lv_at hl 0 rfl) ?_
      refine q_ciR (va_runV (rm := { frames := 1, cells := 0, slots := 0, locals := 21 }) (As := [.int (nI i)]) (rest := [.int (g_mk f g i)]) ⟨hx, hb, hml, hown, hts⟩ (m3_with l D cI o ps i fs f h1 B hI (by omega)) (cwV 1 hts gX3_potsWith_X3_with rfl rfl rfl (by decide +kernel) ⟨Nat.le_of_ble_eq_true rfl, Nat.le_of_ble_eq_true rfl⟩) (q_pV (ci := 3) (q0 := 0) hP hK rfl rfl) rfl rfl hl.1 rfl (lv_room (Nat.le_of_ble_eq_true rfl)) dX3_potsWith_12 ⟨Nat.le_of_ble_eq_true rfl, Nat.le_of_ble_eq_true rfl⟩) hP hS (fun x3 H locs e3 hP hS => ?_)
      have e3 : x3 = (nI ((hN f i))) := Eq.trans e3 (congrArg nI (by omega))
      subst e3
      refine lv_iload_n hx hb dX3_potsWith_15 rfl (lv_at hl 3 rfl) ?_
      have h8i := hI.hN8 (k := i) (by omega)
      refine q_neN (tgt := 25) hx hb (by omega) (by omega) dX3_potsWith_16 (by decide) (fun c4 => ?_) (fun c4 => ?_)
      ·
        refine lv_iconst (v := nI 0) hx hb dX3_potsWith_25 (by decide) ?_
        refine lv_ior hx hb dX3_potsWith_26 ?_
        refine lv_topi (fun x5 e5 => ?_)
        refine lv_istore_n (lv' := [(2, .int x5), (3, .int (nI i)), (0, .ref o), (1, .int (nI g))]) hx hb dX3_potsWith_27 rfl hl (by decide) rfl (fun ls hl => ?_)
        refine lv_iinc (v := (nI (i + 1))) (lv' := [(3, .int (nI (i + 1))), (2, .int x5), (0, .ref o), (1, .int (nI g))]) hx hb dX3_potsWith_28 hl (k := 1) rfl (q_inc i 1 (i + 1) (by omega)) (by decide) rfl (fun ls hl => ?_)
        refine lv_goto (tgt := 4) hx hb dX3_potsWith_31 (by decide) ?_
        have hq6 : x5 = (g_mk f g (i + 1)) := by
          subst e5
          have ho := (hI.ok1 (k := i) (by omega)).1
          show _ = (if f (72 + i) = nI g then _ else _)
          rw [if_neg (fun z => c4 ((nI_eq (by have := (hI.ok1 (k := i) (by omega)).2; omega) (by omega)).mp (ho.symm.trans z))), nI_0, Int32.or_zero]
        rw [hq6] at hl
        exact ih (i + 1) _ _ _ (by omega) hP hS (lv_sub hl [0, 1, 2, 3] rfl)
      ·
        refine lv_iconst (v := nI 1) hx hb dX3_potsWith_19 (by decide) ?_
        refine lv_iload_n hx hb dX3_potsWith_20 rfl (lv_at hl 0 rfl) ?_
        refine lv_ishl hx hb dX3_potsWith_21 ?_
        refine lv_goto (tgt := 26) hx hb dX3_potsWith_22 (by decide) ?_
        refine lv_ior hx hb dX3_potsWith_26 ?_
        refine lv_topi (fun x7 e7 => ?_)
        refine lv_istore_n (lv' := [(2, .int x7), (3, .int (nI i)), (0, .ref o), (1, .int (nI g))]) hx hb dX3_potsWith_27 rfl hl (by decide) rfl (fun ls hl => ?_)
        refine lv_iinc (v := (nI (i + 1))) (lv' := [(3, .int (nI (i + 1))), (2, .int x7), (0, .ref o), (1, .int (nI g))]) hx hb dX3_potsWith_28 hl (k := 1) rfl (q_inc i 1 (i + 1) (by omega)) (by decide) rfl (fun ls hl => ?_)
        refine lv_goto (tgt := 4) hx hb dX3_potsWith_31 (by decide) ?_
        have hq8 : x7 = (g_mk f g (i + 1)) := by
          subst e7
          have ho := (hI.ok1 (k := i) (by omega)).1
          show _ = (if f (72 + i) = nI g then _ else _)
          rw [if_pos (by rw [ho, c4])]
        rw [hq8] at hl
        exact ih (i + 1) _ _ _ (by omega) hP hS (lv_sub hl [0, 1, 2, 3] rfl)
  exact LP 3 0  _ _ _ (by omega)  hP hS (lv_sub hl [0, 1, 2, 3] rfl)
set_option maxHeartbeats 4000000 in
set_option maxRecDepth 100000 in
theorem m3_sumOf (l : Launch) (D : va_G) (cI : ClassId) (o ps w : Nat) (fs : List Value) (f : Nat → Int32) (h1 : fs[1]? = some (.ref ps)) (hw : w < 9) : q_I l yX3_sumOf wsX3_sumOf { frames := 1, cells := 0, slots := 0, locals := 21 } [.ref o, .int (nI w)] (q_bp D (wS o ps cI fs f) [(cI, .int)]) (fun v => v = g_sm f (8 * w) 8) (fun H => True) (fun _ => False) 0 0 := by
  refine q_goI (cc := cX3_sumOf) (maxL := 4) (ty := .int) (lv0 := [(0, .ref o), (1, .int (nI w))]) (by decide) rfl (Nat.le_of_ble_eq_true rfl) rfl ?_
  intro p e s m args below meth c Q ls hx hb hml hts hown hP hK hl hret
  have hi3 : ∀ w ∈ wsX30, w ∈ wsX3_sumOf := by decide +kernel
  have hfl7 := hts (.fieldLink RX3 7 "WhisperedPotsModel" "s" "[I") (by decide +kernel)
  have hS : va_S (fun _ => False) s.heap s.heap [] := va_S.rf
  refine lv_iconst (v := nI 0) hx hb dX3_sumOf_0 (by decide) ?_
  refine lv_istore_n (lv' := [(2, .int (nI 0)), (0, .ref o), (1, .int (nI w))]) hx hb dX3_sumOf_1 rfl hl (by decide) rfl (fun ls hl => ?_)
  refine lv_iconst (v := nI 0) hx hb dX3_sumOf_2 (by decide) ?_
  refine lv_istore_n (lv' := [(3, .int (nI 0)), (2, .int (nI 0)), (0, .ref o), (1, .int (nI w))]) hx hb dX3_sumOf_3 rfl hl (by decide) rfl (fun ls hl => ?_)
  have LP : ∀ (n i : Nat)  (H : Heap) (locs : List Loc) (ls : Array Slot), i + n = 8 → va_P D vwCl (wS o ps cI fs f) H → va_S (fun _ => False) s.heap H locs → lv_has ls 4 [(3, .int (nI i)), (2, .int (g_sm f (8 * w) i)), (0, .ref o), (1, .int (nI w))] → W p l e { frames := 1, cells := 0, slots := 0, locals := 21 } s m args below meth c H locs 0 0 Q (F0 m 4 ls []) := by
    intro n
    induction n with
    | zero =>
      intro i  H locs ls hi  hP hS hl
      obtain rfl : 8 = i := by omega
      refine lv_iload_n hx hb dX3_sumOf_4 rfl (lv_at hl 0 rfl) ?_
      refine lv_bipush (v := nI 8) hx hb dX3_sumOf_5 (by decide) ?_
      refine q_geN (tgt := 29) hx hb (by omega) (by omega) dX3_sumOf_7 (by decide) (fun c1 => ?_) (fun c1 => absurd c1 (by omega))
      refine lv_iload_n hx hb dX3_sumOf_29 rfl (lv_at hl 1 rfl) ?_
      refine hret _ _ _ _ _ rfl ?_ trivial hS dX3_sumOf_30
      rfl
    | succ n ih =>
      intro i  H locs ls hi  hP hS hl
      refine lv_iload_n hx hb dX3_sumOf_4 rfl (lv_at hl 0 rfl) ?_
      refine lv_bipush (v := nI 8) hx hb dX3_sumOf_5 (by decide) ?_
      refine q_geN (tgt := 29) hx hb (by omega) (by omega) dX3_sumOf_7 (by decide) (fun c2 => absurd c2 (by omega)) (fun c2 => ?_)
      refine lv_iload_n hx hb dX3_sumOf_10 rfl (lv_at hl 1 rfl) ?_
      refine lv_aload_n hx hb dX3_sumOf_11 rfl (lv_at hl 2 rfl) ?_
      refine va_get (D := D) (ci := 3) (v := .ref ps) (C := RX3) (T := TX3) (N := 15) hx hb hts hi3 hown hK hP 0 rfl rfl 1 (by decide) hfl7 (fun _ h9 => h9) h1 dX3_sumOf_12 ?_
      refine lv_iload_n hx hb dX3_sumOf_15 rfl (lv_at hl 0 rfl) ?_
      refine lv_iload_n hx hb dX3_sumOf_16 rfl (lv_at hl 3 rfl) ?_
      refine q_ciR (va_runS (rm := { frames := 0, cells := 0, slots := 0, locals := 0 }) (As := [.int (nI i), .int (nI w)]) (rest := [.ref ps, .int (g_sm f (8 * w) i)]) ⟨hx, hb, hml, hown, hts⟩ (m3_of l D i w (by omega) (by omega)) (va_cwS 2 hts gX3_sumOf_X3_of rfl rfl rfl (by decide +kernel) ⟨Nat.le_of_ble_eq_true rfl, Nat.le_of_ble_eq_true rfl⟩) (q_pS (hP.sub [] rfl) (hK.sub [] rfl)) rfl rfl hl.1 rfl (lv_room (Nat.le_of_ble_eq_true rfl)) dX3_sumOf_17 ⟨Nat.le_of_ble_eq_true rfl, Nat.le_of_ble_eq_true rfl⟩) hP hS (fun x3 H locs e3 hP hS => ?_)
      have e3 : x3 = (nI (9 * i + w)) := Eq.trans e3 (congrArg nI (by omega))
      subst e3
      refine q_ld hx hb hK hP 1 0 rfl rfl (j := (9 * i + w)) (v := f (8 * w + i)) (by omega) (by omega) (rr_at (pm_gw (by omega) hw)) dX3_sumOf_20 ?_
      refine lv_iadd hx hb dX3_sumOf_21 ?_
      refine lv_topi (fun x4 e4 => ?_)
      refine lv_istore_n (lv' := [(2, .int x4), (3, .int (nI i)), (0, .ref o), (1, .int (nI w))]) hx hb dX3_sumOf_22 rfl hl (by decide) rfl (fun ls hl => ?_)
      refine lv_iinc (v := (nI (i + 1))) (lv' := [(3, .int (nI (i + 1))), (2, .int x4), (0, .ref o), (1, .int (nI w))]) hx hb dX3_sumOf_23 hl (k := 1) rfl (q_inc i 1 (i + 1) (by omega)) (by decide) rfl (fun ls hl => ?_)
      refine lv_goto (tgt := 4) hx hb dX3_sumOf_26 (by decide) ?_
      have hq5 : x4 = (g_sm f (8 * w) (i + 1)) := by
        subst e4
        rfl
      rw [hq5] at hl
      exact ih (i + 1) _ _ _ (by omega) hP hS (lv_sub hl [0, 1, 2, 3] rfl)
  exact LP 8 0  _ _ _ (by omega)  hP hS (lv_sub hl [0, 1, 2, 3] rfl)
set_option maxHeartbeats 4000000 in
set_option maxRecDepth 100000 in
theorem m3_ofGuest (l : Launch) (D : va_G) (cI : ClassId) (o ps g w : Nat) (fs : List Value) (f : Nat → Int32) (h1 : fs[1]? = some (.ref ps)) (hg : g < 8) (B : Nat) (hI : Inv B f) (hw : w < 10) : q_I l yX3_ofGuest wsX3_ofGuest { frames := 3, cells := 0, slots := 0, locals := 65 } [.ref o, .int (nI g), .int (nI w)] (q_bp D (wS o ps cI fs f) [(cI, .int)]) (fun v => v = g_gu f g w) (fun H => True) (fun _ => False) 0 0 := by
  refine q_goI (cc := cX3_ofGuest) (maxL := 3) (ty := .int) (lv0 := [(0, .ref o), (1, .int (nI g)), (2, .int (nI w))]) (by decide) rfl (Nat.le_of_ble_eq_true rfl) rfl ?_
  intro p e s m args below meth c Q ls hx hb hml hts hown hP hK hl hret
  have hi3 : ∀ w ∈ wsX30, w ∈ wsX3_ofGuest := by decide +kernel
  have hfl7 := hts (.fieldLink RX3 7 "WhisperedPotsModel" "s" "[I") (by decide +kernel)
  have hS : va_S (fun _ => False) s.heap s.heap [] := va_S.rf
  refine lv_iload_n hx hb dX3_ofGuest_0 rfl (lv_at hl 2 rfl) ?_
  refine lv_bipush (v := nI 9) hx hb dX3_ofGuest_1 (by decide) ?_
  refine q_geN (tgt := 19) hx hb (by omega) (by omega) dX3_ofGuest_3 (by decide) (fun c1 => ?_) (fun c1 => ?_)
  ·
    refine lv_aload_n hx hb dX3_ofGuest_19 rfl (lv_at hl 0 rfl) ?_
    refine lv_iload_n hx hb dX3_ofGuest_20 rfl (lv_at hl 1 rfl) ?_
    refine q_ciR (va_runV (rm := { frames := 2, cells := 0, slots := 0, locals := 42 }) (As := [.int (nI g)]) (rest := []) ⟨hx, hb, hml, hown, hts⟩ (m3_potsWith l D cI o ps g fs f h1 hg B hI) (cwV 1 hts gX3_ofGuest_X3_potsWith rfl rfl rfl (by decide +kernel) ⟨Nat.le_of_ble_eq_true rfl, Nat.le_of_ble_eq_true rfl⟩) (q_pV (ci := 3) (q0 := 0) hP hK rfl rfl) rfl rfl hl.1 rfl (lv_room (Nat.le_of_ble_eq_true rfl)) dX3_ofGuest_21 ⟨Nat.le_of_ble_eq_true rfl, Nat.le_of_ble_eq_true rfl⟩) hP hS (fun x2 H locs e2 hP hS => ?_)
    have e2 : x2 = g_mk f g 3 := e2
    refine hret _ _ _ _ _ rfl ?_ trivial hS dX3_ofGuest_24
    subst e2
    unfold g_gu
    rw [if_neg (by omega)]
  ·
    refine lv_aload_n hx hb dX3_ofGuest_6 rfl (lv_at hl 0 rfl) ?_
    refine va_get (D := D) (ci := 3) (v := .ref ps) (C := RX3) (T := TX3) (N := 15) hx hb hts hi3 hown hK hP 0 rfl rfl 1 (by decide) hfl7 (fun _ h9 => h9) h1 dX3_ofGuest_7 ?_
    refine lv_iload_n hx hb dX3_ofGuest_10 rfl (lv_at hl 1 rfl) ?_
    refine lv_iload_n hx hb dX3_ofGuest_11 rfl (lv_at hl 2 rfl) ?_
    refine q_ciR (va_runS (rm := { frames := 0, cells := 0, slots := 0, locals := 0 }) (As := [.int (nI g), .int (nI w)]) (rest := [.ref ps]) ⟨hx, hb, hml, hown, hts⟩ (m3_of l D g w (by omega) (by omega)) (va_cwS 2 hts gX3_ofGuest_X3_of rfl rfl rfl (by decide +kernel) ⟨Nat.le_of_ble_eq_true rfl, Nat.le_of_ble_eq_true rfl⟩) (q_pS (hP.sub [] rfl) (hK.sub [] rfl)) rfl rfl hl.1 rfl (lv_room (Nat.le_of_ble_eq_true rfl)) dX3_ofGuest_12 ⟨Nat.le_of_ble_eq_true rfl, Nat.le_of_ble_eq_true rfl⟩) hP hS (fun x3 H locs e3 hP hS => ?_)
    have e3 : x3 = (nI (9 * g + w)) := Eq.trans e3 (congrArg nI (by omega))
    subst e3
    refine q_ld hx hb hK hP 1 0 rfl rfl (j := (9 * g + w)) (v := f (8 * w + g)) (by omega) (by omega) (rr_at (pm_gw (by omega) (by omega))) dX3_ofGuest_15 ?_
    refine lv_goto (tgt := 24) hx hb dX3_ofGuest_16 (by decide) ?_
    refine hret _ _ _ _ _ rfl ?_ trivial hS dX3_ofGuest_24
    unfold g_gu
    rw [if_pos (by omega)]
set_option maxHeartbeats 4000000 in
set_option maxRecDepth 100000 in
theorem m3_ofOne (l : Launch) (D : va_G) (cI : ClassId) (o ps k w : Nat) (fs : List Value) (f : Nat → Int32) (h1 : fs[1]? = some (.ref ps)) (B : Nat) (hI : Inv B f) (hk : k < 3) (hw : w < 8) : q_I l yX3_ofOne wsX3_ofOne { frames := 3, cells := 0, slots := 0, locals := 64 } [.ref o, .int (nI k), .int (nI w)] (q_bp D (wS o ps cI fs f) [(cI, .int)]) (fun v => v = g_po f k w) (fun H => True) (fun _ => False) 0 0 := by
  refine q_goI (cc := cX3_ofOne) (maxL := 3) (ty := .int) (lv0 := [(0, .ref o), (1, .int (nI k)), (2, .int (nI w))]) (by decide) rfl (Nat.le_of_ble_eq_true rfl) rfl ?_
  intro p e s m args below meth c Q ls hx hb hml hts hown hP hK hl hret
  have hi3 : ∀ w ∈ wsX30, w ∈ wsX3_ofOne := by decide +kernel
  have hfl7 := hts (.fieldLink RX3 7 "WhisperedPotsModel" "s" "[I") (by decide +kernel)
  have hS : va_S (fun _ => False) s.heap s.heap [] := va_S.rf
  refine lv_iload_n hx hb dX3_ofOne_0 rfl (lv_at hl 2 rfl) ?_
  have hw8 : w = 0 ∨ w = 1 ∨ w = 2 ∨ w = 3 ∨ w = 4 ∨ w = 5 ∨ w = 6 ∨ w = 7 := by omega
  rcases hw8 with rfl | rfl | rfl | rfl | rfl | rfl | rfl | rfl
  ·
    refine q_ts (tgt := 67) (off := 66) hx hb (by omega) dX3_ofOne_1 rfl rfl (by decide) ?_
    refine lv_aload_n hx hb dX3_ofOne_67 rfl (lv_at hl 0 rfl) ?_
    refine va_get (D := D) (ci := 3) (v := .ref ps) (C := RX3) (T := TX3) (N := 15) hx hb hts hi3 hown hK hP 0 rfl rfl 1 (by decide) hfl7 (fun _ h9 => h9) h1 dX3_ofOne_68 ?_
    refine lv_iload_n hx hb dX3_ofOne_71 rfl (lv_at hl 1 rfl) ?_
    refine lv_iload_n hx hb dX3_ofOne_72 rfl (lv_at hl 2 rfl) ?_
    refine q_ciR (va_runS (rm := { frames := 0, cells := 0, slots := 0, locals := 0 }) (As := [.int (nI k), .int (nI 0)]) (rest := [.ref ps]) ⟨hx, hb, hml, hown, hts⟩ (m3_ofPot l D k 0 (by omega) (by omega)) (va_cwS 2 hts gX3_ofOne_X3_ofPot rfl rfl rfl (by decide +kernel) ⟨Nat.le_of_ble_eq_true rfl, Nat.le_of_ble_eq_true rfl⟩) (q_pS (hP.sub [] rfl) (hK.sub [] rfl)) rfl rfl hl.1 rfl (lv_room (Nat.le_of_ble_eq_true rfl)) dX3_ofOne_73 ⟨Nat.le_of_ble_eq_true rfl, Nat.le_of_ble_eq_true rfl⟩) hP hS (fun x1 H locs e1 hP hS => ?_)
    have e1 : x1 = (nI (72 + 5 * k)) := Eq.trans e1 (congrArg nI (by omega))
    subst e1
    refine q_ld hx hb hK hP 1 0 rfl rfl (j := (72 + 5 * k)) (v := f (72 + k)) (by omega) (by omega) (rr_at (pm_p0 (by omega))) dX3_ofOne_76 ?_
    refine hret _ _ _ _ _ rfl ?_ trivial hS dX3_ofOne_77
    rfl
  ·
    refine q_ts (tgt := 67) (off := 66) hx hb (by omega) dX3_ofOne_1 rfl rfl (by decide) ?_
    refine lv_aload_n hx hb dX3_ofOne_67 rfl (lv_at hl 0 rfl) ?_
    refine va_get (D := D) (ci := 3) (v := .ref ps) (C := RX3) (T := TX3) (N := 15) hx hb hts hi3 hown hK hP 0 rfl rfl 1 (by decide) hfl7 (fun _ h9 => h9) h1 dX3_ofOne_68 ?_
    refine lv_iload_n hx hb dX3_ofOne_71 rfl (lv_at hl 1 rfl) ?_
    refine lv_iload_n hx hb dX3_ofOne_72 rfl (lv_at hl 2 rfl) ?_
    refine q_ciR (va_runS (rm := { frames := 0, cells := 0, slots := 0, locals := 0 }) (As := [.int (nI k), .int (nI 1)]) (rest := [.ref ps]) ⟨hx, hb, hml, hown, hts⟩ (m3_ofPot l D k 1 (by omega) (by omega)) (va_cwS 2 hts gX3_ofOne_X3_ofPot rfl rfl rfl (by decide +kernel) ⟨Nat.le_of_ble_eq_true rfl, Nat.le_of_ble_eq_true rfl⟩) (q_pS (hP.sub [] rfl) (hK.sub [] rfl)) rfl rfl hl.1 rfl (lv_room (Nat.le_of_ble_eq_true rfl)) dX3_ofOne_73 ⟨Nat.le_of_ble_eq_true rfl, Nat.le_of_ble_eq_true rfl⟩) hP hS (fun x2 H locs e2 hP hS => ?_)
    have e2 : x2 = (nI (73 + 5 * k)) := Eq.trans e2 (congrArg nI (by omega))
    subst e2
    refine q_ld hx hb hK hP 1 0 rfl rfl (j := (73 + 5 * k)) (v := f (75 + k)) (by omega) (by omega) (rr_at (pm_p1 (by omega))) dX3_ofOne_76 ?_
    refine hret _ _ _ _ _ rfl ?_ trivial hS dX3_ofOne_77
    rfl
  ·
    refine q_ts (tgt := 67) (off := 66) hx hb (by omega) dX3_ofOne_1 rfl rfl (by decide) ?_
    refine lv_aload_n hx hb dX3_ofOne_67 rfl (lv_at hl 0 rfl) ?_
    refine va_get (D := D) (ci := 3) (v := .ref ps) (C := RX3) (T := TX3) (N := 15) hx hb hts hi3 hown hK hP 0 rfl rfl 1 (by decide) hfl7 (fun _ h9 => h9) h1 dX3_ofOne_68 ?_
    refine lv_iload_n hx hb dX3_ofOne_71 rfl (lv_at hl 1 rfl) ?_
    refine lv_iload_n hx hb dX3_ofOne_72 rfl (lv_at hl 2 rfl) ?_
    refine q_ciR (va_runS (rm := { frames := 0, cells := 0, slots := 0, locals := 0 }) (As := [.int (nI k), .int (nI 2)]) (rest := [.ref ps]) ⟨hx, hb, hml, hown, hts⟩ (m3_ofPot l D k 2 (by omega) (by omega)) (va_cwS 2 hts gX3_ofOne_X3_ofPot rfl rfl rfl (by decide +kernel) ⟨Nat.le_of_ble_eq_true rfl, Nat.le_of_ble_eq_true rfl⟩) (q_pS (hP.sub [] rfl) (hK.sub [] rfl)) rfl rfl hl.1 rfl (lv_room (Nat.le_of_ble_eq_true rfl)) dX3_ofOne_73 ⟨Nat.le_of_ble_eq_true rfl, Nat.le_of_ble_eq_true rfl⟩) hP hS (fun x3 H locs e3 hP hS => ?_)
    have e3 : x3 = (nI (74 + 5 * k)) := Eq.trans e3 (congrArg nI (by omega))
    subst e3
    refine q_ld hx hb hK hP 1 0 rfl rfl (j := (74 + 5 * k)) (v := f (78 + k)) (by omega) (by omega) (rr_at (pm_p2 (by omega))) dX3_ofOne_76 ?_
    refine hret _ _ _ _ _ rfl ?_ trivial hS dX3_ofOne_77
    rfl
  ·
    refine q_ts (tgt := 36) (off := 35) hx hb (by omega) dX3_ofOne_1 rfl rfl (by decide) ?_
    refine lv_aload_n hx hb dX3_ofOne_36 rfl (lv_at hl 0 rfl) ?_
    refine lv_iload_n hx hb dX3_ofOne_37 rfl (lv_at hl 1 rfl) ?_
    refine q_ciR (va_runV (rm := { frames := 1, cells := 0, slots := 0, locals := 21 }) (As := [.int (nI k)]) (rest := []) ⟨hx, hb, hml, hown, hts⟩ (m3_weight l D cI o ps k fs f h1 hk) (cwV 1 hts gX3_ofOne_X3_weight rfl rfl rfl (by decide +kernel) ⟨Nat.le_of_ble_eq_true rfl, Nat.le_of_ble_eq_true rfl⟩) (q_pV (ci := 3) (q0 := 0) hP hK rfl rfl) rfl rfl hl.1 rfl (lv_room (Nat.le_of_ble_eq_true rfl)) dX3_ofOne_38 ⟨Nat.le_of_ble_eq_true rfl, Nat.le_of_ble_eq_true rfl⟩) hP hS (fun x4 H locs e4 hP hS => ?_)
    have e4 : x4 = g_wt f k := e4
    refine hret _ _ _ _ _ rfl ?_ trivial hS dX3_ofOne_41
    subst e4
    rfl
  ·
    refine q_ts (tgt := 42) (off := 41) hx hb (by omega) dX3_ofOne_1 rfl rfl (by decide) ?_
    refine lv_aload_n hx hb dX3_ofOne_42 rfl (lv_at hl 0 rfl) ?_
    refine lv_iload_n hx hb dX3_ofOne_43 rfl (lv_at hl 1 rfl) ?_
    refine q_ciR (va_runV (rm := { frames := 2, cells := 0, slots := 0, locals := 42 }) (As := [.int (nI k)]) (rest := []) ⟨hx, hb, hml, hown, hts⟩ (m3_guess l D cI o ps k fs f h1 B hI hk) (cwV 1 hts gX3_ofOne_X3_guess rfl rfl rfl (by decide +kernel) ⟨Nat.le_of_ble_eq_true rfl, Nat.le_of_ble_eq_true rfl⟩) (q_pV (ci := 3) (q0 := 0) hP hK rfl rfl) rfl rfl hl.1 rfl (lv_room (Nat.le_of_ble_eq_true rfl)) dX3_ofOne_44 ⟨Nat.le_of_ble_eq_true rfl, Nat.le_of_ble_eq_true rfl⟩) hP hS (fun x5 H locs e5 hP hS => ?_)
    have e5 : x5 = g_gs f k := e5
    refine hret _ _ _ _ _ rfl ?_ trivial hS dX3_ofOne_47
    subst e5
    rfl
  ·
    refine q_ts (tgt := 48) (off := 47) hx hb (by omega) dX3_ofOne_1 rfl rfl (by decide) ?_
    refine lv_aload_n hx hb dX3_ofOne_48 rfl (lv_at hl 0 rfl) ?_
    refine lv_iload_n hx hb dX3_ofOne_49 rfl (lv_at hl 1 rfl) ?_
    refine q_ciR (va_runV (rm := { frames := 2, cells := 0, slots := 0, locals := 42 }) (As := [.int (nI k)]) (rest := []) ⟨hx, hb, hml, hown, hts⟩ (m3_hindrance l D cI o ps k fs f h1 B hI hk) (cwV 1 hts gX3_ofOne_X3_hindrance rfl rfl rfl (by decide +kernel) ⟨Nat.le_of_ble_eq_true rfl, Nat.le_of_ble_eq_true rfl⟩) (q_pV (ci := 3) (q0 := 0) hP hK rfl rfl) rfl rfl hl.1 rfl (lv_room (Nat.le_of_ble_eq_true rfl)) dX3_ofOne_50 ⟨Nat.le_of_ble_eq_true rfl, Nat.le_of_ble_eq_true rfl⟩) hP hS (fun x6 H locs e6 hP hS => ?_)
    have e6 : x6 = g_wy f k := e6
    refine hret _ _ _ _ _ rfl ?_ trivial hS dX3_ofOne_53
    subst e6
    rfl
  ·
    refine q_ts (tgt := 54) (off := 53) hx hb (by omega) dX3_ofOne_1 rfl rfl (by decide) ?_
    refine lv_aload_n hx hb dX3_ofOne_54 rfl (lv_at hl 0 rfl) ?_
    refine va_get (D := D) (ci := 3) (v := .ref ps) (C := RX3) (T := TX3) (N := 15) hx hb hts hi3 hown hK hP 0 rfl rfl 1 (by decide) hfl7 (fun _ h9 => h9) h1 dX3_ofOne_55 ?_
    refine lv_iload_n hx hb dX3_ofOne_58 rfl (lv_at hl 1 rfl) ?_
    refine lv_iload_n hx hb dX3_ofOne_59 rfl (lv_at hl 2 rfl) ?_
    refine lv_iconst (v := nI 3) hx hb dX3_ofOne_60 (by decide) ?_
    refine q_subN hx hb 3 (by omega) dX3_ofOne_61 ?_
    refine q_ciR (va_runS (rm := { frames := 0, cells := 0, slots := 0, locals := 0 }) (As := [.int (nI k), .int (nI 3)]) (rest := [.ref ps]) ⟨hx, hb, hml, hown, hts⟩ (m3_ofPot l D k 3 (by omega) (by omega)) (va_cwS 2 hts gX3_ofOne_X3_ofPot rfl rfl rfl (by decide +kernel) ⟨Nat.le_of_ble_eq_true rfl, Nat.le_of_ble_eq_true rfl⟩) (q_pS (hP.sub [] rfl) (hK.sub [] rfl)) rfl rfl hl.1 rfl (lv_room (Nat.le_of_ble_eq_true rfl)) dX3_ofOne_62 ⟨Nat.le_of_ble_eq_true rfl, Nat.le_of_ble_eq_true rfl⟩) hP hS (fun x7 H locs e7 hP hS => ?_)
    have e7 : x7 = (nI (75 + 5 * k)) := Eq.trans e7 (congrArg nI (by omega))
    subst e7
    refine q_ld hx hb hK hP 1 0 rfl rfl (j := (75 + 5 * k)) (v := f (81 + k)) (by omega) (by omega) (rr_at (pm_p3 (by omega))) dX3_ofOne_65 ?_
    refine hret _ _ _ _ _ rfl ?_ trivial hS dX3_ofOne_66
    rfl
  ·
    refine q_ts (tgt := 54) (off := 53) hx hb (by omega) dX3_ofOne_1 rfl rfl (by decide) ?_
    refine lv_aload_n hx hb dX3_ofOne_54 rfl (lv_at hl 0 rfl) ?_
    refine va_get (D := D) (ci := 3) (v := .ref ps) (C := RX3) (T := TX3) (N := 15) hx hb hts hi3 hown hK hP 0 rfl rfl 1 (by decide) hfl7 (fun _ h9 => h9) h1 dX3_ofOne_55 ?_
    refine lv_iload_n hx hb dX3_ofOne_58 rfl (lv_at hl 1 rfl) ?_
    refine lv_iload_n hx hb dX3_ofOne_59 rfl (lv_at hl 2 rfl) ?_
    refine lv_iconst (v := nI 3) hx hb dX3_ofOne_60 (by decide) ?_
    refine q_subN hx hb 4 (by omega) dX3_ofOne_61 ?_
    refine q_ciR (va_runS (rm := { frames := 0, cells := 0, slots := 0, locals := 0 }) (As := [.int (nI k), .int (nI 4)]) (rest := [.ref ps]) ⟨hx, hb, hml, hown, hts⟩ (m3_ofPot l D k 4 (by omega) (by omega)) (va_cwS 2 hts gX3_ofOne_X3_ofPot rfl rfl rfl (by decide +kernel) ⟨Nat.le_of_ble_eq_true rfl, Nat.le_of_ble_eq_true rfl⟩) (q_pS (hP.sub [] rfl) (hK.sub [] rfl)) rfl rfl hl.1 rfl (lv_room (Nat.le_of_ble_eq_true rfl)) dX3_ofOne_62 ⟨Nat.le_of_ble_eq_true rfl, Nat.le_of_ble_eq_true rfl⟩) hP hS (fun x8 H locs e8 hP hS => ?_)
    have e8 : x8 = (nI (76 + 5 * k)) := Eq.trans e8 (congrArg nI (by omega))
    subst e8
    refine q_ld hx hb hK hP 1 0 rfl rfl (j := (76 + 5 * k)) (v := f (84 + k)) (by omega) (by omega) (rr_at (pm_p4 (by omega))) dX3_ofOne_65 ?_
    refine hret _ _ _ _ _ rfl ?_ trivial hS dX3_ofOne_66
    rfl
set_option maxHeartbeats 4000000 in
set_option maxRecDepth 100000 in
theorem m3_wouldBring (l : Launch) (D : va_G) (cI : ClassId) (o ps k w : Nat) (fs : List Value) (f : Nat → Int32) (h1 : fs[1]? = some (.ref ps)) (B : Nat) (hI : Inv B f) (hk : k < 3) (hw : w < 3) : q_I l yX3_wouldBring wsX3_wouldBring { frames := 5, cells := 0, slots := 0, locals := 110 } [.ref o, .int (nI k), .int (nI w)] (q_bp D (wS o ps cI fs f) [(cI, .int)]) (fun v => v = g_br f k w) (fun H => True) (fun _ => False) 0 0 := by
  refine q_goI (cc := cX3_wouldBring) (maxL := 3) (ty := .int) (lv0 := [(0, .ref o), (1, .int (nI k)), (2, .int (nI w))]) (by decide) rfl (Nat.le_of_ble_eq_true rfl) rfl ?_
  intro p e s m args below meth c Q ls hx hb hml hts hown hP hK hl hret
  have hS : va_S (fun _ => False) s.heap s.heap [] := va_S.rf
  refine lv_aload_n hx hb dX3_wouldBring_0 rfl (lv_at hl 0 rfl) ?_
  refine lv_iload_n hx hb dX3_wouldBring_1 rfl (lv_at hl 1 rfl) ?_
  refine q_ciR (va_runV (rm := { frames := 2, cells := 0, slots := 0, locals := 42 }) (As := [.int (nI k)]) (rest := []) ⟨hx, hb, hml, hown, hts⟩ (m3_hindrance l D cI o ps k fs f h1 B hI hk) (cwV 1 hts gX3_wouldBring_X3_hindrance rfl rfl rfl (by decide +kernel) ⟨Nat.le_of_ble_eq_true rfl, Nat.le_of_ble_eq_true rfl⟩) (q_pV (ci := 3) (q0 := 0) hP hK rfl rfl) rfl rfl hl.1 rfl (lv_room (Nat.le_of_ble_eq_true rfl)) dX3_wouldBring_2 ⟨Nat.le_of_ble_eq_true rfl, Nat.le_of_ble_eq_true rfl⟩) hP hS (fun x1 H locs e1 hP hS => ?_)
  have e1 : x1 = g_wy f k := e1
  refine lv_if_le (tgt := 10) hx hb dX3_wouldBring_5 (by decide) (fun c2 => ?_) (fun c2 => ?_)
  ·
    refine lv_iload_n hx hb dX3_wouldBring_10 rfl (lv_at hl 2 rfl) ?_
    refine q_zne (tgt := 22) hx hb (by omega) dX3_wouldBring_11 (by decide) (fun c3 => ?_) (fun c3 => ?_)
    ·
      refine lv_iload_n hx hb dX3_wouldBring_22 rfl (lv_at hl 2 rfl) ?_
      refine lv_iconst (v := nI 1) hx hb dX3_wouldBring_23 (by decide) ?_
      refine q_neN (tgt := 35) hx hb (by omega) (by omega) dX3_wouldBring_24 (by decide) (fun c4 => ?_) (fun c4 => ?_)
      ·
        refine lv_aload_n hx hb dX3_wouldBring_35 rfl (lv_at hl 0 rfl) ?_
        refine lv_iload_n hx hb dX3_wouldBring_36 rfl (lv_at hl 1 rfl) ?_
        refine q_ciR (va_runV (rm := { frames := 2, cells := 0, slots := 0, locals := 42 }) (As := [.int (nI k)]) (rest := []) ⟨hx, hb, hml, hown, hts⟩ (m3_trustThen l D cI o ps k fs f h1 B hI hk) (cwV 1 hts gX3_wouldBring_X3_trustThen rfl rfl rfl (by decide +kernel) ⟨Nat.le_of_ble_eq_true rfl, Nat.le_of_ble_eq_true rfl⟩) (q_pV (ci := 3) (q0 := 0) hP hK rfl rfl) rfl rfl hl.1 rfl (lv_room (Nat.le_of_ble_eq_true rfl)) dX3_wouldBring_37 ⟨Nat.le_of_ble_eq_true rfl, Nat.le_of_ble_eq_true rfl⟩) hP hS (fun x5 H locs e5 hP hS => ?_)
        have e5 : x5 = g_tr f k := e5
        refine hret _ _ _ _ _ rfl ?_ trivial hS dX3_wouldBring_40
        subst e5 e1
        show _ = (if g_wy f k = 0 then _ else _)
        rw [if_pos (wy_le c2)]
        rw [if_neg (by omega)]
        rw [if_neg (by omega)]
      ·
        refine lv_aload_n hx hb dX3_wouldBring_27 rfl (lv_at hl 0 rfl) ?_
        refine lv_iload_n hx hb dX3_wouldBring_28 rfl (lv_at hl 1 rfl) ?_
        refine q_ciR (va_runV (rm := { frames := 4, cells := 0, slots := 0, locals := 88 }) (As := [.int (nI k)]) (rest := []) ⟨hx, hb, hml, hown, hts⟩ (m3_wouldSpill l D cI o ps k fs f h1 B hI hk) (cwV 1 hts gX3_wouldBring_X3_wouldSpill rfl rfl rfl (by decide +kernel) ⟨Nat.le_of_ble_eq_true rfl, Nat.le_of_ble_eq_true rfl⟩) (q_pV (ci := 3) (q0 := 0) hP hK rfl rfl) rfl rfl hl.1 rfl (lv_room (Nat.le_of_ble_eq_true rfl)) dX3_wouldBring_29 ⟨Nat.le_of_ble_eq_true rfl, Nat.le_of_ble_eq_true rfl⟩) hP hS (fun x6 H locs e6 hP hS => ?_)
        have e6 : x6 = g_ov f k := e6
        refine lv_goto (tgt := 40) hx hb dX3_wouldBring_32 (by decide) ?_
        refine hret _ _ _ _ _ rfl ?_ trivial hS dX3_wouldBring_40
        subst e6 e1
        show _ = (if g_wy f k = 0 then _ else _)
        rw [if_pos (wy_le c2)]
        rw [if_neg (by omega)]
        rw [if_pos (by omega)]
    ·
      refine lv_aload_n hx hb dX3_wouldBring_14 rfl (lv_at hl 0 rfl) ?_
      refine lv_iload_n hx hb dX3_wouldBring_15 rfl (lv_at hl 1 rfl) ?_
      refine q_ciR (va_runV (rm := { frames := 3, cells := 0, slots := 0, locals := 64 }) (As := [.int (nI k)]) (rest := []) ⟨hx, hb, hml, hown, hts⟩ (m3_wouldCome l D cI o ps k fs f h1 B hI hk) (cwV 1 hts gX3_wouldBring_X3_wouldCome rfl rfl rfl (by decide +kernel) ⟨Nat.le_of_ble_eq_true rfl, Nat.le_of_ble_eq_true rfl⟩) (q_pV (ci := 3) (q0 := 0) hP hK rfl rfl) rfl rfl hl.1 rfl (lv_room (Nat.le_of_ble_eq_true rfl)) dX3_wouldBring_16 ⟨Nat.le_of_ble_eq_true rfl, Nat.le_of_ble_eq_true rfl⟩) hP hS (fun x7 H locs e7 hP hS => ?_)
      have e7 : x7 = g_cm f k := e7
      refine lv_goto (tgt := 40) hx hb dX3_wouldBring_19 (by decide) ?_
      refine hret _ _ _ _ _ rfl ?_ trivial hS dX3_wouldBring_40
      subst e7 e1
      show _ = (if g_wy f k = 0 then _ else _)
      rw [if_pos (wy_le c2)]
      rw [if_pos (by omega)]
  ·
    refine lv_iconst (v := (-1)) hx hb dX3_wouldBring_8 (by decide) ?_
    refine hret _ _ _ _ _ rfl ?_ trivial hS dX3_wouldBring_9
    subst e1
    show _ = (if g_wy f k = 0 then _ else _)
    rw [if_neg (wy_nle c2)]
set_option maxHeartbeats 4000000 in
set_option maxRecDepth 100000 in
theorem m3_goesRound (l : Launch) (D : va_G) (cI : ClassId) (o ps k : Nat) (fs : List Value) (f : Nat → Int32) (h1 : fs[1]? = some (.ref ps)) (B : Nat) (hI : Inv B f) (hk : k < 3) (hB : B + 1600 < 2000000000) (hne : o ≠ ps) : q_I l yX3_goesRound wsX3_goesRound { frames := 6, cells := 0, slots := 0, locals := 135 } [.ref o, .int (nI k)] (q_bp D (wS o ps cI fs f) [(cI, .int)]) (fun v => v = nI (g_rc 8 f k)) (fun H => va_at D vwCl (ps, .inl (cI, 138, .inl (rr (g_rn 8 f k)))) H) (fun q => q = ps) 0 0 := by
  refine q_goI (cc := cX3_goesRound) (maxL := 6) (ty := .int) (lv0 := [(0, .ref o), (1, .int (nI k))]) (by decide) rfl (Nat.le_of_ble_eq_true rfl) rfl ?_
  intro p e s m args below meth c Q ls hx hb hml hts hown hP hK hl hret
  have hi3 : ∀ w ∈ wsX30, w ∈ wsX3_goesRound := by decide +kernel
  have hfl7 := hts (.fieldLink RX3 7 "WhisperedPotsModel" "s" "[I") (by decide +kernel)
  have hS : va_S (fun q => q = ps) s.heap s.heap [] := va_S.rf
  have hD : va_D (fun _ => True) (wS o ps cI fs f) := q_dT hne
  refine lv_iconst (v := nI 0) hx hb dX3_goesRound_0 (by decide) ?_
  refine lv_istore_n (lv' := [(2, .int (nI 0)), (0, .ref o), (1, .int (nI k))]) hx hb dX3_goesRound_1 rfl hl (by decide) rfl (fun ls hl => ?_)
  refine lv_iconst (v := nI 0) hx hb dX3_goesRound_2 (by decide) ?_
  refine lv_istore_n (lv' := [(3, .int (nI 0)), (2, .int (nI 0)), (0, .ref o), (1, .int (nI k))]) hx hb dX3_goesRound_3 rfl hl (by decide) rfl (fun ls hl => ?_)
  have LP : ∀ (n i : Nat) (fa : Nat → Int32) (pn : Nat) (H : Heap) (locs : List Loc) (ls : Array Slot), i + n = 8 → (hI2 : Inv (B + 200 * i) fa) → (hF : g_rn n fa k = g_rn 8 f k) → (hC : pn + g_rc n fa k = g_rc 8 f k) → va_P D vwCl (wS o ps cI fs fa) H → va_D (fun _ => True) (wS o ps cI fs fa) → va_S (fun q => q = ps) s.heap H locs → lv_has ls 6 [(3, .int (nI i)), (2, .int (nI pn)), (0, .ref o), (1, .int (nI k))] → W p l e { frames := 6, cells := 0, slots := 0, locals := 135 } s m args below meth c H locs 0 0 Q (F0 m 4 ls []) := by
    intro n
    induction n with
    | zero =>
      intro i fa pn H locs ls hi hI2 hF hC hP hD hS hl
      obtain rfl : 8 = i := by omega
      refine lv_iload_n hx hb dX3_goesRound_4 rfl (lv_at hl 0 rfl) ?_
      refine lv_bipush (v := nI 8) hx hb dX3_goesRound_5 (by decide) ?_
      refine q_geN (tgt := 76) hx hb (by omega) (by omega) dX3_goesRound_7 (by decide) (fun c1 => ?_) (fun c1 => absurd c1 (by omega))
      refine lv_iload_n hx hb dX3_goesRound_76 rfl (lv_at hl 1 rfl) ?_
      have hE : fa = g_rn 8 f k := hF
      refine hret _ _ _ _ _ rfl ?_ (by rw [← hE]; exact hP 1 _ rfl) hS dX3_goesRound_77
      rw [← hC]
      rfl
    | succ n ih =>
      intro i fa pn H locs ls hi hI2 hF hC hP hD hS hl
      refine lv_iload_n hx hb dX3_goesRound_4 rfl (lv_at hl 0 rfl) ?_
      refine lv_bipush (v := nI 8) hx hb dX3_goesRound_5 (by decide) ?_
      refine q_geN (tgt := 76) hx hb (by omega) (by omega) dX3_goesRound_7 (by decide) (fun c2 => absurd c2 (by omega)) (fun c2 => ?_)
      have hO := hI2.ok1 hk
      have h8 := hO.2
      refine lv_aload_n hx hb dX3_goesRound_10 rfl (lv_at hl 2 rfl) ?_
      refine lv_iload_n hx hb dX3_goesRound_11 rfl (lv_at hl 3 rfl) ?_
      refine q_ciR (va_runV (rm := { frames := 1, cells := 0, slots := 0, locals := 21 }) (As := [.int (nI k)]) (rest := []) ⟨hx, hb, hml, hown, hts⟩ (m3_with l D cI o ps k fs fa h1 _ hI2 hk) (cwV 1 hts gX3_goesRound_X3_with rfl rfl rfl (by decide +kernel) ⟨Nat.le_of_ble_eq_true rfl, Nat.le_of_ble_eq_true rfl⟩) (q_pV (ci := 3) (q0 := 0) hP hK rfl rfl) rfl rfl hl.1 rfl (lv_room (Nat.le_of_ble_eq_true rfl)) dX3_goesRound_12 ⟨Nat.le_of_ble_eq_true rfl, Nat.le_of_ble_eq_true rfl⟩) hP hS (fun x3 H locs e3 hP hS => ?_)
      have e3 : x3 = (nI ((hN fa k))) := Eq.trans e3 (congrArg nI (by omega))
      subst e3
      refine lv_istore (lv' := [(4, .int (nI ((hN fa k)))), (3, .int (nI i)), (2, .int (nI pn)), (0, .ref o), (1, .int (nI k))]) hx hb dX3_goesRound_15 hl (by decide) rfl (fun ls hl => ?_)
      refine lv_aload_n hx hb dX3_goesRound_17 rfl (lv_at hl 3 rfl) ?_
      refine lv_iload_n hx hb dX3_goesRound_18 rfl (lv_at hl 4 rfl) ?_
      refine q_ciR (va_runV (rm := { frames := 2, cells := 0, slots := 0, locals := 42 }) (As := [.int (nI k)]) (rest := []) ⟨hx, hb, hml, hown, hts⟩ (m3_hindrance l D cI o ps k fs fa h1 _ hI2 hk) (cwV 1 hts gX3_goesRound_X3_hindrance rfl rfl rfl (by decide +kernel) ⟨Nat.le_of_ble_eq_true rfl, Nat.le_of_ble_eq_true rfl⟩) (q_pV (ci := 3) (q0 := 0) hP hK rfl rfl) rfl rfl hl.1 rfl (lv_room (Nat.le_of_ble_eq_true rfl)) dX3_goesRound_19 ⟨Nat.le_of_ble_eq_true rfl, Nat.le_of_ble_eq_true rfl⟩) hP hS (fun x4 H locs e4 hP hS => ?_)
      have e4 : x4 = g_wy fa k := e4
      refine lv_if_ne (tgt := 62) hx hb dX3_goesRound_22 (by decide) (fun c5 => ?_) (fun c5 => ?_)
      ·
        have hp : ¬ (¬ fa (hN fa k) ≤ nI 2 * fa (8 + hN fa k) ∧ g_wy fa k = 0) := fun z => c5 (by rw [e4]; exact z.2)
        have hI3 : Inv (B + 200 * i + 200) fa := by
          exact hI2.mono (by omega)
        have hst : g_st fa k = g_hand fa k 1 := by
          unfold g_st
          rw [if_neg hp]
        have hrc : g_rc (n + 1) fa k = 0 + g_rc n (g_st fa k) k := by
          show (if ¬ fa (hN fa k) ≤ nI 2 * fa (8 + hN fa k) ∧ g_wy fa k = 0 then 1 else 0) + _ = _
          rw [if_neg hp]
        have h82 := hI3.hN8 hk
        refine lv_aload_n hx hb dX3_goesRound_62 rfl (lv_at hl 3 rfl) ?_
        refine lv_iload_n hx hb dX3_goesRound_63 rfl (lv_at hl 4 rfl) ?_
        refine lv_iconst (v := nI 1) hx hb dX3_goesRound_64 (by decide) ?_
        refine q_ci1 (i := 1) (ws' := wS o ps cI fs (g_hand fa k 1)) (va_runV (rm := { frames := 3, cells := 0, slots := 0, locals := 64 }) (As := [.int (nI k), .int (nI 1)]) (rest := []) ⟨hx, hb, hml, hown, hts⟩ (m3_hands l D cI o ps k (hN fa k + 1 + 8) 1 fs fa h1 _ hI3 (nI 1) hk (by rw [nI_add, nI_add]) (by omega) (by omega) hne) (cwV 2 hts gX3_goesRound_X3_hands rfl rfl rfl (by decide +kernel) ⟨Nat.le_of_ble_eq_true rfl, Nat.le_of_ble_eq_true rfl⟩) (q_pV (ci := 3) (q0 := 0) hP hK rfl rfl) rfl rfl hl.1 rfl (lv_room (Nat.le_of_ble_eq_true rfl)) dX3_goesRound_65 ⟨Nat.le_of_ble_eq_true rfl, Nat.le_of_ble_eq_true rfl⟩) hP hD hS rfl rfl rfl (fun x6 H locs e6 hP hD hS => ?_)
        obtain ⟨f6, hf6⟩ : ∃ z, z = g_hand fa k 1 := ⟨_, rfl⟩
        rw [← hf6] at hP hD
        have e6 : x6 = nI ((hN fa k + 1) % 8) := e6
        refine lv_istore (lv' := [(4, .int x6), (3, .int (nI i)), (2, .int (nI pn)), (0, .ref o), (1, .int (nI k))]) hx hb dX3_goesRound_68 hl (by decide) rfl (fun ls hl => ?_)
        refine lv_iinc (v := (nI (i + 1))) (lv' := [(3, .int (nI (i + 1))), (4, .int x6), (2, .int (nI pn)), (0, .ref o), (1, .int (nI k))]) hx hb dX3_goesRound_70 hl (k := 1) rfl (q_inc i 1 (i + 1) (by omega)) (by decide) rfl (fun ls hl => ?_)
        refine lv_goto (tgt := 4) hx hb dX3_goesRound_73 (by decide) ?_
        have hI4 : Inv (B + 200 * (i + 1)) f6 := by rw [hf6, show B + 200 * (i + 1) = B + 200 * i + 200 by omega]; exact hand_inv hI3 hk
        have hF : g_rn n f6 k = g_rn 8 f k := by rw [← hF, hf6, ← hst]; rfl
        have hC : pn + g_rc n f6 k = g_rc 8 f k := by rw [← hC, hrc, hf6, ← hst]; omega
        exact ih (i + 1) f6 pn _ _ _ (by omega) hI4 hF hC hP hD hS (lv_sub hl [0, 2, 3, 4] rfl)
      ·
        refine lv_iconst (v := nI 2) hx hb dX3_goesRound_25 (by decide) ?_
        refine lv_aload_n hx hb dX3_goesRound_26 rfl (lv_at hl 3 rfl) ?_
        refine va_get (D := D) (ci := 3) (v := .ref ps) (C := RX3) (T := TX3) (N := 15) hx hb hts hi3 hown hK hP 0 rfl rfl 1 (by decide) hfl7 (fun _ h9 => h9) h1 dX3_goesRound_27 ?_
        refine lv_iload hx hb dX3_goesRound_30 (lv_at hl 0 rfl) ?_
        refine lv_iconst (v := nI 1) hx hb dX3_goesRound_32 (by decide) ?_
        refine q_ciR (va_runS (rm := { frames := 0, cells := 0, slots := 0, locals := 0 }) (As := [.int (nI ((hN fa k))), .int (nI 1)]) (rest := [.ref ps, .int (nI 2)]) ⟨hx, hb, hml, hown, hts⟩ (m3_of l D ((hN fa k)) 1 (by omega) (by omega)) (va_cwS 2 hts gX3_goesRound_X3_of rfl rfl rfl (by decide +kernel) ⟨Nat.le_of_ble_eq_true rfl, Nat.le_of_ble_eq_true rfl⟩) (q_pS (hP.sub [] rfl) (hK.sub [] rfl)) rfl rfl hl.1 rfl (lv_room (Nat.le_of_ble_eq_true rfl)) dX3_goesRound_33 ⟨Nat.le_of_ble_eq_true rfl, Nat.le_of_ble_eq_true rfl⟩) hP hS (fun x7 H locs e7 hP hS => ?_)
        have e7 : x7 = (nI (1 + 9 * (hN fa k))) := Eq.trans e7 (congrArg nI (by omega))
        subst e7
        refine q_ld hx hb hK hP 1 0 rfl rfl (j := (1 + 9 * (hN fa k))) (v := fa (8 + (hN fa k))) (by omega) (by omega) (rr_at (pm_g1 (by omega))) dX3_goesRound_36 ?_
        refine lv_imul hx hb dX3_goesRound_37 ?_
        refine lv_aload_n hx hb dX3_goesRound_38 rfl (lv_at hl 3 rfl) ?_
        refine va_get (D := D) (ci := 3) (v := .ref ps) (C := RX3) (T := TX3) (N := 15) hx hb hts hi3 hown hK hP 0 rfl rfl 1 (by decide) hfl7 (fun _ h9 => h9) h1 dX3_goesRound_39 ?_
        refine lv_iload hx hb dX3_goesRound_42 (lv_at hl 0 rfl) ?_
        refine lv_iconst (v := nI 0) hx hb dX3_goesRound_44 (by decide) ?_
        refine q_ciR (va_runS (rm := { frames := 0, cells := 0, slots := 0, locals := 0 }) (As := [.int (nI ((hN fa k))), .int (nI 0)]) (rest := [.ref ps, .int ((nI 2) * (fa (8 + (hN fa k))))]) ⟨hx, hb, hml, hown, hts⟩ (m3_of l D ((hN fa k)) 0 (by omega) (by omega)) (va_cwS 2 hts gX3_goesRound_X3_of rfl rfl rfl (by decide +kernel) ⟨Nat.le_of_ble_eq_true rfl, Nat.le_of_ble_eq_true rfl⟩) (q_pS (hP.sub [] rfl) (hK.sub [] rfl)) rfl rfl hl.1 rfl (lv_room (Nat.le_of_ble_eq_true rfl)) dX3_goesRound_45 ⟨Nat.le_of_ble_eq_true rfl, Nat.le_of_ble_eq_true rfl⟩) hP hS (fun x8 H locs e8 hP hS => ?_)
        have e8 : x8 = (nI (9 * (hN fa k))) := Eq.trans e8 (congrArg nI (by omega))
        subst e8
        refine q_ld hx hb hK hP 1 0 rfl rfl (j := (9 * (hN fa k))) (v := fa (hN fa k)) (by omega) (by omega) (rr_at (pm_g0 (by omega))) dX3_goesRound_48 ?_
        refine lv_icmp_ge (tgt := 62) hx hb dX3_goesRound_49 (by decide) (fun c9 => ?_) (fun c9 => ?_)
        ·
          have hp : ¬ (¬ fa (hN fa k) ≤ nI 2 * fa (8 + hN fa k) ∧ g_wy fa k = 0) := fun z => z.1 c9
          have hI3 : Inv (B + 200 * i + 200) fa := by
            exact hI2.mono (by omega)
          have hst : g_st fa k = g_hand fa k 1 := by
            unfold g_st
            rw [if_neg hp]
          have hrc : g_rc (n + 1) fa k = 0 + g_rc n (g_st fa k) k := by
            show (if ¬ fa (hN fa k) ≤ nI 2 * fa (8 + hN fa k) ∧ g_wy fa k = 0 then 1 else 0) + _ = _
            rw [if_neg hp]
          have h82 := hI3.hN8 hk
          refine lv_aload_n hx hb dX3_goesRound_62 rfl (lv_at hl 3 rfl) ?_
          refine lv_iload_n hx hb dX3_goesRound_63 rfl (lv_at hl 4 rfl) ?_
          refine lv_iconst (v := nI 1) hx hb dX3_goesRound_64 (by decide) ?_
          refine q_ci1 (i := 1) (ws' := wS o ps cI fs (g_hand fa k 1)) (va_runV (rm := { frames := 3, cells := 0, slots := 0, locals := 64 }) (As := [.int (nI k), .int (nI 1)]) (rest := []) ⟨hx, hb, hml, hown, hts⟩ (m3_hands l D cI o ps k (hN fa k + 1 + 8) 1 fs fa h1 _ hI3 (nI 1) hk (by rw [nI_add, nI_add]) (by omega) (by omega) hne) (cwV 2 hts gX3_goesRound_X3_hands rfl rfl rfl (by decide +kernel) ⟨Nat.le_of_ble_eq_true rfl, Nat.le_of_ble_eq_true rfl⟩) (q_pV (ci := 3) (q0 := 0) hP hK rfl rfl) rfl rfl hl.1 rfl (lv_room (Nat.le_of_ble_eq_true rfl)) dX3_goesRound_65 ⟨Nat.le_of_ble_eq_true rfl, Nat.le_of_ble_eq_true rfl⟩) hP hD hS rfl rfl rfl (fun x10 H locs e10 hP hD hS => ?_)
          obtain ⟨f10, hf10⟩ : ∃ z, z = g_hand fa k 1 := ⟨_, rfl⟩
          rw [← hf10] at hP hD
          have e10 : x10 = nI ((hN fa k + 1) % 8) := e10
          refine lv_istore (lv' := [(4, .int x10), (3, .int (nI i)), (2, .int (nI pn)), (0, .ref o), (1, .int (nI k))]) hx hb dX3_goesRound_68 hl (by decide) rfl (fun ls hl => ?_)
          refine lv_iinc (v := (nI (i + 1))) (lv' := [(3, .int (nI (i + 1))), (4, .int x10), (2, .int (nI pn)), (0, .ref o), (1, .int (nI k))]) hx hb dX3_goesRound_70 hl (k := 1) rfl (q_inc i 1 (i + 1) (by omega)) (by decide) rfl (fun ls hl => ?_)
          refine lv_goto (tgt := 4) hx hb dX3_goesRound_73 (by decide) ?_
          have hI4 : Inv (B + 200 * (i + 1)) f10 := by rw [hf10, show B + 200 * (i + 1) = B + 200 * i + 200 by omega]; exact hand_inv hI3 hk
          have hF : g_rn n f10 k = g_rn 8 f k := by rw [← hF, hf10, ← hst]; rfl
          have hC : pn + g_rc n f10 k = g_rc 8 f k := by rw [← hC, hrc, hf10, ← hst]; omega
          exact ih (i + 1) f10 pn _ _ _ (by omega) hI4 hF hC hP hD hS (lv_sub hl [0, 2, 3, 4] rfl)
        ·
          refine lv_aload_n hx hb dX3_goesRound_52 rfl (lv_at hl 3 rfl) ?_
          refine lv_iload_n hx hb dX3_goesRound_53 rfl (lv_at hl 4 rfl) ?_
          refine q_ci1 (i := 1) (ws' := wS o ps cI fs (g_pour fa k)) (va_runV (rm := { frames := 5, cells := 0, slots := 0, locals := 110 }) (As := [.int (nI k)]) (rest := []) ⟨hx, hb, hml, hown, hts⟩ (m3_pours l D cI o ps k fs fa h1 _ hI2 hk hne) (cwV 1 hts gX3_goesRound_X3_pours rfl rfl rfl (by decide +kernel) ⟨Nat.le_of_ble_eq_true rfl, Nat.le_of_ble_eq_true rfl⟩) (q_pV (ci := 3) (q0 := 0) hP hK rfl rfl) rfl rfl hl.1 rfl (lv_room (Nat.le_of_ble_eq_true rfl)) dX3_goesRound_54 ⟨Nat.le_of_ble_eq_true rfl, Nat.le_of_ble_eq_true rfl⟩) hP hD hS rfl rfl rfl (fun x11 H locs e11 hP hD hS => ?_)
          obtain ⟨f11, hf11⟩ : ∃ z, z = g_pour fa k := ⟨_, rfl⟩
          rw [← hf11] at hP hD
          have e11 : x11 = g_ov fa k := e11
          refine lv_istore (lv' := [(5, .int x11), (4, .int (nI ((hN fa k)))), (3, .int (nI i)), (2, .int (nI pn)), (0, .ref o), (1, .int (nI k))]) hx hb dX3_goesRound_57 hl (by decide) rfl (fun ls hl => ?_)
          refine lv_iinc (v := (nI (pn + 1))) (lv' := [(2, .int (nI (pn + 1))), (5, .int x11), (4, .int (nI ((hN fa k)))), (3, .int (nI i)), (0, .ref o), (1, .int (nI k))]) hx hb dX3_goesRound_59 hl (k := 3) rfl (q_inc pn 1 (pn + 1) (by omega)) (by decide) rfl (fun ls hl => ?_)
          have hp : ¬ fa (hN fa k) ≤ nI 2 * fa (8 + hN fa k) ∧ g_wy fa k = 0 := ⟨c9, by rw [← e4]; exact c5⟩
          have hI3 : Inv (B + 200 * i + 200) f11 := by
            rw [hf11]; exact pour_inv hI2 (by omega) hk
          have hst : g_st fa k = g_hand f11 k 1 := by
            unfold g_st
            rw [if_pos hp, ← hf11]
          have hrc : g_rc (n + 1) fa k = 1 + g_rc n (g_st fa k) k := by
            show (if ¬ fa (hN fa k) ≤ nI 2 * fa (8 + hN fa k) ∧ g_wy fa k = 0 then 1 else 0) + _ = _
            rw [if_pos hp]
          have h82 := hI3.hN8 hk
          refine lv_aload_n hx hb dX3_goesRound_62 rfl (lv_at hl 4 rfl) ?_
          refine lv_iload_n hx hb dX3_goesRound_63 rfl (lv_at hl 5 rfl) ?_
          refine lv_iconst (v := nI 1) hx hb dX3_goesRound_64 (by decide) ?_
          refine q_ci1 (i := 1) (ws' := wS o ps cI fs (g_hand f11 k 1)) (va_runV (rm := { frames := 3, cells := 0, slots := 0, locals := 64 }) (As := [.int (nI k), .int (nI 1)]) (rest := []) ⟨hx, hb, hml, hown, hts⟩ (m3_hands l D cI o ps k (hN f11 k + 1 + 8) 1 fs f11 h1 _ hI3 (nI 1) hk (by rw [nI_add, nI_add]) (by omega) (by omega) hne) (cwV 2 hts gX3_goesRound_X3_hands rfl rfl rfl (by decide +kernel) ⟨Nat.le_of_ble_eq_true rfl, Nat.le_of_ble_eq_true rfl⟩) (q_pV (ci := 3) (q0 := 0) hP hK rfl rfl) rfl rfl hl.1 rfl (lv_room (Nat.le_of_ble_eq_true rfl)) dX3_goesRound_65 ⟨Nat.le_of_ble_eq_true rfl, Nat.le_of_ble_eq_true rfl⟩) hP hD hS rfl rfl rfl (fun x12 H locs e12 hP hD hS => ?_)
          obtain ⟨f12, hf12⟩ : ∃ z, z = g_hand f11 k 1 := ⟨_, rfl⟩
          rw [← hf12] at hP hD
          have e12 : x12 = nI ((hN f11 k + 1) % 8) := e12
          refine lv_istore (lv' := [(4, .int x12), (2, .int (nI (pn + 1))), (5, .int x11), (3, .int (nI i)), (0, .ref o), (1, .int (nI k))]) hx hb dX3_goesRound_68 hl (by decide) rfl (fun ls hl => ?_)
          refine lv_iinc (v := (nI (i + 1))) (lv' := [(3, .int (nI (i + 1))), (4, .int x12), (2, .int (nI (pn + 1))), (5, .int x11), (0, .ref o), (1, .int (nI k))]) hx hb dX3_goesRound_70 hl (k := 3) rfl (q_inc i 1 (i + 1) (by omega)) (by decide) rfl (fun ls hl => ?_)
          refine lv_goto (tgt := 4) hx hb dX3_goesRound_73 (by decide) ?_
          have hI4 : Inv (B + 200 * (i + 1)) f12 := by rw [hf12, show B + 200 * (i + 1) = B + 200 * i + 200 by omega]; exact hand_inv hI3 hk
          have hF : g_rn n f12 k = g_rn 8 f k := by rw [← hF, hf12, ← hst]; rfl
          have hC : pn + 1 + g_rc n f12 k = g_rc 8 f k := by rw [← hC, hrc, hf12, ← hst]; omega
          exact ih (i + 1) f12 (pn + 1) _ _ _ (by omega) hI4 hF hC hP hD hS (lv_sub hl [0, 2, 4, 5] rfl)
  exact LP 8 0 f 0 _ _ _ (by omega) hI rfl (Nat.zero_add _) hP hD hS (lv_sub hl [0, 1, 2, 3] rfl)
