set_option maxHeartbeats 4000000 in
set_option maxRecDepth 100000 in
theorem m1_handOn (l : Launch) (D : va_G) (cI : ClassId) (a r k d : Nat) (f : Nat → Int32) (hk : k < 3) (hO : Ok1 f k) (hO2 : Ok2 f k) (hd : d < 8) (hne : a ≠ r) : q_I l yX1_handOn wsX1_handOn { frames := 2, cells := 0, slots := 0, locals := 44 } [.ref a, .int (nI k), .int (nI d)] (q_bp D (wT a r cI f) [(cI, .int)]) (fun v => v = nI ((hN f k + d) % 8)) (fun H => va_at D vwCl (r, .inl (cI, 138, .inl (g_hand f k d))) H) (fun q => q = r) 0 0 := by
  refine q_goI (cc := cX1_handOn) (maxL := 6) (ty := .int) (lv0 := [(0, .ref a), (1, .int (nI k)), (2, .int (nI d))]) (by decide) rfl (Nat.le_of_ble_eq_true rfl) rfl ?_
  intro p e s m args below meth c Q ls hx hb hml hts hown hP hK hl hret
  have hi1 : ∀ w ∈ wsX10, w ∈ wsX1_handOn := by decide +kernel
  have hfl11 := hts (.fieldLink RX1 11 "WhisperedPots$Table" "row" "[I") (by decide +kernel)
  have hS : va_S (fun q => q = r) s.heap s.heap [] := va_S.rf
  have hD : va_D (fun _ => True) (wT a r cI f) := q_dT hne
  have h8 := hO.2
  refine lv_aload_n hx hb dX1_handOn_0 rfl (lv_at hl 0 rfl) ?_
  refine va_get (D := D) (ci := 1) (v := .ref r) (C := RX1) (T := TX1) (N := 1) hx hb hts hi1 hown hK hP 0 rfl rfl 0 (by decide) hfl11 (fun _ h9 => h9) rfl dX1_handOn_1 ?_
  refine lv_bipush (v := nI 72) hx hb dX1_handOn_4 (by decide) ?_
  refine lv_iload_n hx hb dX1_handOn_6 rfl (lv_at hl 1 rfl) ?_
  refine q_addN hx hb (72 + k) (by omega) dX1_handOn_7 ?_
  refine q_ld hx hb hK hP 1 0 rfl rfl (j := (72 + k)) (v := (nI ((hN f k)))) (by omega) (by omega) hO.1 dX1_handOn_8 ?_
  refine lv_istore_n (lv' := [(3, .int (nI ((hN f k)))), (0, .ref a), (1, .int (nI k)), (2, .int (nI d))]) hx hb dX1_handOn_9 rfl hl (by decide) rfl (fun ls hl => ?_)
  refine lv_aload_n hx hb dX1_handOn_10 rfl (lv_at hl 1 rfl) ?_
  refine lv_iload_n hx hb dX1_handOn_11 rfl (lv_at hl 2 rfl) ?_
  refine q_ciR (va_runV (rm := { frames := 1, cells := 0, slots := 0, locals := 22 }) (As := [.int (nI k)]) (rest := []) ⟨hx, hb, hml, hown, hts⟩ (m1_guessOf l D cI a r k f hk hO) (cwV 1 hts gX1_handOn_X1_guessOf rfl rfl rfl (by decide +kernel) ⟨Nat.le_of_ble_eq_true rfl, Nat.le_of_ble_eq_true rfl⟩) (q_pV (ci := 1) (q0 := 0) hP hK rfl rfl) rfl rfl hl.1 rfl (lv_room (Nat.le_of_ble_eq_true rfl)) dX1_handOn_12 ⟨Nat.le_of_ble_eq_true rfl, Nat.le_of_ble_eq_true rfl⟩) hP hS (fun x1 H locs e1 hP hS => ?_)
  have e1 : x1 = g_gs f k := e1
  refine lv_aload_n hx hb dX1_handOn_15 rfl (lv_at hl 1 rfl) ?_
  refine va_get (D := D) (ci := 1) (v := .ref r) (C := RX1) (T := TX1) (N := 1) hx hb hts hi1 hown hK hP 0 rfl rfl 0 (by decide) hfl11 (fun _ h9 => h9) rfl dX1_handOn_16 ?_
  refine lv_bipush (v := nI 32) hx hb dX1_handOn_19 (by decide) ?_
  refine lv_iload_n hx hb dX1_handOn_21 rfl (lv_at hl 0 rfl) ?_
  refine q_addN hx hb (32 + (hN f k)) (by omega) dX1_handOn_22 ?_
  refine q_ld hx hb hK hP 1 0 rfl rfl (j := (32 + (hN f k))) (by omega) (by omega) rfl dX1_handOn_23 ?_
  refine lv_iadd hx hb dX1_handOn_24 ?_
  refine lv_topi (fun x2 e2 => ?_)
  refine lv_istore (lv' := [(4, .int x2), (3, .int (nI ((hN f k)))), (0, .ref a), (1, .int (nI k)), (2, .int (nI d))]) hx hb dX1_handOn_25 hl (by decide) rfl (fun ls hl => ?_)
  refine lv_iconst (v := nI 0) hx hb dX1_handOn_27 (by decide) ?_
  refine lv_sipush (v := nI 200) hx hb dX1_handOn_28 (by decide) ?_
  refine lv_iload hx hb dX1_handOn_31 (lv_at hl 0 rfl) ?_
  refine va_mmin hx hb (hml.trans hl.1.symm) hown (hts (.methodLink RX1 50 Lib.Math.min.name) (by decide +kernel)) (hts (.static Lib.Math.min.name) (by decide +kernel)) (hts (.initialized "java/lang/Math") (by decide +kernel)) (hts (.code Lib.Math.min.name Lib.Math.min.code 2 (some .int)) (by decide +kernel)) (Nat.le_of_ble_eq_true rfl) (Nat.le_of_ble_eq_true rfl) (Nat.zero_le _) (Nat.zero_le _) dX1_handOn_33 ?_
  refine lv_topi (fun x3 e3 => ?_)
  refine va_mmax hx hb (hml.trans hl.1.symm) hown (hts (.methodLink RX1 56 Lib.Math.max.name) (by decide +kernel)) (hts (.static Lib.Math.max.name) (by decide +kernel)) (hts (.initialized "java/lang/Math") (by decide +kernel)) (hts (.code Lib.Math.max.name Lib.Math.max.code 2 (some .int)) (by decide +kernel)) (Nat.le_of_ble_eq_true rfl) (Nat.le_of_ble_eq_true rfl) (Nat.zero_le _) (Nat.zero_le _) dX1_handOn_36 ?_
  refine lv_topi (fun x4 e4 => ?_)
  refine lv_istore (lv' := [(4, .int x4), (3, .int (nI ((hN f k)))), (0, .ref a), (1, .int (nI k)), (2, .int (nI d))]) hx hb dX1_handOn_39 hl (by decide) rfl (fun ls hl => ?_)
  refine lv_iload_n hx hb dX1_handOn_41 rfl (lv_at hl 3 rfl) ?_
  refine lv_bipush (v := nI 8) hx hb dX1_handOn_42 (by decide) ?_
  refine q_mulN hx hb (8 * k) (by omega) dX1_handOn_44 ?_
  refine lv_iload_n hx hb dX1_handOn_45 rfl (lv_at hl 1 rfl) ?_
  refine q_addN hx hb (8 * k + (hN f k)) (by omega) dX1_handOn_46 ?_
  refine lv_istore (lv' := [(5, .int (nI (8 * k + (hN f k)))), (4, .int x4), (3, .int (nI ((hN f k)))), (0, .ref a), (1, .int (nI k)), (2, .int (nI d))]) hx hb dX1_handOn_47 hl (by decide) rfl (fun ls hl => ?_)
  refine lv_aload_n hx hb dX1_handOn_49 rfl (lv_at hl 3 rfl) ?_
  refine va_get (D := D) (ci := 1) (v := .ref r) (C := RX1) (T := TX1) (N := 1) hx hb hts hi1 hown hK hP 0 rfl rfl 0 (by decide) hfl11 (fun _ h9 => h9) rfl dX1_handOn_50 ?_
  refine lv_bipush (v := nI 87) hx hb dX1_handOn_53 (by decide) ?_
  refine lv_iload hx hb dX1_handOn_55 (lv_at hl 0 rfl) ?_
  refine q_addN hx hb (87 + 8 * k + (hN f k)) (by omega) dX1_handOn_57 ?_
  refine q_ld hx hb hK hP 1 0 rfl rfl (j := (87 + 8 * k + (hN f k))) (by omega) (by omega) rfl dX1_handOn_58 ?_
  refine lv_iconst (v := (-1)) hx hb dX1_handOn_59 (by decide) ?_
  refine lv_icmp_ne (tgt := 106) hx hb dX1_handOn_60 (by decide) (fun c5 => ?_) (fun c5 => ?_)
  ·
    refine lv_aload_n hx hb dX1_handOn_106 rfl (lv_at hl 3 rfl) ?_
    refine va_get (D := D) (ci := 1) (v := .ref r) (C := RX1) (T := TX1) (N := 1) hx hb hts hi1 hown hK hP 0 rfl rfl 0 (by decide) hfl11 (fun _ h9 => h9) rfl dX1_handOn_107 ?_
    refine lv_bipush (v := nI 87) hx hb dX1_handOn_110 (by decide) ?_
    refine lv_iload hx hb dX1_handOn_112 (lv_at hl 0 rfl) ?_
    refine q_addN hx hb (87 + 8 * k + (hN f k)) (by omega) dX1_handOn_114 ?_
    refine lv_iload hx hb dX1_handOn_115 (lv_at hl 1 rfl) ?_
    refine q_st hx hb hK hP hD hS 1 0 rfl rfl rfl (j := (87 + 8 * k + (hN f k))) (by omega) (by omega) (fun g => wT a r cI g) (fun _ => rfl) dX1_handOn_117 (fun H locs f6 hf6 hP hD hS => ?_)
    refine lv_aload_n hx hb dX1_handOn_118 rfl (lv_at hl 3 rfl) ?_
    refine va_get (D := D) (ci := 1) (v := .ref r) (C := RX1) (T := TX1) (N := 1) hx hb hts hi1 hown hK hP 0 rfl rfl 0 (by decide) hfl11 (fun _ h9 => h9) rfl dX1_handOn_119 ?_
    refine lv_bipush (v := nI 78) hx hb dX1_handOn_122 (by decide) ?_
    refine lv_iload_n hx hb dX1_handOn_124 rfl (lv_at hl 4 rfl) ?_
    refine q_addN hx hb (78 + k) (by omega) dX1_handOn_125 ?_
    refine lv_iload hx hb dX1_handOn_126 (lv_at hl 1 rfl) ?_
    refine q_st hx hb hK hP hD hS 1 0 rfl rfl rfl (j := (78 + k)) (by omega) (by omega) (fun g => wT a r cI g) (fun _ => rfl) dX1_handOn_128 (fun H locs f7 hf7 hP hD hS => ?_)
    refine lv_aload_n hx hb dX1_handOn_129 rfl (lv_at hl 3 rfl) ?_
    refine va_get (D := D) (ci := 1) (v := .ref r) (C := RX1) (T := TX1) (N := 1) hx hb hts hi1 hown hK hP 0 rfl rfl 0 (by decide) hfl11 (fun _ h9 => h9) rfl dX1_handOn_130 ?_
    refine lv_bipush (v := nI 84) hx hb dX1_handOn_133 (by decide) ?_
    refine lv_iload_n hx hb dX1_handOn_135 rfl (lv_at hl 4 rfl) ?_
    refine q_addN hx hb (84 + k) (by omega) dX1_handOn_136 ?_
    refine lv_dup2_11 hx hb dX1_handOn_137 rfl rfl ?_
    refine q_ld hx hb hK hP 1 0 rfl rfl (j := (84 + k)) (by omega) (by omega) rfl dX1_handOn_138 ?_
    refine lv_iconst (v := nI 1) hx hb dX1_handOn_139 (by decide) ?_
    refine lv_iadd hx hb dX1_handOn_140 ?_
    refine lv_topi (fun x8 e8 => ?_)
    refine q_st hx hb hK hP hD hS 1 0 rfl rfl rfl (j := (84 + k)) (by omega) (by omega) (fun g => wT a r cI g) (fun _ => rfl) dX1_handOn_141 (fun H locs f9 hf9 hP hD hS => ?_)
    refine lv_aload_n hx hb dX1_handOn_142 rfl (lv_at hl 3 rfl) ?_
    refine va_get (D := D) (ci := 1) (v := .ref r) (C := RX1) (T := TX1) (N := 1) hx hb hts hi1 hown hK hP 0 rfl rfl 0 (by decide) hfl11 (fun _ h9 => h9) rfl dX1_handOn_143 ?_
    refine lv_bipush (v := nI 72) hx hb dX1_handOn_146 (by decide) ?_
    refine lv_iload_n hx hb dX1_handOn_148 rfl (lv_at hl 4 rfl) ?_
    refine q_addN hx hb (72 + k) (by omega) dX1_handOn_149 ?_
    refine lv_iload_n hx hb dX1_handOn_150 rfl (lv_at hl 2 rfl) ?_
    refine lv_iload_n hx hb dX1_handOn_151 rfl (lv_at hl 5 rfl) ?_
    refine q_addN hx hb ((hN f k) + d) (by omega) dX1_handOn_152 ?_
    refine lv_bipush (v := nI 8) hx hb dX1_handOn_153 (by decide) ?_
    refine q_remN hx hb (((hN f k) + d) % 8) rfl (by omega) (by omega) (by omega) dX1_handOn_155 ?_
    refine q_st hx hb hK hP hD hS 1 0 rfl rfl rfl (j := (72 + k)) (by omega) (by omega) (fun g => wT a r cI g) (fun _ => rfl) dX1_handOn_156 (fun H locs f10 hf10 hP hD hS => ?_)
    refine lv_aload_n hx hb dX1_handOn_157 rfl (lv_at hl 3 rfl) ?_
    refine va_get (D := D) (ci := 1) (v := .ref r) (C := RX1) (T := TX1) (N := 1) hx hb hts hi1 hown hK hP 0 rfl rfl 0 (by decide) hfl11 (fun _ h9 => h9) rfl dX1_handOn_158 ?_
    refine lv_bipush (v := nI 72) hx hb dX1_handOn_161 (by decide) ?_
    refine lv_iload_n hx hb dX1_handOn_163 rfl (lv_at hl 4 rfl) ?_
    refine q_addN hx hb (72 + k) (by omega) dX1_handOn_164 ?_
    refine q_ld hx hb hK hP 1 0 rfl rfl (j := (72 + k)) (by omega) (by omega) rfl dX1_handOn_165 ?_
    have hE : f10 = g_hand f k d := by
      subst hf10 hf9 e8 hf7 hf6 e4 e3 e2 e1
      first | rfl | (simp only [g_hand, g_tl, g_wh, g_w0, c5, ↓reduceIte]; done) | (simp only [g_hand, g_tl, g_wh, g_w0, c5, ↓reduceIte]; rfl)
    refine hret _ _ _ _ _ rfl ?_ (by rw [← hE]; exact hP 1 _ rfl) hS dX1_handOn_166
    subst hf10 hf9 e8 hf7 hf6 e4 e3 e2 e1
    exact pk_us
  ·
    have h24 := hO2 c5
    refine lv_aload_n hx hb dX1_handOn_63 rfl (lv_at hl 3 rfl) ?_
    refine va_get (D := D) (ci := 1) (v := .ref r) (C := RX1) (T := TX1) (N := 1) hx hb hts hi1 hown hK hP 0 rfl rfl 0 (by decide) hfl11 (fun _ h9 => h9) rfl dX1_handOn_64 ?_
    refine lv_sipush (v := nI 135) hx hb dX1_handOn_67 (by decide) ?_
    refine q_ld hx hb hK hP 1 0 rfl rfl (j := 135) (v := (nI ((tN f)))) (by omega) (by omega) h24.1 dX1_handOn_70 ?_
    refine lv_bipush (v := nI 24) hx hb dX1_handOn_71 (by decide) ?_
    refine q_geN (tgt := 106) hx hb (by omega) (by omega) dX1_handOn_73 (by decide) (fun c11 => absurd c11 (by have := h24.2; omega)) (fun c11 => ?_)
    refine lv_aload_n hx hb dX1_handOn_76 rfl (lv_at hl 3 rfl) ?_
    refine va_get (D := D) (ci := 1) (v := .ref r) (C := RX1) (T := TX1) (N := 1) hx hb hts hi1 hown hK hP 0 rfl rfl 0 (by decide) hfl11 (fun _ h9 => h9) rfl dX1_handOn_77 ?_
    refine lv_bipush (v := nI 111) hx hb dX1_handOn_80 (by decide) ?_
    refine lv_aload_n hx hb dX1_handOn_82 rfl (lv_at hl 3 rfl) ?_
    refine va_get (D := D) (ci := 1) (v := .ref r) (C := RX1) (T := TX1) (N := 1) hx hb hts hi1 hown hK hP 0 rfl rfl 0 (by decide) hfl11 (fun _ h9 => h9) rfl dX1_handOn_83 ?_
    refine lv_sipush (v := nI 135) hx hb dX1_handOn_86 (by decide) ?_
    refine q_ld hx hb hK hP 1 0 rfl rfl (j := 135) (v := (nI ((tN f)))) (by omega) (by omega) h24.1 dX1_handOn_89 ?_
    refine q_addN hx hb (111 + (tN f)) (by omega) dX1_handOn_90 ?_
    refine lv_iload hx hb dX1_handOn_91 (lv_at hl 0 rfl) ?_
    refine q_st hx hb hK hP hD hS 1 0 rfl rfl rfl (j := (111 + (tN f))) (by omega) (by omega) (fun g => wT a r cI g) (fun _ => rfl) dX1_handOn_93 (fun H locs f12 hf12 hP hD hS => ?_)
    refine lv_aload_n hx hb dX1_handOn_94 rfl (lv_at hl 3 rfl) ?_
    refine va_get (D := D) (ci := 1) (v := .ref r) (C := RX1) (T := TX1) (N := 1) hx hb hts hi1 hown hK hP 0 rfl rfl 0 (by decide) hfl11 (fun _ h9 => h9) rfl dX1_handOn_95 ?_
    refine lv_sipush (v := nI 135) hx hb dX1_handOn_98 (by decide) ?_
    refine lv_dup2_11 hx hb dX1_handOn_101 rfl rfl ?_
    refine q_ld hx hb hK hP 1 0 rfl rfl (j := 135) (by omega) (by omega) rfl dX1_handOn_102 ?_
    refine lv_iconst (v := nI 1) hx hb dX1_handOn_103 (by decide) ?_
    refine lv_iadd hx hb dX1_handOn_104 ?_
    refine lv_topi (fun x13 e13 => ?_)
    refine q_st hx hb hK hP hD hS 1 0 rfl rfl rfl (j := 135) (by omega) (by omega) (fun g => wT a r cI g) (fun _ => rfl) dX1_handOn_105 (fun H locs f14 hf14 hP hD hS => ?_)
    refine lv_aload_n hx hb dX1_handOn_106 rfl (lv_at hl 3 rfl) ?_
    refine va_get (D := D) (ci := 1) (v := .ref r) (C := RX1) (T := TX1) (N := 1) hx hb hts hi1 hown hK hP 0 rfl rfl 0 (by decide) hfl11 (fun _ h9 => h9) rfl dX1_handOn_107 ?_
    refine lv_bipush (v := nI 87) hx hb dX1_handOn_110 (by decide) ?_
    refine lv_iload hx hb dX1_handOn_112 (lv_at hl 0 rfl) ?_
    refine q_addN hx hb (87 + 8 * k + (hN f k)) (by omega) dX1_handOn_114 ?_
    refine lv_iload hx hb dX1_handOn_115 (lv_at hl 1 rfl) ?_
    refine q_st hx hb hK hP hD hS 1 0 rfl rfl rfl (j := (87 + 8 * k + (hN f k))) (by omega) (by omega) (fun g => wT a r cI g) (fun _ => rfl) dX1_handOn_117 (fun H locs f15 hf15 hP hD hS => ?_)
    refine lv_aload_n hx hb dX1_handOn_118 rfl (lv_at hl 3 rfl) ?_
    refine va_get (D := D) (ci := 1) (v := .ref r) (C := RX1) (T := TX1) (N := 1) hx hb hts hi1 hown hK hP 0 rfl rfl 0 (by decide) hfl11 (fun _ h9 => h9) rfl dX1_handOn_119 ?_
    refine lv_bipush (v := nI 78) hx hb dX1_handOn_122 (by decide) ?_
    refine lv_iload_n hx hb dX1_handOn_124 rfl (lv_at hl 4 rfl) ?_
    refine q_addN hx hb (78 + k) (by omega) dX1_handOn_125 ?_
    refine lv_iload hx hb dX1_handOn_126 (lv_at hl 1 rfl) ?_
    refine q_st hx hb hK hP hD hS 1 0 rfl rfl rfl (j := (78 + k)) (by omega) (by omega) (fun g => wT a r cI g) (fun _ => rfl) dX1_handOn_128 (fun H locs f16 hf16 hP hD hS => ?_)
    refine lv_aload_n hx hb dX1_handOn_129 rfl (lv_at hl 3 rfl) ?_
    refine va_get (D := D) (ci := 1) (v := .ref r) (C := RX1) (T := TX1) (N := 1) hx hb hts hi1 hown hK hP 0 rfl rfl 0 (by decide) hfl11 (fun _ h9 => h9) rfl dX1_handOn_130 ?_
    refine lv_bipush (v := nI 84) hx hb dX1_handOn_133 (by decide) ?_
    refine lv_iload_n hx hb dX1_handOn_135 rfl (lv_at hl 4 rfl) ?_
    refine q_addN hx hb (84 + k) (by omega) dX1_handOn_136 ?_
    refine lv_dup2_11 hx hb dX1_handOn_137 rfl rfl ?_
    refine q_ld hx hb hK hP 1 0 rfl rfl (j := (84 + k)) (by omega) (by omega) rfl dX1_handOn_138 ?_
    refine lv_iconst (v := nI 1) hx hb dX1_handOn_139 (by decide) ?_
    refine lv_iadd hx hb dX1_handOn_140 ?_
    refine lv_topi (fun x17 e17 => ?_)
    refine q_st hx hb hK hP hD hS 1 0 rfl rfl rfl (j := (84 + k)) (by omega) (by omega) (fun g => wT a r cI g) (fun _ => rfl) dX1_handOn_141 (fun H locs f18 hf18 hP hD hS => ?_)
    refine lv_aload_n hx hb dX1_handOn_142 rfl (lv_at hl 3 rfl) ?_
    refine va_get (D := D) (ci := 1) (v := .ref r) (C := RX1) (T := TX1) (N := 1) hx hb hts hi1 hown hK hP 0 rfl rfl 0 (by decide) hfl11 (fun _ h9 => h9) rfl dX1_handOn_143 ?_
    refine lv_bipush (v := nI 72) hx hb dX1_handOn_146 (by decide) ?_
    refine lv_iload_n hx hb dX1_handOn_148 rfl (lv_at hl 4 rfl) ?_
    refine q_addN hx hb (72 + k) (by omega) dX1_handOn_149 ?_
    refine lv_iload_n hx hb dX1_handOn_150 rfl (lv_at hl 2 rfl) ?_
    refine lv_iload_n hx hb dX1_handOn_151 rfl (lv_at hl 5 rfl) ?_
    refine q_addN hx hb ((hN f k) + d) (by omega) dX1_handOn_152 ?_
    refine lv_bipush (v := nI 8) hx hb dX1_handOn_153 (by decide) ?_
    refine q_remN hx hb (((hN f k) + d) % 8) rfl (by omega) (by omega) (by omega) dX1_handOn_155 ?_
    refine q_st hx hb hK hP hD hS 1 0 rfl rfl rfl (j := (72 + k)) (by omega) (by omega) (fun g => wT a r cI g) (fun _ => rfl) dX1_handOn_156 (fun H locs f19 hf19 hP hD hS => ?_)
    refine lv_aload_n hx hb dX1_handOn_157 rfl (lv_at hl 3 rfl) ?_
    refine va_get (D := D) (ci := 1) (v := .ref r) (C := RX1) (T := TX1) (N := 1) hx hb hts hi1 hown hK hP 0 rfl rfl 0 (by decide) hfl11 (fun _ h9 => h9) rfl dX1_handOn_158 ?_
    refine lv_bipush (v := nI 72) hx hb dX1_handOn_161 (by decide) ?_
    refine lv_iload_n hx hb dX1_handOn_163 rfl (lv_at hl 4 rfl) ?_
    refine q_addN hx hb (72 + k) (by omega) dX1_handOn_164 ?_
    refine q_ld hx hb hK hP 1 0 rfl rfl (j := (72 + k)) (by omega) (by omega) rfl dX1_handOn_165 ?_
    have hE : f19 = g_hand f k d := by
      subst hf19 hf18 e17 hf16 hf15 hf14 e13 hf12 e4 e3 e2 e1
      first | rfl | (simp only [g_hand, g_tl, g_wh, g_w0, c5, ↓reduceIte]; done) | (simp only [g_hand, g_tl, g_wh, g_w0, c5, ↓reduceIte]; rfl)
    refine hret _ _ _ _ _ rfl ?_ (by rw [← hE]; exact hP 1 _ rfl) hS dX1_handOn_166
    subst hf19 hf18 e17 hf16 hf15 hf14 e13 hf12 e4 e3 e2 e1
    exact pk_us
set_option maxHeartbeats 4000000 in
set_option maxRecDepth 100000 in
theorem m1_allDrink (l : Launch) (D : va_G) (cI : ClassId) (a r : Nat) (f : Nat → Int32) (hne : a ≠ r) : q_V l yX1_allDrink wsX1_allDrink { frames := 2, cells := 0, slots := 0, locals := 56 } [.ref a] (q_bp D (wT a r cI f) [(cI, .int)]) (fun H => va_at D vwCl (r, .inl (cI, 138, .inl (g_all 8 f))) H) (fun q => q = r) 0 0 := by
  refine q_goV (cc := cX1_allDrink) (maxL := 2) (lv0 := [(0, .ref a)]) (by decide) rfl (Nat.le_of_ble_eq_true rfl) rfl ?_
  intro p e s m args below meth c Q ls hx hb hml hts hown hP hK hl hret hnm
  have hi1 : ∀ w ∈ wsX10, w ∈ wsX1_allDrink := by decide +kernel
  have hfl11 := hts (.fieldLink RX1 11 "WhisperedPots$Table" "row" "[I") (by decide +kernel)
  have hS : va_S (fun q => q = r) s.heap s.heap [] := va_S.rf
  have hD : va_D (fun _ => True) (wT a r cI f) := q_dT hne
  refine lv_iconst (v := nI 0) hx hb dX1_allDrink_0 (by decide) ?_
  refine lv_istore_n (lv' := [(1, .int (nI 0)), (0, .ref a)]) hx hb dX1_allDrink_1 rfl hl (by decide) rfl (fun ls hl => ?_)
  have LP : ∀ (n i : Nat)  (H : Heap) (locs : List Loc) (ls : Array Slot), i + n = 8 → va_P D vwCl (wT a r cI (g_all i f)) H → va_D (fun _ => True) (wT a r cI (g_all i f)) → va_S (fun q => q = r) s.heap H locs → lv_has ls 2 [(1, .int (nI i)), (0, .ref a)] → W p l e { frames := 2, cells := 0, slots := 0, locals := 56 } s m args below meth c H locs 0 0 Q (F0 m 2 ls []) := by
    intro n
    induction n with
    | zero =>
      intro i  H locs ls hi  hP hD hS hl
      obtain rfl : i = 8 := by omega
      refine lv_iload_n hx hb dX1_allDrink_2 rfl (lv_at hl 0 rfl) ?_
      refine lv_bipush (v := nI 8) hx hb dX1_allDrink_3 (by decide) ?_
      refine q_geN (tgt := 20) hx hb (by omega) (by omega) dX1_allDrink_5 (by decide) (fun c1 => ?_) (fun c1 => absurd c1 (by omega))
      have hE : (g_all 8 f) = g_all 8 f := by
        rfl
      exact hret _ _ _ _ (by rw [← hE]; exact hP 1 _ rfl) hS dX1_allDrink_20
    | succ n ih =>
      intro i  H locs ls hi  hP hD hS hl
      refine lv_iload_n hx hb dX1_allDrink_2 rfl (lv_at hl 0 rfl) ?_
      refine lv_bipush (v := nI 8) hx hb dX1_allDrink_3 (by decide) ?_
      refine q_geN (tgt := 20) hx hb (by omega) (by omega) dX1_allDrink_5 (by decide) (fun c2 => absurd c2 (by omega)) (fun c2 => ?_)
      refine lv_aload_n hx hb dX1_allDrink_8 rfl (lv_at hl 1 rfl) ?_
      refine lv_iload_n hx hb dX1_allDrink_9 rfl (lv_at hl 0 rfl) ?_
      refine q_ci1 (i := 1) (ws' := wT a r cI (g_drink (g_all i f) i)) (va_runV (rm := { frames := 1, cells := 0, slots := 0, locals := 34 }) (As := [.int (nI i)]) (rest := []) ⟨hx, hb, hml, hown, hts⟩ (m1_drinkFrom l D cI a r i (g_all i f) (by omega) hne) (cwV 1 hts gX1_allDrink_X1_drinkFrom rfl rfl rfl (by decide +kernel) ⟨Nat.le_of_ble_eq_true rfl, Nat.le_of_ble_eq_true rfl⟩) (q_pV (ci := 1) (q0 := 0) hP hK rfl rfl) rfl rfl hl.1 rfl (lv_room (Nat.le_of_ble_eq_true rfl)) dX1_allDrink_10 ⟨Nat.le_of_ble_eq_true rfl, Nat.le_of_ble_eq_true rfl⟩) hP hD hS rfl rfl rfl (fun x3 H locs e3 hP hD hS => ?_)
      obtain ⟨f3, hf3⟩ : ∃ z, z = g_drink (g_all i f) i := ⟨_, rfl⟩
      rw [← hf3] at hP hD
      have e3 : x3 = g_dr (g_all i f) i := e3
      refine lv_pop hx hb dX1_allDrink_13 rfl ?_
      refine lv_iinc (v := (nI (i + 1))) (lv' := [(1, .int (nI (i + 1))), (0, .ref a)]) hx hb dX1_allDrink_14 hl (k := 0) rfl (q_inc i 1 (i + 1) (by omega)) (by decide) rfl (fun ls hl => ?_)
      refine lv_goto (tgt := 2) hx hb dX1_allDrink_17 (by decide) ?_
      have hw : f3 = g_all (i + 1) f := by
        subst e3 hf3
        rfl
      rw [hw] at hP hD
      exact ih (i + 1) _ _ _ (by omega) hP hD hS (lv_sub hl [0, 1] rfl)
  exact LP 8 0  _ _ _ (by omega)  hP hD hS (lv_sub hl [0, 1] rfl)
set_option maxHeartbeats 4000000 in
set_option maxRecDepth 100000 in
theorem m1_goRound (l : Launch) (D : va_G) (cI : ClassId) (a r k : Nat) (f : Nat → Int32) (hk : k < 3) (hR0 : Okr 8 f k) (hne : a ≠ r) : q_I l yX1_goRound wsX1_goRound { frames := 4, cells := 0, slots := 0, locals := 93 } [.ref a, .int (nI k)] (q_bp D (wT a r cI f) [(cI, .int)]) (fun v => v = nI (g_rc 8 f k)) (fun H => va_at D vwCl (r, .inl (cI, 138, .inl (g_rn 8 f k))) H) (fun q => q = r) 0 0 := by
  refine q_goI (cc := cX1_goRound) (maxL := 6) (ty := .int) (lv0 := [(0, .ref a), (1, .int (nI k))]) (by decide) rfl (Nat.le_of_ble_eq_true rfl) rfl ?_
  intro p e s m args below meth c Q ls hx hb hml hts hown hP hK hl hret
  have hi1 : ∀ w ∈ wsX10, w ∈ wsX1_goRound := by decide +kernel
  have hfl11 := hts (.fieldLink RX1 11 "WhisperedPots$Table" "row" "[I") (by decide +kernel)
  have hS : va_S (fun q => q = r) s.heap s.heap [] := va_S.rf
  have hD : va_D (fun _ => True) (wT a r cI f) := q_dT hne
  refine lv_iconst (v := nI 0) hx hb dX1_goRound_0 (by decide) ?_
  refine lv_istore_n (lv' := [(2, .int (nI 0)), (0, .ref a), (1, .int (nI k))]) hx hb dX1_goRound_1 rfl hl (by decide) rfl (fun ls hl => ?_)
  refine lv_iconst (v := nI 0) hx hb dX1_goRound_2 (by decide) ?_
  refine lv_istore_n (lv' := [(3, .int (nI 0)), (2, .int (nI 0)), (0, .ref a), (1, .int (nI k))]) hx hb dX1_goRound_3 rfl hl (by decide) rfl (fun ls hl => ?_)
  have LP : ∀ (n i : Nat) (fa : Nat → Int32) (pn : Nat) (H : Heap) (locs : List Loc) (ls : Array Slot), i + n = 8 → (hR : Okr n fa k) → (hF : g_rn n fa k = g_rn 8 f k) → (hC : pn + g_rc n fa k = g_rc 8 f k) → va_P D vwCl (wT a r cI fa) H → va_D (fun _ => True) (wT a r cI fa) → va_S (fun q => q = r) s.heap H locs → lv_has ls 6 [(3, .int (nI i)), (2, .int (nI pn)), (0, .ref a), (1, .int (nI k))] → W p l e { frames := 4, cells := 0, slots := 0, locals := 93 } s m args below meth c H locs 0 0 Q (F0 m 4 ls []) := by
    intro n
    induction n with
    | zero =>
      intro i fa pn H locs ls hi hR hF hC hP hD hS hl
      obtain rfl : i = 8 := by omega
      refine lv_iload_n hx hb dX1_goRound_4 rfl (lv_at hl 0 rfl) ?_
      refine lv_bipush (v := nI 8) hx hb dX1_goRound_5 (by decide) ?_
      refine q_geN (tgt := 87) hx hb (by omega) (by omega) dX1_goRound_7 (by decide) (fun c1 => ?_) (fun c1 => absurd c1 (by omega))
      refine lv_iload_n hx hb dX1_goRound_87 rfl (lv_at hl 1 rfl) ?_
      have hE : fa = g_rn 8 f k := by
        exact hF
      refine hret _ _ _ _ _ rfl ?_ (by rw [← hE]; exact hP 1 _ rfl) hS dX1_goRound_88
      rw [← hC]
      rfl
    | succ n ih =>
      intro i fa pn H locs ls hi hR hF hC hP hD hS hl
      refine lv_iload_n hx hb dX1_goRound_4 rfl (lv_at hl 0 rfl) ?_
      refine lv_bipush (v := nI 8) hx hb dX1_goRound_5 (by decide) ?_
      refine q_geN (tgt := 87) hx hb (by omega) (by omega) dX1_goRound_7 (by decide) (fun c2 => absurd c2 (by omega)) (fun c2 => ?_)
      obtain ⟨hO, hO2, hR⟩ := hR
      have h8 := hO.2
      refine lv_aload_n hx hb dX1_goRound_10 rfl (lv_at hl 2 rfl) ?_
      refine va_get (D := D) (ci := 1) (v := .ref r) (C := RX1) (T := TX1) (N := 1) hx hb hts hi1 hown hK hP 0 rfl rfl 0 (by decide) hfl11 (fun _ h9 => h9) rfl dX1_goRound_11 ?_
      refine lv_bipush (v := nI 72) hx hb dX1_goRound_14 (by decide) ?_
      refine lv_iload_n hx hb dX1_goRound_16 rfl (lv_at hl 3 rfl) ?_
      refine q_addN hx hb (72 + k) (by omega) dX1_goRound_17 ?_
      refine q_ld hx hb hK hP 1 0 rfl rfl (j := (72 + k)) (v := (nI ((hN fa k)))) (by omega) (by omega) hO.1 dX1_goRound_18 ?_
      refine lv_istore (lv' := [(4, .int (nI ((hN fa k)))), (3, .int (nI i)), (2, .int (nI pn)), (0, .ref a), (1, .int (nI k))]) hx hb dX1_goRound_19 hl (by decide) rfl (fun ls hl => ?_)
      refine lv_iconst (v := nI 2) hx hb dX1_goRound_21 (by decide) ?_
      refine lv_aload_n hx hb dX1_goRound_22 rfl (lv_at hl 3 rfl) ?_
      refine va_get (D := D) (ci := 1) (v := .ref r) (C := RX1) (T := TX1) (N := 1) hx hb hts hi1 hown hK hP 0 rfl rfl 0 (by decide) hfl11 (fun _ h9 => h9) rfl dX1_goRound_23 ?_
      refine lv_bipush (v := nI 8) hx hb dX1_goRound_26 (by decide) ?_
      refine lv_iload hx hb dX1_goRound_28 (lv_at hl 0 rfl) ?_
      refine q_addN hx hb (8 + (hN fa k)) (by omega) dX1_goRound_30 ?_
      refine q_ld hx hb hK hP 1 0 rfl rfl (j := (8 + (hN fa k))) (by omega) (by omega) rfl dX1_goRound_31 ?_
      refine lv_imul hx hb dX1_goRound_32 ?_
      refine lv_aload_n hx hb dX1_goRound_33 rfl (lv_at hl 3 rfl) ?_
      refine va_get (D := D) (ci := 1) (v := .ref r) (C := RX1) (T := TX1) (N := 1) hx hb hts hi1 hown hK hP 0 rfl rfl 0 (by decide) hfl11 (fun _ h9 => h9) rfl dX1_goRound_34 ?_
      refine lv_iconst (v := nI 0) hx hb dX1_goRound_37 (by decide) ?_
      refine lv_iload hx hb dX1_goRound_38 (lv_at hl 0 rfl) ?_
      refine q_addN hx hb ((hN fa k)) (by omega) dX1_goRound_40 ?_
      refine q_ld hx hb hK hP 1 0 rfl rfl (j := ((hN fa k))) (by omega) (by omega) rfl dX1_goRound_41 ?_
      refine lv_icmp_ge (tgt := 49) hx hb dX1_goRound_42 (by decide) (fun c3 => ?_) (fun c3 => ?_)
      ·
        refine lv_iconst (v := nI 0) hx hb dX1_goRound_49 (by decide) ?_
        refine lv_istore (lv' := [(5, .int (nI 0)), (4, .int (nI ((hN fa k)))), (3, .int (nI i)), (2, .int (nI pn)), (0, .ref a), (1, .int (nI k))]) hx hb dX1_goRound_50 hl (by decide) rfl (fun ls hl => ?_)
        refine lv_iload hx hb dX1_goRound_52 (lv_at hl 0 rfl) ?_
        refine lv_if_eq (tgt := 74) hx hb dX1_goRound_54 (by decide) (fun c4 => ?_) (fun c4 => absurd (by decide) c4)
        have hp : ¬ (¬ fa (hN fa k) ≤ nI 2 * fa (8 + hN fa k) ∧ g_wy fa k = 0) := fun z => z.1 c3
        rw [if_neg hp] at hO2
        have hst : g_st fa k = g_hand fa k 1 := by
          unfold g_st
          rw [if_neg hp]
        have hrc : g_rc (n + 1) fa k = 0 + g_rc n (g_st fa k) k := by
          show (if ¬ fa (hN fa k) ≤ nI 2 * fa (8 + hN fa k) ∧ g_wy fa k = 0 then 1 else 0) + _ = _
          rw [if_neg hp]
        refine lv_aload_n hx hb dX1_goRound_74 rfl (lv_at hl 4 rfl) ?_
        refine lv_iload_n hx hb dX1_goRound_75 rfl (lv_at hl 5 rfl) ?_
        refine lv_iconst (v := nI 1) hx hb dX1_goRound_76 (by decide) ?_
        refine q_ci1 (i := 1) (ws' := wT a r cI (g_hand fa k 1)) (va_runV (rm := { frames := 2, cells := 0, slots := 0, locals := 44 }) (As := [.int (nI k), .int (nI 1)]) (rest := []) ⟨hx, hb, hml, hown, hts⟩ (m1_handOn l D cI a r k 1 fa hk hO2.1 hO2.2 (by omega) hne) (cwV 2 hts gX1_goRound_X1_handOn rfl rfl rfl (by decide +kernel) ⟨Nat.le_of_ble_eq_true rfl, Nat.le_of_ble_eq_true rfl⟩) (q_pV (ci := 1) (q0 := 0) hP hK rfl rfl) rfl rfl hl.1 rfl (lv_room (Nat.le_of_ble_eq_true rfl)) dX1_goRound_77 ⟨Nat.le_of_ble_eq_true rfl, Nat.le_of_ble_eq_true rfl⟩) hP hD hS rfl rfl rfl (fun x5 H locs e5 hP hD hS => ?_)
        obtain ⟨f5, hf5⟩ : ∃ z, z = g_hand fa k 1 := ⟨_, rfl⟩
        rw [← hf5] at hP hD
        have e5 : x5 = nI ((hN fa k + 1) % 8) := e5
        refine lv_pop hx hb dX1_goRound_80 rfl ?_
        refine lv_iinc (v := (nI (i + 1))) (lv' := [(3, .int (nI (i + 1))), (5, .int (nI 0)), (4, .int (nI ((hN fa k)))), (2, .int (nI pn)), (0, .ref a), (1, .int (nI k))]) hx hb dX1_goRound_81 hl (k := 2) rfl (q_inc i 1 (i + 1) (by omega)) (by decide) rfl (fun ls hl => ?_)
        refine lv_goto (tgt := 4) hx hb dX1_goRound_84 (by decide) ?_
        rw [hst, ← hf5] at hR
        have hF : g_rn n f5 k = g_rn 8 f k := by rw [← hF, hf5, ← hst]; rfl
        have hC : pn + g_rc n f5 k = g_rc 8 f k := by rw [← hC, hrc, hf5, ← hst]; omega
        exact ih (i + 1) f5 pn _ _ _ (by omega) hR hF hC hP hD hS (lv_sub hl [0, 3, 4, 5] rfl)
      ·
        refine lv_iconst (v := nI 1) hx hb dX1_goRound_45 (by decide) ?_
        refine lv_goto (tgt := 50) hx hb dX1_goRound_46 (by decide) ?_
        refine lv_istore (lv' := [(5, .int (nI 1)), (4, .int (nI ((hN fa k)))), (3, .int (nI i)), (2, .int (nI pn)), (0, .ref a), (1, .int (nI k))]) hx hb dX1_goRound_50 hl (by decide) rfl (fun ls hl => ?_)
        refine lv_iload hx hb dX1_goRound_52 (lv_at hl 0 rfl) ?_
        refine lv_if_eq (tgt := 74) hx hb dX1_goRound_54 (by decide) (fun c6 => absurd c6 (by decide)) (fun c6 => ?_)
        refine lv_aload_n hx hb dX1_goRound_57 rfl (lv_at hl 4 rfl) ?_
        refine lv_iload_n hx hb dX1_goRound_58 rfl (lv_at hl 5 rfl) ?_
        refine q_ciR (va_runV (rm := { frames := 1, cells := 0, slots := 0, locals := 21 }) (As := [.int (nI k)]) (rest := []) ⟨hx, hb, hml, hown, hts⟩ (m1_whyNotPour l D cI a r k fa hk hO) (cwV 1 hts gX1_goRound_X1_whyNotPour rfl rfl rfl (by decide +kernel) ⟨Nat.le_of_ble_eq_true rfl, Nat.le_of_ble_eq_true rfl⟩) (q_pV (ci := 1) (q0 := 0) hP hK rfl rfl) rfl rfl hl.1 rfl (lv_room (Nat.le_of_ble_eq_true rfl)) dX1_goRound_59 ⟨Nat.le_of_ble_eq_true rfl, Nat.le_of_ble_eq_true rfl⟩) hP hS (fun x7 H locs e7 hP hS => ?_)
        have e7 : x7 = g_wy fa k := e7
        refine lv_if_ne (tgt := 74) hx hb dX1_goRound_62 (by decide) (fun c8 => ?_) (fun c8 => ?_)
        ·
          have hp : ¬ (¬ fa (hN fa k) ≤ nI 2 * fa (8 + hN fa k) ∧ g_wy fa k = 0) := fun z => c8 (by rw [e7]; exact z.2)
          rw [if_neg hp] at hO2
          have hst : g_st fa k = g_hand fa k 1 := by
            unfold g_st
            rw [if_neg hp]
          have hrc : g_rc (n + 1) fa k = 0 + g_rc n (g_st fa k) k := by
            show (if ¬ fa (hN fa k) ≤ nI 2 * fa (8 + hN fa k) ∧ g_wy fa k = 0 then 1 else 0) + _ = _
            rw [if_neg hp]
          refine lv_aload_n hx hb dX1_goRound_74 rfl (lv_at hl 4 rfl) ?_
          refine lv_iload_n hx hb dX1_goRound_75 rfl (lv_at hl 5 rfl) ?_
          refine lv_iconst (v := nI 1) hx hb dX1_goRound_76 (by decide) ?_
          refine q_ci1 (i := 1) (ws' := wT a r cI (g_hand fa k 1)) (va_runV (rm := { frames := 2, cells := 0, slots := 0, locals := 44 }) (As := [.int (nI k), .int (nI 1)]) (rest := []) ⟨hx, hb, hml, hown, hts⟩ (m1_handOn l D cI a r k 1 fa hk hO2.1 hO2.2 (by omega) hne) (cwV 2 hts gX1_goRound_X1_handOn rfl rfl rfl (by decide +kernel) ⟨Nat.le_of_ble_eq_true rfl, Nat.le_of_ble_eq_true rfl⟩) (q_pV (ci := 1) (q0 := 0) hP hK rfl rfl) rfl rfl hl.1 rfl (lv_room (Nat.le_of_ble_eq_true rfl)) dX1_goRound_77 ⟨Nat.le_of_ble_eq_true rfl, Nat.le_of_ble_eq_true rfl⟩) hP hD hS rfl rfl rfl (fun x9 H locs e9 hP hD hS => ?_)
          obtain ⟨f9, hf9⟩ : ∃ z, z = g_hand fa k 1 := ⟨_, rfl⟩
          rw [← hf9] at hP hD
          have e9 : x9 = nI ((hN fa k + 1) % 8) := e9
          refine lv_pop hx hb dX1_goRound_80 rfl ?_
          refine lv_iinc (v := (nI (i + 1))) (lv' := [(3, .int (nI (i + 1))), (5, .int (nI 1)), (4, .int (nI ((hN fa k)))), (2, .int (nI pn)), (0, .ref a), (1, .int (nI k))]) hx hb dX1_goRound_81 hl (k := 2) rfl (q_inc i 1 (i + 1) (by omega)) (by decide) rfl (fun ls hl => ?_)
          refine lv_goto (tgt := 4) hx hb dX1_goRound_84 (by decide) ?_
          rw [hst, ← hf9] at hR
          have hF : g_rn n f9 k = g_rn 8 f k := by rw [← hF, hf9, ← hst]; rfl
          have hC : pn + g_rc n f9 k = g_rc 8 f k := by rw [← hC, hrc, hf9, ← hst]; omega
          exact ih (i + 1) f9 pn _ _ _ (by omega) hR hF hC hP hD hS (lv_sub hl [0, 3, 4, 5] rfl)
        ·
          refine lv_aload_n hx hb dX1_goRound_65 rfl (lv_at hl 4 rfl) ?_
          refine lv_iload_n hx hb dX1_goRound_66 rfl (lv_at hl 5 rfl) ?_
          refine q_ci1 (i := 1) (ws' := wT a r cI (g_pour fa k)) (va_runV (rm := { frames := 3, cells := 0, slots := 0, locals := 69 }) (As := [.int (nI k)]) (rest := []) ⟨hx, hb, hml, hown, hts⟩ (m1_pourFrom l D cI a r k fa hk hO hne) (cwV 1 hts gX1_goRound_X1_pourFrom rfl rfl rfl (by decide +kernel) ⟨Nat.le_of_ble_eq_true rfl, Nat.le_of_ble_eq_true rfl⟩) (q_pV (ci := 1) (q0 := 0) hP hK rfl rfl) rfl rfl hl.1 rfl (lv_room (Nat.le_of_ble_eq_true rfl)) dX1_goRound_67 ⟨Nat.le_of_ble_eq_true rfl, Nat.le_of_ble_eq_true rfl⟩) hP hD hS rfl rfl rfl (fun x10 H locs e10 hP hD hS => ?_)
          obtain ⟨f10, hf10⟩ : ∃ z, z = g_pour fa k := ⟨_, rfl⟩
          rw [← hf10] at hP hD
          have e10 : x10 = g_ov fa k := e10
          refine lv_pop hx hb dX1_goRound_70 rfl ?_
          refine lv_iinc (v := (nI (pn + 1))) (lv' := [(2, .int (nI (pn + 1))), (5, .int (nI 1)), (4, .int (nI ((hN fa k)))), (3, .int (nI i)), (0, .ref a), (1, .int (nI k))]) hx hb dX1_goRound_71 hl (k := 3) rfl (q_inc pn 1 (pn + 1) (by omega)) (by decide) rfl (fun ls hl => ?_)
          have hp : ¬ fa (hN fa k) ≤ nI 2 * fa (8 + hN fa k) ∧ g_wy fa k = 0 := ⟨c3, by rw [← e7]; exact c8⟩
          rw [if_pos hp] at hO2
          rw [← hf10] at hO2
          have hst : g_st fa k = g_hand f10 k 1 := by
            unfold g_st
            rw [if_pos hp, ← hf10]
          have hrc : g_rc (n + 1) fa k = 1 + g_rc n (g_st fa k) k := by
            show (if ¬ fa (hN fa k) ≤ nI 2 * fa (8 + hN fa k) ∧ g_wy fa k = 0 then 1 else 0) + _ = _
            rw [if_pos hp]
          refine lv_aload_n hx hb dX1_goRound_74 rfl (lv_at hl 4 rfl) ?_
          refine lv_iload_n hx hb dX1_goRound_75 rfl (lv_at hl 5 rfl) ?_
          refine lv_iconst (v := nI 1) hx hb dX1_goRound_76 (by decide) ?_
          refine q_ci1 (i := 1) (ws' := wT a r cI (g_hand f10 k 1)) (va_runV (rm := { frames := 2, cells := 0, slots := 0, locals := 44 }) (As := [.int (nI k), .int (nI 1)]) (rest := []) ⟨hx, hb, hml, hown, hts⟩ (m1_handOn l D cI a r k 1 f10 hk hO2.1 hO2.2 (by omega) hne) (cwV 2 hts gX1_goRound_X1_handOn rfl rfl rfl (by decide +kernel) ⟨Nat.le_of_ble_eq_true rfl, Nat.le_of_ble_eq_true rfl⟩) (q_pV (ci := 1) (q0 := 0) hP hK rfl rfl) rfl rfl hl.1 rfl (lv_room (Nat.le_of_ble_eq_true rfl)) dX1_goRound_77 ⟨Nat.le_of_ble_eq_true rfl, Nat.le_of_ble_eq_true rfl⟩) hP hD hS rfl rfl rfl (fun x11 H locs e11 hP hD hS => ?_)
          obtain ⟨f11, hf11⟩ : ∃ z, z = g_hand f10 k 1 := ⟨_, rfl⟩
          rw [← hf11] at hP hD
          have e11 : x11 = nI ((hN f10 k + 1) % 8) := e11
          refine lv_pop hx hb dX1_goRound_80 rfl ?_
          refine lv_iinc (v := (nI (i + 1))) (lv' := [(3, .int (nI (i + 1))), (2, .int (nI (pn + 1))), (5, .int (nI 1)), (4, .int (nI ((hN fa k)))), (0, .ref a), (1, .int (nI k))]) hx hb dX1_goRound_81 hl (k := 3) rfl (q_inc i 1 (i + 1) (by omega)) (by decide) rfl (fun ls hl => ?_)
          refine lv_goto (tgt := 4) hx hb dX1_goRound_84 (by decide) ?_
          rw [hst, ← hf11] at hR
          have hF : g_rn n f11 k = g_rn 8 f k := by rw [← hF, hf11, ← hst]; rfl
          have hC : pn + 1 + g_rc n f11 k = g_rc 8 f k := by rw [← hC, hrc, hf11, ← hst]; omega
          exact ih (i + 1) f11 (pn + 1) _ _ _ (by omega) hR hF hC hP hD hS (lv_sub hl [0, 1, 4, 5] rfl)
  exact LP 8 0 f 0 _ _ _ (by omega) hR0 rfl (Nat.zero_add _) hP hD hS (lv_sub hl [0, 1, 2, 3] rfl)

