set_option maxHeartbeats 4000000 in
set_option maxRecDepth 100000 in
theorem m3_digest (l : Launch) (D : va_G) (cI : ClassId) (o ps pa pv pn px : Nat) (f fa fv fn fx : Nat → Int32) (B : Nat) (hI : Inv B f) (hB : B + 33600 < 2000000000) (hB8 : 8 * B < 2147483648) (ns : Nat) (hn : ns ≤ 6) (hs : Nat) (hhs : hs ≤ 1) (th sp wr le wh te : Int32) (dg : Int64) (ch : Nat → Nat) (len : Nat) (hlen : len ≤ 60) (hfx : ∀ j, j < len → fx j = nI (ch j)) (sb : Int64) (hsb : rbt (g_share f) = some sb) (tb : Int32) (htb : fbt (g_trust f) = some tb) (hD : va_D (fun _ => True) (wR o ps pa pv pn px cI (oM ps pa pv pn px th (nI ns) (nI hs) (nI len) sp wr le wh te dg) (rr f) fa fv fn fx)) : q_Lg l yX3_digest wsX3_digest { frames := 9, cells := 0, slots := 0, locals := 206 } [.ref o] (q_bp D (wR o ps pa pv pn px cI (oM ps pa pv pn px th (nI ns) (nI hs) (nI len) sp wr le wh te dg) (rr f) fa fv fn fx) [(cI, .int)]) (fun v => v = dig f ns hs ch len sb tb.toInt64) (fun H => ∃ (dz : Int64) (fz : Nat → Int32), va_P D vwCl (wR o ps pa pv pn px cI (oM ps pa pv pn px (nI 0) (nI ns) (nI hs) (nI len) sp wr le wh te dz) (rr f) fz fv fn fx) H) (AM o ps pa pv pn px) 0 0 := by
  refine q_goL (cc := cX3_digest) (maxL := 2) (lv0 := [(0, .ref o)]) (by decide) rfl (Nat.le_of_ble_eq_true rfl) rfl ?_
  intro p e s m args below meth c Q ls hx hb hml hts hown hP hK hl hret
  have hi3 : ∀ w ∈ wsX30, w ∈ wsX3_digest := by decide +kernel
  have hfl32 := hts (.fieldLink RX3 32 "WhisperedPotsModel" "thrown" "I") (by decide +kernel)
  have hfl197 := hts (.fieldLink RX3 197 "WhisperedPotsModel" "digested" "J") (by decide +kernel)
  have hfl7 := hts (.fieldLink RX3 7 "WhisperedPotsModel" "s" "[I") (by decide +kernel)
  have hfl136 := hts (.fieldLink RX3 136 "WhisperedPotsModel" "isKept" "Z") (by decide +kernel)
  have hfl99 := hts (.fieldLink RX3 99 "WhisperedPotsModel" "length" "I") (by decide +kernel)
  have hfl22 := hts (.fieldLink RX3 22 "WhisperedPotsModel" "text" "[I") (by decide +kernel)
  have hS : va_S (AM o ps pa pv pn px) s.heap s.heap [] := va_S.rf
  have hne : o ≠ ps := fun h => absurd (hD.1 0 1 _ _ rfl rfl h) (by decide)
  have ht24 : tN f ≤ 24 := by rw [hI.tale.2]; exact cnt_le f 24
  refine lv_aload_n hx hb dX3_digest_0 rfl (lv_at hl 0 rfl) ?_
  refine lv_iconst (v := nI 0) hx hb dX3_digest_1 (by decide) ?_
  refine q_pt (D := D) (ci := 3) (v := .int (nI 0)) (ty := .int) (C := RX3) (T := TX3) (N := 15) hx hb hts hi3 tyX3 tyX3_ok nmX3 hown hK hP hD hS (Or.inl rfl) 0 rfl rfl 0 (by decide) hfl32 (fun _ h9 => h9) rfl (by decide +kernel) rfl rfl (Nat.le_of_ble_eq_true rfl) (ws' := wR o ps pa pv pn px cI (oM ps pa pv pn px (nI 0) (nI ns) (nI hs) (nI len) sp wr le wh te dg) (rr f) fa fv fn fx) rfl dX3_digest_2 (fun H locs hP hD hS => ?_)
  refine lv_aload_n hx hb dX3_digest_5 rfl (lv_at hl 0 rfl) ?_
  refine lv_ldc2 hx hb hown (hts (.constantLong RX3 205 (3779)) (by decide +kernel)) dX3_digest_6 ?_
  refine q_pt (D := D) (ci := 3) (v := .long 3779) (ty := .long) (C := RX3) (T := TX3) (N := 15) hx hb hts hi3 tyX3 tyX3_ok nmX3 hown hK hP hD hS (Or.inl rfl) 0 rfl rfl 14 (by decide) hfl197 (fun _ h9 => h9) rfl (by decide +kernel) rfl rfl (Nat.le_of_ble_eq_true rfl) (ws' := wR o ps pa pv pn px cI (oM ps pa pv pn px (nI 0) (nI ns) (nI hs) (nI len) sp wr le wh te 3779) (rr f) fa fv fn fx) rfl dX3_digest_9 (fun H locs hP hD hS => ?_)
  refine lv_iconst (v := nI 0) hx hb dX3_digest_12 (by decide) ?_
  refine lv_istore_n (lv' := [(1, .int (nI 0)), (0, .ref o)]) hx hb dX3_digest_13 rfl hl (by decide) rfl (fun ls hl => ?_)
  have LA : ∀ (n i : Nat)  (H : Heap) (locs : List Loc) (ls : Array Slot), i + n = 10 → va_P D vwCl (wR o ps pa pv pn px cI (oM ps pa pv pn px (nI 0) (nI ns) (nI hs) (nI len) sp wr le wh te (fo (g_ct f ns) i 3779)) (rr f) fa fv fn fx) H → va_D (fun _ => True) (wR o ps pa pv pn px cI (oM ps pa pv pn px (nI 0) (nI ns) (nI hs) (nI len) sp wr le wh te (fo (g_ct f ns) i 3779)) (rr f) fa fv fn fx) → va_S (AM o ps pa pv pn px) s.heap H locs → lv_has ls 2 [(1, .int (nI i)), (0, .ref o)] → W p l e { frames := 9, cells := 0, slots := 0, locals := 206 } s m args below meth c H locs 0 0 Q (F0 m 14 ls []) := by
    intro n
    induction n with
    | zero =>
      intro i  H locs ls hi  hP hD hS hl
      obtain rfl : 10 = i := by omega
      refine lv_iload_n hx hb dX3_digest_14 rfl (lv_at hl 0 rfl) ?_
      refine lv_bipush (v := nI 10) hx hb dX3_digest_15 (by decide) ?_
      refine q_geN (tgt := 36) hx hb (by omega) (by omega) dX3_digest_17 (by decide) (fun c1 => ?_) (fun c1 => absurd c1 (by decide))
      refine lv_iconst (v := nI 0) hx hb dX3_digest_36 (by decide) ?_
      refine lv_istore_n (lv' := [(1, .int (nI 0)), (0, .ref o)]) hx hb dX3_digest_37 rfl hl (by decide) rfl (fun ls hl => ?_)
      have LB : ∀ (n i : Nat)  (H : Heap) (locs : List Loc) (ls : Array Slot), i + n = 80 → va_P D vwCl (wR o ps pa pv pn px cI (oM ps pa pv pn px (nI 0) (nI ns) (nI hs) (nI len) sp wr le wh te (fo (fun k => g_gu f (k / 10) (k % 10)) i (fo (g_ct f ns) 10 3779))) (rr f) fa fv fn fx) H → va_D (fun _ => True) (wR o ps pa pv pn px cI (oM ps pa pv pn px (nI 0) (nI ns) (nI hs) (nI len) sp wr le wh te (fo (fun k => g_gu f (k / 10) (k % 10)) i (fo (g_ct f ns) 10 3779))) (rr f) fa fv fn fx) → va_S (AM o ps pa pv pn px) s.heap H locs → lv_has ls 2 [(1, .int (nI i)), (0, .ref o)] → W p l e { frames := 9, cells := 0, slots := 0, locals := 206 } s m args below meth c H locs 0 0 Q (F0 m 38 ls []) := by
        intro n
        induction n with
        | zero =>
          intro i  H locs ls hi  hP hD hS hl
          obtain rfl : 80 = i := by omega
          refine lv_iload_n hx hb dX3_digest_38 rfl (lv_at hl 0 rfl) ?_
          refine lv_bipush (v := nI 80) hx hb dX3_digest_39 (by decide) ?_
          refine q_geN (tgt := 67) hx hb (by omega) (by omega) dX3_digest_41 (by decide) (fun c2 => ?_) (fun c2 => absurd c2 (by decide))
          refine lv_iconst (v := nI 0) hx hb dX3_digest_67 (by decide) ?_
          refine lv_istore_n (lv' := [(1, .int (nI 0)), (0, .ref o)]) hx hb dX3_digest_68 rfl hl (by decide) rfl (fun ls hl => ?_)
          rw [dg80] at hP hD
          have LC : ∀ (n i : Nat) (fz : Nat → Int32) (H : Heap) (locs : List Loc) (ls : Array Slot), i + n = 3 → va_P D vwCl (wR o ps pa pv pn px cI (oM ps pa pv pn px (nI 0) (nI ns) (nI hs) (nI len) sp wr le wh te (dgPs f i (dgG f 8 (fo (g_ct f ns) 10 3779)))) (rr f) fz fv fn fx) H → va_D (fun _ => True) (wR o ps pa pv pn px cI (oM ps pa pv pn px (nI 0) (nI ns) (nI hs) (nI len) sp wr le wh te (dgPs f i (dgG f 8 (fo (g_ct f ns) 10 3779)))) (rr f) fz fv fn fx) → va_S (AM o ps pa pv pn px) s.heap H locs → lv_has ls 2 [(1, .int (nI i)), (0, .ref o)] → W p l e { frames := 9, cells := 0, slots := 0, locals := 206 } s m args below meth c H locs 0 0 Q (F0 m 69 ls []) := by
            intro n
            induction n with
            | zero =>
              intro i fz H locs ls hi  hP hD hS hl
              obtain rfl : 3 = i := by omega
              refine lv_iload_n hx hb dX3_digest_69 rfl (lv_at hl 0 rfl) ?_
              refine lv_iconst (v := nI 3) hx hb dX3_digest_70 (by decide) ?_
              refine q_geN (tgt := 85) hx hb (by omega) (by omega) dX3_digest_71 (by decide) (fun c3 => ?_) (fun c3 => absurd c3 (by decide))
              refine lv_iconst (v := nI 0) hx hb dX3_digest_85 (by decide) ?_
              refine lv_istore_n (lv' := [(1, .int (nI 0)), (0, .ref o)]) hx hb dX3_digest_86 rfl hl (by decide) rfl (fun ls hl => ?_)
              have LD : ∀ (n i : Nat)  (H : Heap) (locs : List Loc) (ls : Array Slot), i + n = (tN f) → va_P D vwCl (wR o ps pa pv pn px cI (oM ps pa pv pn px (nI 0) (nI ns) (nI hs) (nI len) sp wr le wh te (dgT f i (dgPs f 3 (dgG f 8 (fo (g_ct f ns) 10 3779))))) (rr f) fz fv fn fx) H → va_D (fun _ => True) (wR o ps pa pv pn px cI (oM ps pa pv pn px (nI 0) (nI ns) (nI hs) (nI len) sp wr le wh te (dgT f i (dgPs f 3 (dgG f 8 (fo (g_ct f ns) 10 3779))))) (rr f) fz fv fn fx) → va_S (AM o ps pa pv pn px) s.heap H locs → lv_has ls 2 [(1, .int (nI i)), (0, .ref o)] → W p l e { frames := 9, cells := 0, slots := 0, locals := 206 } s m args below meth c H locs 0 0 Q (F0 m 87 ls []) := by
                intro n
                induction n with
                | zero =>
                  intro i  H locs ls hi  hP hD hS hl
                  obtain rfl : (tN f) = i := by omega
                  refine lv_iload_n hx hb dX3_digest_87 rfl (lv_at hl 0 rfl) ?_
                  refine lv_aload_n hx hb dX3_digest_88 rfl (lv_at hl 1 rfl) ?_
                  refine va_get (D := D) (ci := 3) (v := .ref ps) (C := RX3) (T := TX3) (N := 15) hx hb hts hi3 hown hK hP 0 rfl rfl 1 (by decide) hfl7 (fun _ h9 => h9) rfl dX3_digest_89 ?_
                  refine lv_sipush (v := nI 135) hx hb dX3_digest_92 (by decide) ?_
                  refine q_ld hx hb hK hP 1 0 rfl rfl (j := 135) (v := (nI ((tN f)))) (by omega) (by omega) ((rr_at (pm_id (by omega))).trans hI.tale.1) dX3_digest_95 ?_
                  refine q_geN (tgt := 141) hx hb (by omega) (by omega) dX3_digest_96 (by decide) (fun c4 => ?_) (fun c4 => absurd c4 (by omega))
                  refine lv_aload_n hx hb dX3_digest_141 rfl (lv_at hl 1 rfl) ?_
                  refine lv_aload_n hx hb dX3_digest_142 rfl (lv_at hl 1 rfl) ?_
                  refine q_cdR (va_runV (rm := { frames := 2, cells := 0, slots := 0, locals := 44 }) (As := []) (rest := [.ref o]) ⟨hx, hb, hml, hown, hts⟩ (m3_share l D cI o ps (oM ps pa pv pn px (nI 0) (nI ns) (nI hs) (nI len) sp wr le wh te (dgT f ((tN f)) (dgPs f 3 (dgG f 8 (fo (g_ct f ns) 10 3779))))) f rfl B hI hB8) (cwV 0 hts gX3_digest_X3_share rfl rfl rfl (by decide +kernel) ⟨Nat.le_of_ble_eq_true rfl, Nat.le_of_ble_eq_true rfl⟩) (q_pV (ci := 3) (q0 := 0) (hP.sub (ws' := wS o ps cI (oM ps pa pv pn px (nI 0) (nI ns) (nI hs) (nI len) sp wr le wh te (dgT f ((tN f)) (dgPs f 3 (dgG f 8 (fo (g_ct f ns) 10 3779))))) f) [0, 1] rfl) hK rfl rfl) rfl rfl hl.1 rfl (lv_room (Nat.le_of_ble_eq_true rfl)) dX3_digest_143 ⟨Nat.le_of_ble_eq_true rfl, Nat.le_of_ble_eq_true rfl⟩) hP hS (fun x5 H locs e5 hP hS => ?_)
                  have e5 : x5 = g_share f := e5
                  subst e5
                  refine q_clR (va_runS (rm := { frames := 0, cells := 0, slots := 0, locals := 0 }) (As := [.double (g_share f)]) (rest := [.ref o]) ⟨hx, hb, hml, hown, hts⟩ (m3_bitsOf l D (g_share f) sb hsb) (va_cwS 1 hts gX3_digest_X3_bitsOf rfl rfl rfl (by decide +kernel) ⟨Nat.le_of_ble_eq_true rfl, Nat.le_of_ble_eq_true rfl⟩) (q_pS (hP.sub [] rfl) (hK.sub [] rfl)) rfl rfl hl.1 rfl (lv_room (Nat.le_of_ble_eq_true rfl)) dX3_digest_146 ⟨Nat.le_of_ble_eq_true rfl, Nat.le_of_ble_eq_true rfl⟩) hP hS (fun x6 H locs e6 hP hS => ?_)
                  have e6 : sb = x6 := Eq.symm e6
                  subst e6
                  refine q_cv1 (i := 0) (ws' := wR o ps pa pv pn px cI (oM ps pa pv pn px (nI 0) (nI ns) (nI hs) (nI len) sp wr le wh te (hL (dgT f ((tN f)) (dgPs f 3 (dgG f 8 (fo (g_ct f ns) 10 3779)))) sb)) (rr f) fz fv fn fx) (va_runV (rm := { frames := 0, cells := 0, slots := 0, locals := 0 }) (As := [.long sb]) (rest := []) ⟨hx, hb, hml, hown, hts⟩ (m3_digestOne l D cI o (oM ps pa pv pn px (nI 0) (nI ns) (nI hs) (nI len) sp wr le wh te (dgT f ((tN f)) (dgPs f 3 (dgG f 8 (fo (g_ct f ns) 10 3779))))) (dgT f ((tN f)) (dgPs f 3 (dgG f 8 (fo (g_ct f ns) 10 3779)))) sb rfl (Nat.le_of_ble_eq_true rfl)) (cwV 1 hts gX3_digest_X3_digestOne rfl rfl rfl (by decide +kernel) ⟨Nat.le_of_ble_eq_true rfl, Nat.le_of_ble_eq_true rfl⟩) (q_pV (ci := 3) (q0 := 0) (hP.sub [0] rfl) (hK.sub [] rfl) rfl rfl) rfl rfl hl.1 rfl (lv_room (Nat.le_of_ble_eq_true rfl)) dX3_digest_149 ⟨Nat.le_of_ble_eq_true rfl, Nat.le_of_ble_eq_true rfl⟩) hP hD hS rfl (Or.inl rfl) rfl (fun H locs hP hD hS => ?_)
                  refine lv_aload_n hx hb dX3_digest_152 rfl (lv_at hl 1 rfl) ?_
                  refine lv_aload_n hx hb dX3_digest_153 rfl (lv_at hl 1 rfl) ?_
                  refine q_cfR (va_runV (rm := { frames := 2, cells := 0, slots := 0, locals := 44 }) (As := []) (rest := [.ref o]) ⟨hx, hb, hml, hown, hts⟩ (m3_trust l D cI o ps (oM ps pa pv pn px (nI 0) (nI ns) (nI hs) (nI len) sp wr le wh te (hL (dgT f ((tN f)) (dgPs f 3 (dgG f 8 (fo (g_ct f ns) 10 3779)))) sb)) f rfl B hI) (cwV 0 hts gX3_digest_X3_trust rfl rfl rfl (by decide +kernel) ⟨Nat.le_of_ble_eq_true rfl, Nat.le_of_ble_eq_true rfl⟩) (q_pV (ci := 3) (q0 := 0) (hP.sub (ws' := wS o ps cI (oM ps pa pv pn px (nI 0) (nI ns) (nI hs) (nI len) sp wr le wh te (hL (dgT f ((tN f)) (dgPs f 3 (dgG f 8 (fo (g_ct f ns) 10 3779)))) sb)) f) [0, 1] rfl) hK rfl rfl) rfl rfl hl.1 rfl (lv_room (Nat.le_of_ble_eq_true rfl)) dX3_digest_154 ⟨Nat.le_of_ble_eq_true rfl, Nat.le_of_ble_eq_true rfl⟩) hP hS (fun x7 H locs e7 hP hS => ?_)
                  have e7 : x7 = g_trust f := e7
                  subst e7
                  refine q_ciR (va_runS (rm := { frames := 0, cells := 0, slots := 0, locals := 0 }) (As := [.float (g_trust f)]) (rest := [.ref o]) ⟨hx, hb, hml, hown, hts⟩ (m3_floatBitsOf l D (g_trust f) tb htb) (va_cwS 1 hts gX3_digest_X3_floatBitsOf rfl rfl rfl (by decide +kernel) ⟨Nat.le_of_ble_eq_true rfl, Nat.le_of_ble_eq_true rfl⟩) (q_pS (hP.sub [] rfl) (hK.sub [] rfl)) rfl rfl hl.1 rfl (lv_room (Nat.le_of_ble_eq_true rfl)) dX3_digest_157 ⟨Nat.le_of_ble_eq_true rfl, Nat.le_of_ble_eq_true rfl⟩) hP hS (fun x8 H locs e8 hP hS => ?_)
                  have e8 : tb = x8 := Eq.symm e8
                  subst e8
                  refine lv_i2l (v := (tb.toInt64)) hx hb dX3_digest_160 rfl ?_
                  refine q_cv1 (i := 0) (ws' := wR o ps pa pv pn px cI (oM ps pa pv pn px (nI 0) (nI ns) (nI hs) (nI len) sp wr le wh te (hL (hL (dgT f ((tN f)) (dgPs f 3 (dgG f 8 (fo (g_ct f ns) 10 3779)))) sb) (tb.toInt64))) (rr f) fz fv fn fx) (va_runV (rm := { frames := 0, cells := 0, slots := 0, locals := 0 }) (As := [.long (tb.toInt64)]) (rest := []) ⟨hx, hb, hml, hown, hts⟩ (m3_digestOne l D cI o (oM ps pa pv pn px (nI 0) (nI ns) (nI hs) (nI len) sp wr le wh te (hL (dgT f ((tN f)) (dgPs f 3 (dgG f 8 (fo (g_ct f ns) 10 3779)))) sb)) (hL (dgT f ((tN f)) (dgPs f 3 (dgG f 8 (fo (g_ct f ns) 10 3779)))) sb) (tb.toInt64) rfl (Nat.le_of_ble_eq_true rfl)) (cwV 1 hts gX3_digest_X3_digestOne rfl rfl rfl (by decide +kernel) ⟨Nat.le_of_ble_eq_true rfl, Nat.le_of_ble_eq_true rfl⟩) (q_pV (ci := 3) (q0 := 0) (hP.sub [0] rfl) (hK.sub [] rfl) rfl rfl) rfl rfl hl.1 rfl (lv_room (Nat.le_of_ble_eq_true rfl)) dX3_digest_161 ⟨Nat.le_of_ble_eq_true rfl, Nat.le_of_ble_eq_true rfl⟩) hP hD hS rfl (Or.inl rfl) rfl (fun H locs hP hD hS => ?_)
                  refine lv_aload_n hx hb dX3_digest_164 rfl (lv_at hl 1 rfl) ?_
                  refine lv_aload_n hx hb dX3_digest_165 rfl (lv_at hl 1 rfl) ?_
                  refine va_get (D := D) (ci := 3) (v := .int (nI hs)) (C := RX3) (T := TX3) (N := 15) hx hb hts hi3 hown hK hP 0 rfl rfl 6 (by decide) hfl136 (fun _ h9 => h9) rfl dX3_digest_166 ?_
                  refine q_zeq (tgt := 176) hx hb (by omega) dX3_digest_169 (by decide) (fun c9 => ?_) (fun c9 => ?_)
                  ·
                    refine lv_lconst (v := 0) hx hb dX3_digest_176 rfl ?_
                    refine q_cv1 (i := 0) (ws' := wR o ps pa pv pn px cI (oM ps pa pv pn px (nI 0) (nI ns) (nI hs) (nI len) sp wr le wh te (hL (hL (hL (dgT f ((tN f)) (dgPs f 3 (dgG f 8 (fo (g_ct f ns) 10 3779)))) sb) (tb.toInt64)) 0)) (rr f) fz fv fn fx) (va_runV (rm := { frames := 0, cells := 0, slots := 0, locals := 0 }) (As := [.long 0]) (rest := []) ⟨hx, hb, hml, hown, hts⟩ (m3_digestOne l D cI o (oM ps pa pv pn px (nI 0) (nI ns) (nI hs) (nI len) sp wr le wh te (hL (hL (dgT f ((tN f)) (dgPs f 3 (dgG f 8 (fo (g_ct f ns) 10 3779)))) sb) (tb.toInt64))) (hL (hL (dgT f ((tN f)) (dgPs f 3 (dgG f 8 (fo (g_ct f ns) 10 3779)))) sb) (tb.toInt64)) 0 rfl (Nat.le_of_ble_eq_true rfl)) (cwV 1 hts gX3_digest_X3_digestOne rfl rfl rfl (by decide +kernel) ⟨Nat.le_of_ble_eq_true rfl, Nat.le_of_ble_eq_true rfl⟩) (q_pV (ci := 3) (q0 := 0) (hP.sub [0] rfl) (hK.sub [] rfl) rfl rfl) rfl rfl hl.1 rfl (lv_room (Nat.le_of_ble_eq_true rfl)) dX3_digest_177 ⟨Nat.le_of_ble_eq_true rfl, Nat.le_of_ble_eq_true rfl⟩) hP hD hS rfl (Or.inl rfl) rfl (fun H locs hP hD hS => ?_)
                    have hw : (hL (hL (hL (dgT f ((tN f)) (dgPs f 3 (dgG f 8 (fo (g_ct f ns) 10 3779)))) sb) (tb.toInt64)) 0) = (hL (hL (hL (dgT f ((tN f)) (dgPs f 3 (dgG f 8 (fo (g_ct f ns) 10 3779)))) sb) (tb.toInt64)) (if hs = 0 then 0 else 1)) := by rw [if_pos (by omega)]
                    rw [hw] at hP hD
                    refine lv_aload_n hx hb dX3_digest_180 rfl (lv_at hl 1 rfl) ?_
                    refine lv_aload_n hx hb dX3_digest_181 rfl (lv_at hl 1 rfl) ?_
                    refine va_get (D := D) (ci := 3) (v := .int (nI len)) (C := RX3) (T := TX3) (N := 15) hx hb hts hi3 hown hK hP 0 rfl rfl 8 (by decide) hfl99 (fun _ h9 => h9) rfl dX3_digest_182 ?_
                    refine lv_i2l (v := ((nI len).toInt64)) hx hb dX3_digest_185 rfl ?_
                    refine q_cv1 (i := 0) (ws' := wR o ps pa pv pn px cI (oM ps pa pv pn px (nI 0) (nI ns) (nI hs) (nI len) sp wr le wh te (hL (hL (hL (hL (dgT f ((tN f)) (dgPs f 3 (dgG f 8 (fo (g_ct f ns) 10 3779)))) sb) (tb.toInt64)) (if hs = 0 then 0 else 1)) ((nI len).toInt64))) (rr f) fz fv fn fx) (va_runV (rm := { frames := 0, cells := 0, slots := 0, locals := 0 }) (As := [.long ((nI len).toInt64)]) (rest := []) ⟨hx, hb, hml, hown, hts⟩ (m3_digestOne l D cI o (oM ps pa pv pn px (nI 0) (nI ns) (nI hs) (nI len) sp wr le wh te (hL (hL (hL (dgT f ((tN f)) (dgPs f 3 (dgG f 8 (fo (g_ct f ns) 10 3779)))) sb) (tb.toInt64)) (if hs = 0 then 0 else 1))) (hL (hL (hL (dgT f ((tN f)) (dgPs f 3 (dgG f 8 (fo (g_ct f ns) 10 3779)))) sb) (tb.toInt64)) (if hs = 0 then 0 else 1)) ((nI len).toInt64) rfl (Nat.le_of_ble_eq_true rfl)) (cwV 1 hts gX3_digest_X3_digestOne rfl rfl rfl (by decide +kernel) ⟨Nat.le_of_ble_eq_true rfl, Nat.le_of_ble_eq_true rfl⟩) (q_pV (ci := 3) (q0 := 0) (hP.sub [0] rfl) (hK.sub [] rfl) rfl rfl) rfl rfl hl.1 rfl (lv_room (Nat.le_of_ble_eq_true rfl)) dX3_digest_186 ⟨Nat.le_of_ble_eq_true rfl, Nat.le_of_ble_eq_true rfl⟩) hP hD hS rfl (Or.inl rfl) rfl (fun H locs hP hD hS => ?_)
                    refine lv_iconst (v := nI 0) hx hb dX3_digest_189 (by decide) ?_
                    refine lv_istore_n (lv' := [(1, .int (nI 0)), (0, .ref o)]) hx hb dX3_digest_190 rfl hl (by decide) rfl (fun ls hl => ?_)
                    have LE : ∀ (n i : Nat)  (H : Heap) (locs : List Loc) (ls : Array Slot), i + n = len → va_P D vwCl (wR o ps pa pv pn px cI (oM ps pa pv pn px (nI 0) (nI ns) (nI hs) (nI len) sp wr le wh te (fo (fun j => nI (ch j)) i (hL (hL (hL (hL (dgT f ((tN f)) (dgPs f 3 (dgG f 8 (fo (g_ct f ns) 10 3779)))) sb) (tb.toInt64)) (if hs = 0 then 0 else 1)) ((nI len).toInt64)))) (rr f) fz fv fn fx) H → va_D (fun _ => True) (wR o ps pa pv pn px cI (oM ps pa pv pn px (nI 0) (nI ns) (nI hs) (nI len) sp wr le wh te (fo (fun j => nI (ch j)) i (hL (hL (hL (hL (dgT f ((tN f)) (dgPs f 3 (dgG f 8 (fo (g_ct f ns) 10 3779)))) sb) (tb.toInt64)) (if hs = 0 then 0 else 1)) ((nI len).toInt64)))) (rr f) fz fv fn fx) → va_S (AM o ps pa pv pn px) s.heap H locs → lv_has ls 2 [(1, .int (nI i)), (0, .ref o)] → W p l e { frames := 9, cells := 0, slots := 0, locals := 206 } s m args below meth c H locs 0 0 Q (F0 m 191 ls []) := by
                      intro n
                      induction n with
                      | zero =>
                        intro i  H locs ls hi  hP hD hS hl
                        obtain rfl : len = i := by omega
                        refine lv_iload_n hx hb dX3_digest_191 rfl (lv_at hl 0 rfl) ?_
                        refine lv_aload_n hx hb dX3_digest_192 rfl (lv_at hl 1 rfl) ?_
                        refine va_get (D := D) (ci := 3) (v := .int (nI len)) (C := RX3) (T := TX3) (N := 15) hx hb hts hi3 hown hK hP 0 rfl rfl 8 (by decide) hfl99 (fun _ h9 => h9) rfl dX3_digest_193 ?_
                        refine q_geN (tgt := 216) hx hb (by omega) (by omega) dX3_digest_196 (by decide) (fun c10 => ?_) (fun c10 => absurd c10 (by omega))
                        refine lv_aload_n hx hb dX3_digest_216 rfl (lv_at hl 1 rfl) ?_
                        refine va_get (D := D) (ci := 3) (v := .long (fo (fun j => nI (ch j)) len (hL (hL (hL (hL (dgT f ((tN f)) (dgPs f 3 (dgG f 8 (fo (g_ct f ns) 10 3779)))) sb) (tb.toInt64)) (if hs = 0 then 0 else 1)) ((nI len).toInt64)))) (C := RX3) (T := TX3) (N := 15) hx hb hts hi3 hown hK hP 0 rfl rfl 14 (by decide) hfl197 (fun _ h9 => h9) rfl dX3_digest_217 ?_
                        exact hret _ _ _ _ _ (dig_eq f ns hs ch len sb tb.toInt64) ⟨_, _, hP⟩ hS dX3_digest_220
                      | succ n ih =>
                        intro i  H locs ls hi  hP hD hS hl
                        refine lv_iload_n hx hb dX3_digest_191 rfl (lv_at hl 0 rfl) ?_
                        refine lv_aload_n hx hb dX3_digest_192 rfl (lv_at hl 1 rfl) ?_
                        refine va_get (D := D) (ci := 3) (v := .int (nI len)) (C := RX3) (T := TX3) (N := 15) hx hb hts hi3 hown hK hP 0 rfl rfl 8 (by decide) hfl99 (fun _ h9 => h9) rfl dX3_digest_193 ?_
                        refine q_geN (tgt := 216) hx hb (by omega) (by omega) dX3_digest_196 (by decide) (fun c11 => absurd c11 (by omega)) (fun c11 => ?_)
                        refine lv_aload_n hx hb dX3_digest_199 rfl (lv_at hl 1 rfl) ?_
                        refine lv_aload_n hx hb dX3_digest_200 rfl (lv_at hl 1 rfl) ?_
                        refine va_get (D := D) (ci := 3) (v := .ref px) (C := RX3) (T := TX3) (N := 15) hx hb hts hi3 hown hK hP 0 rfl rfl 7 (by decide) hfl22 (fun _ h9 => h9) rfl dX3_digest_201 ?_
                        refine lv_iload_n hx hb dX3_digest_204 rfl (lv_at hl 0 rfl) ?_
                        refine q_ld hx hb hK hP 5 0 rfl rfl (j := i) (v := (nI ((ch i)))) (by omega) (by omega) (hfx _ (by omega)) dX3_digest_205 ?_
                        refine lv_i2l (v := ((nI ((ch i))).toInt64)) hx hb dX3_digest_206 rfl ?_
                        refine q_cv1 (i := 0) (ws' := wR o ps pa pv pn px cI (oM ps pa pv pn px (nI 0) (nI ns) (nI hs) (nI len) sp wr le wh te (hL (fo (fun j => nI (ch j)) i (hL (hL (hL (hL (dgT f ((tN f)) (dgPs f 3 (dgG f 8 (fo (g_ct f ns) 10 3779)))) sb) (tb.toInt64)) (if hs = 0 then 0 else 1)) ((nI len).toInt64))) ((nI ((ch i))).toInt64))) (rr f) fz fv fn fx) (va_runV (rm := { frames := 0, cells := 0, slots := 0, locals := 0 }) (As := [.long ((nI ((ch i))).toInt64)]) (rest := []) ⟨hx, hb, hml, hown, hts⟩ (m3_digestOne l D cI o (oM ps pa pv pn px (nI 0) (nI ns) (nI hs) (nI len) sp wr le wh te (fo (fun j => nI (ch j)) i (hL (hL (hL (hL (dgT f ((tN f)) (dgPs f 3 (dgG f 8 (fo (g_ct f ns) 10 3779)))) sb) (tb.toInt64)) (if hs = 0 then 0 else 1)) ((nI len).toInt64)))) (fo (fun j => nI (ch j)) i (hL (hL (hL (hL (dgT f ((tN f)) (dgPs f 3 (dgG f 8 (fo (g_ct f ns) 10 3779)))) sb) (tb.toInt64)) (if hs = 0 then 0 else 1)) ((nI len).toInt64))) ((nI ((ch i))).toInt64) rfl (Nat.le_of_ble_eq_true rfl)) (cwV 1 hts gX3_digest_X3_digestOne rfl rfl rfl (by decide +kernel) ⟨Nat.le_of_ble_eq_true rfl, Nat.le_of_ble_eq_true rfl⟩) (q_pV (ci := 3) (q0 := 0) (hP.sub [0] rfl) (hK.sub [] rfl) rfl rfl) rfl rfl hl.1 rfl (lv_room (Nat.le_of_ble_eq_true rfl)) dX3_digest_207 ⟨Nat.le_of_ble_eq_true rfl, Nat.le_of_ble_eq_true rfl⟩) hP hD hS rfl (Or.inl rfl) rfl (fun H locs hP hD hS => ?_)
                        refine lv_iinc (v := (nI (i + 1))) (lv' := [(1, .int (nI (i + 1))), (0, .ref o)]) hx hb dX3_digest_210 hl (k := 0) rfl (q_inc i 1 (i + 1) (by omega)) (by decide) rfl (fun ls hl => ?_)
                        refine lv_goto (tgt := 191) hx hb dX3_digest_213 (by decide) ?_
                        have hw : (hL (fo (fun j => nI (ch j)) i (hL (hL (hL (hL (dgT f ((tN f)) (dgPs f 3 (dgG f 8 (fo (g_ct f ns) 10 3779)))) sb) (tb.toInt64)) (if hs = 0 then 0 else 1)) ((nI len).toInt64))) ((nI ((ch i))).toInt64)) = (fo (fun j => nI (ch j)) (i + 1) (hL (hL (hL (hL (dgT f ((tN f)) (dgPs f 3 (dgG f 8 (fo (g_ct f ns) 10 3779)))) sb) (tb.toInt64)) (if hs = 0 then 0 else 1)) ((nI len).toInt64))) := by
                          exact fo_s _ _ _
                        rw [hw] at hP hD
                        exact ih (i + 1) _ _ _ (by omega) hP hD hS (lv_sub hl [0, 1] rfl)
                    exact LE (len - 0) 0  _ _ _ (by omega)  (by rw [fo_0]; exact hP) (by rw [fo_0]; exact hD) hS (lv_sub hl [0, 1] rfl)
                  ·
                    refine lv_lconst (v := 1) hx hb dX3_digest_172 rfl ?_
                    refine lv_goto (tgt := 177) hx hb dX3_digest_173 (by decide) ?_
                    refine q_cv1 (i := 0) (ws' := wR o ps pa pv pn px cI (oM ps pa pv pn px (nI 0) (nI ns) (nI hs) (nI len) sp wr le wh te (hL (hL (hL (dgT f ((tN f)) (dgPs f 3 (dgG f 8 (fo (g_ct f ns) 10 3779)))) sb) (tb.toInt64)) 1)) (rr f) fz fv fn fx) (va_runV (rm := { frames := 0, cells := 0, slots := 0, locals := 0 }) (As := [.long 1]) (rest := []) ⟨hx, hb, hml, hown, hts⟩ (m3_digestOne l D cI o (oM ps pa pv pn px (nI 0) (nI ns) (nI hs) (nI len) sp wr le wh te (hL (hL (dgT f ((tN f)) (dgPs f 3 (dgG f 8 (fo (g_ct f ns) 10 3779)))) sb) (tb.toInt64))) (hL (hL (dgT f ((tN f)) (dgPs f 3 (dgG f 8 (fo (g_ct f ns) 10 3779)))) sb) (tb.toInt64)) 1 rfl (Nat.le_of_ble_eq_true rfl)) (cwV 1 hts gX3_digest_X3_digestOne rfl rfl rfl (by decide +kernel) ⟨Nat.le_of_ble_eq_true rfl, Nat.le_of_ble_eq_true rfl⟩) (q_pV (ci := 3) (q0 := 0) (hP.sub [0] rfl) (hK.sub [] rfl) rfl rfl) rfl rfl hl.1 rfl (lv_room (Nat.le_of_ble_eq_true rfl)) dX3_digest_177 ⟨Nat.le_of_ble_eq_true rfl, Nat.le_of_ble_eq_true rfl⟩) hP hD hS rfl (Or.inl rfl) rfl (fun H locs hP hD hS => ?_)
                    have hw : (hL (hL (hL (dgT f ((tN f)) (dgPs f 3 (dgG f 8 (fo (g_ct f ns) 10 3779)))) sb) (tb.toInt64)) 1) = (hL (hL (hL (dgT f ((tN f)) (dgPs f 3 (dgG f 8 (fo (g_ct f ns) 10 3779)))) sb) (tb.toInt64)) (if hs = 0 then 0 else 1)) := by rw [if_neg (by omega)]
                    rw [hw] at hP hD
                    refine lv_aload_n hx hb dX3_digest_180 rfl (lv_at hl 1 rfl) ?_
                    refine lv_aload_n hx hb dX3_digest_181 rfl (lv_at hl 1 rfl) ?_
                    refine va_get (D := D) (ci := 3) (v := .int (nI len)) (C := RX3) (T := TX3) (N := 15) hx hb hts hi3 hown hK hP 0 rfl rfl 8 (by decide) hfl99 (fun _ h9 => h9) rfl dX3_digest_182 ?_
                    refine lv_i2l (v := ((nI len).toInt64)) hx hb dX3_digest_185 rfl ?_
                    refine q_cv1 (i := 0) (ws' := wR o ps pa pv pn px cI (oM ps pa pv pn px (nI 0) (nI ns) (nI hs) (nI len) sp wr le wh te (hL (hL (hL (hL (dgT f ((tN f)) (dgPs f 3 (dgG f 8 (fo (g_ct f ns) 10 3779)))) sb) (tb.toInt64)) (if hs = 0 then 0 else 1)) ((nI len).toInt64))) (rr f) fz fv fn fx) (va_runV (rm := { frames := 0, cells := 0, slots := 0, locals := 0 }) (As := [.long ((nI len).toInt64)]) (rest := []) ⟨hx, hb, hml, hown, hts⟩ (m3_digestOne l D cI o (oM ps pa pv pn px (nI 0) (nI ns) (nI hs) (nI len) sp wr le wh te (hL (hL (hL (dgT f ((tN f)) (dgPs f 3 (dgG f 8 (fo (g_ct f ns) 10 3779)))) sb) (tb.toInt64)) (if hs = 0 then 0 else 1))) (hL (hL (hL (dgT f ((tN f)) (dgPs f 3 (dgG f 8 (fo (g_ct f ns) 10 3779)))) sb) (tb.toInt64)) (if hs = 0 then 0 else 1)) ((nI len).toInt64) rfl (Nat.le_of_ble_eq_true rfl)) (cwV 1 hts gX3_digest_X3_digestOne rfl rfl rfl (by decide +kernel) ⟨Nat.le_of_ble_eq_true rfl, Nat.le_of_ble_eq_true rfl⟩) (q_pV (ci := 3) (q0 := 0) (hP.sub [0] rfl) (hK.sub [] rfl) rfl rfl) rfl rfl hl.1 rfl (lv_room (Nat.le_of_ble_eq_true rfl)) dX3_digest_186 ⟨Nat.le_of_ble_eq_true rfl, Nat.le_of_ble_eq_true rfl⟩) hP hD hS rfl (Or.inl rfl) rfl (fun H locs hP hD hS => ?_)
                    refine lv_iconst (v := nI 0) hx hb dX3_digest_189 (by decide) ?_
                    refine lv_istore_n (lv' := [(1, .int (nI 0)), (0, .ref o)]) hx hb dX3_digest_190 rfl hl (by decide) rfl (fun ls hl => ?_)
                    have LE : ∀ (n i : Nat)  (H : Heap) (locs : List Loc) (ls : Array Slot), i + n = len → va_P D vwCl (wR o ps pa pv pn px cI (oM ps pa pv pn px (nI 0) (nI ns) (nI hs) (nI len) sp wr le wh te (fo (fun j => nI (ch j)) i (hL (hL (hL (hL (dgT f ((tN f)) (dgPs f 3 (dgG f 8 (fo (g_ct f ns) 10 3779)))) sb) (tb.toInt64)) (if hs = 0 then 0 else 1)) ((nI len).toInt64)))) (rr f) fz fv fn fx) H → va_D (fun _ => True) (wR o ps pa pv pn px cI (oM ps pa pv pn px (nI 0) (nI ns) (nI hs) (nI len) sp wr le wh te (fo (fun j => nI (ch j)) i (hL (hL (hL (hL (dgT f ((tN f)) (dgPs f 3 (dgG f 8 (fo (g_ct f ns) 10 3779)))) sb) (tb.toInt64)) (if hs = 0 then 0 else 1)) ((nI len).toInt64)))) (rr f) fz fv fn fx) → va_S (AM o ps pa pv pn px) s.heap H locs → lv_has ls 2 [(1, .int (nI i)), (0, .ref o)] → W p l e { frames := 9, cells := 0, slots := 0, locals := 206 } s m args below meth c H locs 0 0 Q (F0 m 191 ls []) := by
                      intro n
                      induction n with
                      | zero =>
                        intro i  H locs ls hi  hP hD hS hl
                        obtain rfl : len = i := by omega
                        refine lv_iload_n hx hb dX3_digest_191 rfl (lv_at hl 0 rfl) ?_
                        refine lv_aload_n hx hb dX3_digest_192 rfl (lv_at hl 1 rfl) ?_
                        refine va_get (D := D) (ci := 3) (v := .int (nI len)) (C := RX3) (T := TX3) (N := 15) hx hb hts hi3 hown hK hP 0 rfl rfl 8 (by decide) hfl99 (fun _ h9 => h9) rfl dX3_digest_193 ?_
                        refine q_geN (tgt := 216) hx hb (by omega) (by omega) dX3_digest_196 (by decide) (fun c12 => ?_) (fun c12 => absurd c12 (by omega))
                        refine lv_aload_n hx hb dX3_digest_216 rfl (lv_at hl 1 rfl) ?_
                        refine va_get (D := D) (ci := 3) (v := .long (fo (fun j => nI (ch j)) len (hL (hL (hL (hL (dgT f ((tN f)) (dgPs f 3 (dgG f 8 (fo (g_ct f ns) 10 3779)))) sb) (tb.toInt64)) (if hs = 0 then 0 else 1)) ((nI len).toInt64)))) (C := RX3) (T := TX3) (N := 15) hx hb hts hi3 hown hK hP 0 rfl rfl 14 (by decide) hfl197 (fun _ h9 => h9) rfl dX3_digest_217 ?_
                        exact hret _ _ _ _ _ (dig_eq f ns hs ch len sb tb.toInt64) ⟨_, _, hP⟩ hS dX3_digest_220
                      | succ n ih =>
                        intro i  H locs ls hi  hP hD hS hl
                        refine lv_iload_n hx hb dX3_digest_191 rfl (lv_at hl 0 rfl) ?_
                        refine lv_aload_n hx hb dX3_digest_192 rfl (lv_at hl 1 rfl) ?_
                        refine va_get (D := D) (ci := 3) (v := .int (nI len)) (C := RX3) (T := TX3) (N := 15) hx hb hts hi3 hown hK hP 0 rfl rfl 8 (by decide) hfl99 (fun _ h9 => h9) rfl dX3_digest_193 ?_
                        refine q_geN (tgt := 216) hx hb (by omega) (by omega) dX3_digest_196 (by decide) (fun c13 => absurd c13 (by omega)) (fun c13 => ?_)
                        refine lv_aload_n hx hb dX3_digest_199 rfl (lv_at hl 1 rfl) ?_
                        refine lv_aload_n hx hb dX3_digest_200 rfl (lv_at hl 1 rfl) ?_
                        refine va_get (D := D) (ci := 3) (v := .ref px) (C := RX3) (T := TX3) (N := 15) hx hb hts hi3 hown hK hP 0 rfl rfl 7 (by decide) hfl22 (fun _ h9 => h9) rfl dX3_digest_201 ?_
                        refine lv_iload_n hx hb dX3_digest_204 rfl (lv_at hl 0 rfl) ?_
                        refine q_ld hx hb hK hP 5 0 rfl rfl (j := i) (v := (nI ((ch i)))) (by omega) (by omega) (hfx _ (by omega)) dX3_digest_205 ?_
                        refine lv_i2l (v := ((nI ((ch i))).toInt64)) hx hb dX3_digest_206 rfl ?_
                        refine q_cv1 (i := 0) (ws' := wR o ps pa pv pn px cI (oM ps pa pv pn px (nI 0) (nI ns) (nI hs) (nI len) sp wr le wh te (hL (fo (fun j => nI (ch j)) i (hL (hL (hL (hL (dgT f ((tN f)) (dgPs f 3 (dgG f 8 (fo (g_ct f ns) 10 3779)))) sb) (tb.toInt64)) (if hs = 0 then 0 else 1)) ((nI len).toInt64))) ((nI ((ch i))).toInt64))) (rr f) fz fv fn fx) (va_runV (rm := { frames := 0, cells := 0, slots := 0, locals := 0 }) (As := [.long ((nI ((ch i))).toInt64)]) (rest := []) ⟨hx, hb, hml, hown, hts⟩ (m3_digestOne l D cI o (oM ps pa pv pn px (nI 0) (nI ns) (nI hs) (nI len) sp wr le wh te (fo (fun j => nI (ch j)) i (hL (hL (hL (hL (dgT f ((tN f)) (dgPs f 3 (dgG f 8 (fo (g_ct f ns) 10 3779)))) sb) (tb.toInt64)) (if hs = 0 then 0 else 1)) ((nI len).toInt64)))) (fo (fun j => nI (ch j)) i (hL (hL (hL (hL (dgT f ((tN f)) (dgPs f 3 (dgG f 8 (fo (g_ct f ns) 10 3779)))) sb) (tb.toInt64)) (if hs = 0 then 0 else 1)) ((nI len).toInt64))) ((nI ((ch i))).toInt64) rfl (Nat.le_of_ble_eq_true rfl)) (cwV 1 hts gX3_digest_X3_digestOne rfl rfl rfl (by decide +kernel) ⟨Nat.le_of_ble_eq_true rfl, Nat.le_of_ble_eq_true rfl⟩) (q_pV (ci := 3) (q0 := 0) (hP.sub [0] rfl) (hK.sub [] rfl) rfl rfl) rfl rfl hl.1 rfl (lv_room (Nat.le_of_ble_eq_true rfl)) dX3_digest_207 ⟨Nat.le_of_ble_eq_true rfl, Nat.le_of_ble_eq_true rfl⟩) hP hD hS rfl (Or.inl rfl) rfl (fun H locs hP hD hS => ?_)
                        refine lv_iinc (v := (nI (i + 1))) (lv' := [(1, .int (nI (i + 1))), (0, .ref o)]) hx hb dX3_digest_210 hl (k := 0) rfl (q_inc i 1 (i + 1) (by omega)) (by decide) rfl (fun ls hl => ?_)
                        refine lv_goto (tgt := 191) hx hb dX3_digest_213 (by decide) ?_
                        have hw : (hL (fo (fun j => nI (ch j)) i (hL (hL (hL (hL (dgT f ((tN f)) (dgPs f 3 (dgG f 8 (fo (g_ct f ns) 10 3779)))) sb) (tb.toInt64)) (if hs = 0 then 0 else 1)) ((nI len).toInt64))) ((nI ((ch i))).toInt64)) = (fo (fun j => nI (ch j)) (i + 1) (hL (hL (hL (hL (dgT f ((tN f)) (dgPs f 3 (dgG f 8 (fo (g_ct f ns) 10 3779)))) sb) (tb.toInt64)) (if hs = 0 then 0 else 1)) ((nI len).toInt64))) := by
                          exact fo_s _ _ _
                        rw [hw] at hP hD
                        exact ih (i + 1) _ _ _ (by omega) hP hD hS (lv_sub hl [0, 1] rfl)
                    exact LE (len - 0) 0  _ _ _ (by omega)  (by rw [fo_0]; exact hP) (by rw [fo_0]; exact hD) hS (lv_sub hl [0, 1] rfl)
                | succ n ih =>
                  intro i  H locs ls hi  hP hD hS hl
                  refine lv_iload_n hx hb dX3_digest_87 rfl (lv_at hl 0 rfl) ?_
                  refine lv_aload_n hx hb dX3_digest_88 rfl (lv_at hl 1 rfl) ?_
                  refine va_get (D := D) (ci := 3) (v := .ref ps) (C := RX3) (T := TX3) (N := 15) hx hb hts hi3 hown hK hP 0 rfl rfl 1 (by decide) hfl7 (fun _ h9 => h9) rfl dX3_digest_89 ?_
                  refine lv_sipush (v := nI 135) hx hb dX3_digest_92 (by decide) ?_
                  refine q_ld hx hb hK hP 1 0 rfl rfl (j := 135) (v := (nI ((tN f)))) (by omega) (by omega) ((rr_at (pm_id (by omega))).trans hI.tale.1) dX3_digest_95 ?_
                  refine q_geN (tgt := 141) hx hb (by omega) (by omega) dX3_digest_96 (by decide) (fun c14 => absurd c14 (by omega)) (fun c14 => ?_)
                  refine lv_aload_n hx hb dX3_digest_99 rfl (lv_at hl 1 rfl) ?_
                  refine lv_aload_n hx hb dX3_digest_100 rfl (lv_at hl 1 rfl) ?_
                  refine va_get (D := D) (ci := 3) (v := .ref ps) (C := RX3) (T := TX3) (N := 15) hx hb hts hi3 hown hK hP 0 rfl rfl 1 (by decide) hfl7 (fun _ h9 => h9) rfl dX3_digest_101 ?_
                  refine lv_bipush (v := nI 111) hx hb dX3_digest_104 (by decide) ?_
                  refine lv_iload_n hx hb dX3_digest_106 rfl (lv_at hl 0 rfl) ?_
                  refine q_addN hx hb (111 + i) (by omega) dX3_digest_107 ?_
                  refine q_ld hx hb hK hP 1 0 rfl rfl (j := (111 + i)) (v := f (111 + i)) (by omega) (by omega) (rr_at (pm_id (by omega))) dX3_digest_108 ?_
                  refine lv_i2l (v := ((f (111 + i)).toInt64)) hx hb dX3_digest_109 rfl ?_
                  refine q_cv1 (i := 0) (ws' := wR o ps pa pv pn px cI (oM ps pa pv pn px (nI 0) (nI ns) (nI hs) (nI len) sp wr le wh te (hL (dgT f i (dgPs f 3 (dgG f 8 (fo (g_ct f ns) 10 3779)))) ((f (111 + i)).toInt64))) (rr f) fz fv fn fx) (va_runV (rm := { frames := 0, cells := 0, slots := 0, locals := 0 }) (As := [.long ((f (111 + i)).toInt64)]) (rest := []) ⟨hx, hb, hml, hown, hts⟩ (m3_digestOne l D cI o (oM ps pa pv pn px (nI 0) (nI ns) (nI hs) (nI len) sp wr le wh te (dgT f i (dgPs f 3 (dgG f 8 (fo (g_ct f ns) 10 3779))))) (dgT f i (dgPs f 3 (dgG f 8 (fo (g_ct f ns) 10 3779)))) ((f (111 + i)).toInt64) rfl (Nat.le_of_ble_eq_true rfl)) (cwV 1 hts gX3_digest_X3_digestOne rfl rfl rfl (by decide +kernel) ⟨Nat.le_of_ble_eq_true rfl, Nat.le_of_ble_eq_true rfl⟩) (q_pV (ci := 3) (q0 := 0) (hP.sub [0] rfl) (hK.sub [] rfl) rfl rfl) rfl rfl hl.1 rfl (lv_room (Nat.le_of_ble_eq_true rfl)) dX3_digest_110 ⟨Nat.le_of_ble_eq_true rfl, Nat.le_of_ble_eq_true rfl⟩) hP hD hS rfl (Or.inl rfl) rfl (fun H locs hP hD hS => ?_)
                  refine lv_aload_n hx hb dX3_digest_113 rfl (lv_at hl 1 rfl) ?_
                  refine lv_aload_n hx hb dX3_digest_114 rfl (lv_at hl 1 rfl) ?_
                  refine va_get (D := D) (ci := 3) (v := .ref ps) (C := RX3) (T := TX3) (N := 15) hx hb hts hi3 hown hK hP 0 rfl rfl 1 (by decide) hfl7 (fun _ h9 => h9) rfl dX3_digest_115 ?_
                  refine lv_bipush (v := nI 87) hx hb dX3_digest_118 (by decide) ?_
                  refine lv_aload_n hx hb dX3_digest_120 rfl (lv_at hl 1 rfl) ?_
                  refine va_get (D := D) (ci := 3) (v := .ref ps) (C := RX3) (T := TX3) (N := 15) hx hb hts hi3 hown hK hP 0 rfl rfl 1 (by decide) hfl7 (fun _ h9 => h9) rfl dX3_digest_121 ?_
                  refine lv_bipush (v := nI 111) hx hb dX3_digest_124 (by decide) ?_
                  refine lv_iload_n hx hb dX3_digest_126 rfl (lv_at hl 0 rfl) ?_
                  refine q_addN hx hb (111 + i) (by omega) dX3_digest_127 ?_
                  have hq := hI.pair (show i < tN f by omega)
                  have hq24 := hq.2
                  refine q_ld hx hb hK hP 1 0 rfl rfl (j := (111 + i)) (v := (nI ((f (111 + i)).toNatClampNeg))) (by omega) (by omega) ((rr_at (pm_id (by omega))).trans hq.1) dX3_digest_128 ?_
                  refine q_addN hx hb (87 + (f (111 + i)).toNatClampNeg) (by omega) dX3_digest_129 ?_
                  refine q_ld hx hb hK hP 1 0 rfl rfl (j := (87 + (f (111 + i)).toNatClampNeg)) (v := f (87 + (f (111 + i)).toNatClampNeg)) (by omega) (by omega) (rr_at (pm_id (by omega))) dX3_digest_130 ?_
                  refine lv_i2l (v := ((f (87 + (f (111 + i)).toNatClampNeg)).toInt64)) hx hb dX3_digest_131 rfl ?_
                  refine q_cv1 (i := 0) (ws' := wR o ps pa pv pn px cI (oM ps pa pv pn px (nI 0) (nI ns) (nI hs) (nI len) sp wr le wh te (hL (hL (dgT f i (dgPs f 3 (dgG f 8 (fo (g_ct f ns) 10 3779)))) ((f (111 + i)).toInt64)) ((f (87 + (f (111 + i)).toNatClampNeg)).toInt64))) (rr f) fz fv fn fx) (va_runV (rm := { frames := 0, cells := 0, slots := 0, locals := 0 }) (As := [.long ((f (87 + (f (111 + i)).toNatClampNeg)).toInt64)]) (rest := []) ⟨hx, hb, hml, hown, hts⟩ (m3_digestOne l D cI o (oM ps pa pv pn px (nI 0) (nI ns) (nI hs) (nI len) sp wr le wh te (hL (dgT f i (dgPs f 3 (dgG f 8 (fo (g_ct f ns) 10 3779)))) ((f (111 + i)).toInt64))) (hL (dgT f i (dgPs f 3 (dgG f 8 (fo (g_ct f ns) 10 3779)))) ((f (111 + i)).toInt64)) ((f (87 + (f (111 + i)).toNatClampNeg)).toInt64) rfl (Nat.le_of_ble_eq_true rfl)) (cwV 1 hts gX3_digest_X3_digestOne rfl rfl rfl (by decide +kernel) ⟨Nat.le_of_ble_eq_true rfl, Nat.le_of_ble_eq_true rfl⟩) (q_pV (ci := 3) (q0 := 0) (hP.sub [0] rfl) (hK.sub [] rfl) rfl rfl) rfl rfl hl.1 rfl (lv_room (Nat.le_of_ble_eq_true rfl)) dX3_digest_132 ⟨Nat.le_of_ble_eq_true rfl, Nat.le_of_ble_eq_true rfl⟩) hP hD hS rfl (Or.inl rfl) rfl (fun H locs hP hD hS => ?_)
                  refine lv_iinc (v := (nI (i + 1))) (lv' := [(1, .int (nI (i + 1))), (0, .ref o)]) hx hb dX3_digest_135 hl (k := 0) rfl (q_inc i 1 (i + 1) (by omega)) (by decide) rfl (fun ls hl => ?_)
                  refine lv_goto (tgt := 87) hx hb dX3_digest_138 (by decide) ?_
                  rw [dgT_s] at hP hD
                  exact ih (i + 1) _ _ _ (by omega) hP hD hS (lv_sub hl [0, 1] rfl)
              exact LD ((tN f) - 0) 0  _ _ _ (by omega)  (by rw [dgT_0]; exact hP) (by rw [dgT_0]; exact hD) hS (lv_sub hl [0, 1] rfl)
            | succ n ih =>
              intro i fz H locs ls hi  hP hD hS hl
              refine lv_iload_n hx hb dX3_digest_69 rfl (lv_at hl 0 rfl) ?_
              refine lv_iconst (v := nI 3) hx hb dX3_digest_70 (by decide) ?_
              refine q_geN (tgt := 85) hx hb (by omega) (by omega) dX3_digest_71 (by decide) (fun c15 => absurd c15 (by omega)) (fun c15 => ?_)
              refine lv_aload_n hx hb dX3_digest_74 rfl (lv_at hl 1 rfl) ?_
              refine lv_iload_n hx hb dX3_digest_75 rfl (lv_at hl 0 rfl) ?_
              refine q_cvF (BH := fun H => va_P D vwCl (wR o ps pa pv pn px cI (oM ps pa pv pn px (nI 0) (nI ns) (nI hs) (nI len) sp wr le wh te (dgP f i (dgPs f i (dgG f 8 (fo (g_ct f ns) 10 3779))))) (rr f) (rr f) fv fn fx) H) (va_runV (rm := { frames := 8, cells := 0, slots := 0, locals := 184 }) (As := [.int (nI i)]) (rest := []) ⟨hx, hb, hml, hown, hts⟩ (m3_digestPot l D cI o ps pa pv pn px f fz fv fn fx i (by omega) B hI (by omega) (nI 0) (nI ns) (nI hs) (nI len) sp wr le wh te (dgPs f i (dgG f 8 (fo (g_ct f ns) 10 3779))) hD) (cwV 1 hts gX3_digest_X3_digestPot rfl rfl rfl (by decide +kernel) ⟨Nat.le_of_ble_eq_true rfl, Nat.le_of_ble_eq_true rfl⟩) (q_pV (ci := 3) (q0 := 0) hP hK rfl rfl) rfl rfl hl.1 rfl (lv_room (Nat.le_of_ble_eq_true rfl)) dX3_digest_76 ⟨Nat.le_of_ble_eq_true rfl, Nat.le_of_ble_eq_true rfl⟩) (fun _ h => h) hS (fun _ h => h) (fun H locs hP hS => ?_)
              have hD := q_D2 (ws' := wR o ps pa pv pn px cI (oM ps pa pv pn px (nI 0) (nI ns) (nI hs) (nI len) sp wr le wh te (dgP f i (dgPs f i (dgG f 8 (fo (g_ct f ns) 10 3779))))) (rr f) (rr f) fv fn fx) hD rfl
              refine lv_iinc (v := (nI (i + 1))) (lv' := [(1, .int (nI (i + 1))), (0, .ref o)]) hx hb dX3_digest_79 hl (k := 0) rfl (q_inc i 1 (i + 1) (by omega)) (by decide) rfl (fun ls hl => ?_)
              refine lv_goto (tgt := 69) hx hb dX3_digest_82 (by decide) ?_
              rw [dgPs_s] at hP hD
              exact ih (i + 1) _ _ _ _ (by omega) hP hD hS (lv_sub hl [0, 1] rfl)
          exact LC 3 0 fa _ _ _ (by omega)  (by rw [dgPs_0]; exact hP) (by rw [dgPs_0]; exact hD) hS (lv_sub hl [0, 1] rfl)
        | succ n ih =>
          intro i  H locs ls hi  hP hD hS hl
          refine lv_iload_n hx hb dX3_digest_38 rfl (lv_at hl 0 rfl) ?_
          refine lv_bipush (v := nI 80) hx hb dX3_digest_39 (by decide) ?_
          refine q_geN (tgt := 67) hx hb (by omega) (by omega) dX3_digest_41 (by decide) (fun c16 => absurd c16 (by omega)) (fun c16 => ?_)
          refine lv_aload_n hx hb dX3_digest_44 rfl (lv_at hl 1 rfl) ?_
          refine lv_aload_n hx hb dX3_digest_45 rfl (lv_at hl 1 rfl) ?_
          refine lv_iload_n hx hb dX3_digest_46 rfl (lv_at hl 0 rfl) ?_
          refine lv_bipush (v := nI 10) hx hb dX3_digest_47 (by decide) ?_
          refine q_divN hx hb ((i) / 10) rfl (by omega) (by omega) (by omega) dX3_digest_49 ?_
          refine lv_iload_n hx hb dX3_digest_50 rfl (lv_at hl 0 rfl) ?_
          refine lv_bipush (v := nI 10) hx hb dX3_digest_51 (by decide) ?_
          refine q_remN hx hb ((i) % 10) rfl (by omega) (by omega) (by omega) dX3_digest_53 ?_
          refine q_ciR (va_runV (rm := { frames := 3, cells := 0, slots := 0, locals := 65 }) (As := [.int (nI ((i) / 10)), .int (nI ((i) % 10))]) (rest := [.ref o]) ⟨hx, hb, hml, hown, hts⟩ (m3_ofGuest l D cI o ps ((i) / 10) ((i) % 10) (oM ps pa pv pn px (nI 0) (nI ns) (nI hs) (nI len) sp wr le wh te (fo (fun k => g_gu f (k / 10) (k % 10)) i (fo (g_ct f ns) 10 3779))) f rfl (by omega) B hI (by omega)) (cwV 2 hts gX3_digest_X3_ofGuest rfl rfl rfl (by decide +kernel) ⟨Nat.le_of_ble_eq_true rfl, Nat.le_of_ble_eq_true rfl⟩) (q_pV (ci := 3) (q0 := 0) (hP.sub (ws' := wS o ps cI (oM ps pa pv pn px (nI 0) (nI ns) (nI hs) (nI len) sp wr le wh te (fo (fun k => g_gu f (k / 10) (k % 10)) i (fo (g_ct f ns) 10 3779))) f) [0, 1] rfl) hK rfl rfl) rfl rfl hl.1 rfl (lv_room (Nat.le_of_ble_eq_true rfl)) dX3_digest_54 ⟨Nat.le_of_ble_eq_true rfl, Nat.le_of_ble_eq_true rfl⟩) hP hS (fun x17 H locs e17 hP hS => ?_)
          have e17 : x17 = g_gu f ((i) / 10) ((i) % 10) := e17
          refine lv_i2l (v := (x17.toInt64)) hx hb dX3_digest_57 rfl ?_
          refine q_cv1 (i := 0) (ws' := wR o ps pa pv pn px cI (oM ps pa pv pn px (nI 0) (nI ns) (nI hs) (nI len) sp wr le wh te (hL (fo (fun k => g_gu f (k / 10) (k % 10)) i (fo (g_ct f ns) 10 3779)) (x17.toInt64))) (rr f) fa fv fn fx) (va_runV (rm := { frames := 0, cells := 0, slots := 0, locals := 0 }) (As := [.long (x17.toInt64)]) (rest := []) ⟨hx, hb, hml, hown, hts⟩ (m3_digestOne l D cI o (oM ps pa pv pn px (nI 0) (nI ns) (nI hs) (nI len) sp wr le wh te (fo (fun k => g_gu f (k / 10) (k % 10)) i (fo (g_ct f ns) 10 3779))) (fo (fun k => g_gu f (k / 10) (k % 10)) i (fo (g_ct f ns) 10 3779)) (x17.toInt64) rfl (Nat.le_of_ble_eq_true rfl)) (cwV 1 hts gX3_digest_X3_digestOne rfl rfl rfl (by decide +kernel) ⟨Nat.le_of_ble_eq_true rfl, Nat.le_of_ble_eq_true rfl⟩) (q_pV (ci := 3) (q0 := 0) (hP.sub [0] rfl) (hK.sub [] rfl) rfl rfl) rfl rfl hl.1 rfl (lv_room (Nat.le_of_ble_eq_true rfl)) dX3_digest_58 ⟨Nat.le_of_ble_eq_true rfl, Nat.le_of_ble_eq_true rfl⟩) hP hD hS rfl (Or.inl rfl) rfl (fun H locs hP hD hS => ?_)
          refine lv_iinc (v := (nI (i + 1))) (lv' := [(1, .int (nI (i + 1))), (0, .ref o)]) hx hb dX3_digest_61 hl (k := 0) rfl (q_inc i 1 (i + 1) (by omega)) (by decide) rfl (fun ls hl => ?_)
          refine lv_goto (tgt := 38) hx hb dX3_digest_64 (by decide) ?_
          have hw : (hL (fo (fun k => g_gu f (k / 10) (k % 10)) i (fo (g_ct f ns) 10 3779)) (x17.toInt64)) = (fo (fun k => g_gu f (k / 10) (k % 10)) (i + 1) (fo (g_ct f ns) 10 3779)) := by
            rw [e17]
            exact fo_s _ _ _
          rw [hw] at hP hD
          exact ih (i + 1) _ _ _ (by omega) hP hD hS (lv_sub hl [0, 1] rfl)
      exact LB 80 0  _ _ _ (by omega)  (by rw [fo_0]; exact hP) (by rw [fo_0]; exact hD) hS (lv_sub hl [0, 1] rfl)
    | succ n ih =>
      intro i  H locs ls hi  hP hD hS hl
      refine lv_iload_n hx hb dX3_digest_14 rfl (lv_at hl 0 rfl) ?_
      refine lv_bipush (v := nI 10) hx hb dX3_digest_15 (by decide) ?_
      refine q_geN (tgt := 36) hx hb (by omega) (by omega) dX3_digest_17 (by decide) (fun c18 => absurd c18 (by omega)) (fun c18 => ?_)
      refine lv_aload_n hx hb dX3_digest_20 rfl (lv_at hl 1 rfl) ?_
      refine lv_aload_n hx hb dX3_digest_21 rfl (lv_at hl 1 rfl) ?_
      refine lv_iload_n hx hb dX3_digest_22 rfl (lv_at hl 0 rfl) ?_
      refine q_ciF (BH := fun H => va_P D vwCl (wR o ps pa pv pn px cI (oM ps pa pv pn px (nI 0) (nI ns) (nI hs) (nI len) sp wr le wh te (fo (g_ct f ns) i 3779)) (rr f) fa fv fn fx) H) (va_runV (rm := { frames := 2, cells := 0, slots := 0, locals := 44 }) (As := [.int (nI i)]) (rest := [.ref o]) ⟨hx, hb, hml, hown, hts⟩ (m3_counted l D cI o ps pa pv pn px f fa fv fn fx ns hn (nI 0) (nI hs) (nI len) sp wr le wh te (fo (g_ct f ns) i 3779) i (by omega) hD) (cwV 1 hts gX3_digest_X3_counted rfl rfl rfl (by decide +kernel) ⟨Nat.le_of_ble_eq_true rfl, Nat.le_of_ble_eq_true rfl⟩) (q_pV (ci := 3) (q0 := 0) hP hK rfl rfl) rfl rfl hl.1 rfl (lv_room (Nat.le_of_ble_eq_true rfl)) dX3_digest_23 ⟨Nat.le_of_ble_eq_true rfl, Nat.le_of_ble_eq_true rfl⟩) (fun _ h => h) hS (fun _ h => h) (fun x19 H locs e19 hP hS => ?_)
      have e19 : x19 = g_ct f ns i := e19
      refine lv_i2l (v := (x19.toInt64)) hx hb dX3_digest_26 rfl ?_
      refine q_cv1 (i := 0) (ws' := wR o ps pa pv pn px cI (oM ps pa pv pn px (nI 0) (nI ns) (nI hs) (nI len) sp wr le wh te (hL (fo (g_ct f ns) i 3779) (x19.toInt64))) (rr f) fa fv fn fx) (va_runV (rm := { frames := 0, cells := 0, slots := 0, locals := 0 }) (As := [.long (x19.toInt64)]) (rest := []) ⟨hx, hb, hml, hown, hts⟩ (m3_digestOne l D cI o (oM ps pa pv pn px (nI 0) (nI ns) (nI hs) (nI len) sp wr le wh te (fo (g_ct f ns) i 3779)) (fo (g_ct f ns) i 3779) (x19.toInt64) rfl (Nat.le_of_ble_eq_true rfl)) (cwV 1 hts gX3_digest_X3_digestOne rfl rfl rfl (by decide +kernel) ⟨Nat.le_of_ble_eq_true rfl, Nat.le_of_ble_eq_true rfl⟩) (q_pV (ci := 3) (q0 := 0) (hP.sub [0] rfl) (hK.sub [] rfl) rfl rfl) rfl rfl hl.1 rfl (lv_room (Nat.le_of_ble_eq_true rfl)) dX3_digest_27 ⟨Nat.le_of_ble_eq_true rfl, Nat.le_of_ble_eq_true rfl⟩) hP hD hS rfl (Or.inl rfl) rfl (fun H locs hP hD hS => ?_)
      refine lv_iinc (v := (nI (i + 1))) (lv' := [(1, .int (nI (i + 1))), (0, .ref o)]) hx hb dX3_digest_30 hl (k := 0) rfl (q_inc i 1 (i + 1) (by omega)) (by decide) rfl (fun ls hl => ?_)
      refine lv_goto (tgt := 14) hx hb dX3_digest_33 (by decide) ?_
      have hw : (hL (fo (g_ct f ns) i 3779) (x19.toInt64)) = (fo (g_ct f ns) (i + 1) 3779) := by
        rw [e19]
        exact fo_s _ _ _
      rw [hw] at hP hD
      exact ih (i + 1) _ _ _ (by omega) hP hD hS (lv_sub hl [0, 1] rfl)
  exact LA 10 0  _ _ _ (by omega)  (by rw [fo_0]; exact hP) (by rw [fo_0]; exact hD) hS (lv_sub hl [0, 1] rfl)
set_option maxHeartbeats 4000000 in
set_option maxRecDepth 100000 in
theorem m3_spiltShare (l : Launch) (D : va_G) (cI : ClassId) (o ps pa pv pn px : Nat) (f fa fv fn fx : Nat → Int32) (B : Nat) (hI : Inv B f) (hB8 : 8 * B < 2147483648) (th mn kp ln sp wr le wh te : Int32) (dg : Int64) (hD : va_D (fun _ => True) (wR o ps pa pv pn px cI (oM ps pa pv pn px th mn kp ln sp wr le wh te dg) (rr f) fa fv fn fx)) : q_Db l yX3_spiltShare wsX3_spiltShare { frames := 3, cells := 0, slots := 0, locals := 65 } [.ref o] (q_bp D (wR o ps pa pv pn px cI (oM ps pa pv pn px th mn kp ln sp wr le wh te dg) (rr f) fa fv fn fx) [(cI, .int)]) (fun v => v = g_share f) (fun H => va_P D vwCl (wR o ps pa pv pn px cI (oM ps pa pv pn px (nI 0) mn kp ln sp wr le wh te dg) (rr f) fa fv fn fx) H) (AM o ps pa pv pn px) 0 0 := by
  refine q_goD (cc := cX3_spiltShare) (maxL := 1) (lv0 := [(0, .ref o)]) (by decide) rfl (Nat.le_of_ble_eq_true rfl) rfl ?_
  intro p e s m args below meth c Q ls hx hb hml hts hown hP hK hl hret
  have hi3 : ∀ w ∈ wsX30, w ∈ wsX3_spiltShare := by decide +kernel
  have hfl32 := hts (.fieldLink RX3 32 "WhisperedPotsModel" "thrown" "I") (by decide +kernel)
  have hS : va_S (AM o ps pa pv pn px) s.heap s.heap [] := va_S.rf
  have hne : o ≠ ps := fun h => absurd (hD.1 0 1 _ _ rfl rfl h) (by decide)
  refine lv_aload_n hx hb dX3_spiltShare_0 rfl (lv_at hl 0 rfl) ?_
  refine lv_iconst (v := nI 0) hx hb dX3_spiltShare_1 (by decide) ?_
  refine q_pt (D := D) (ci := 3) (v := .int (nI 0)) (ty := .int) (C := RX3) (T := TX3) (N := 15) hx hb hts hi3 tyX3 tyX3_ok nmX3 hown hK hP hD hS (Or.inl rfl) 0 rfl rfl 0 (by decide) hfl32 (fun _ h9 => h9) rfl (by decide +kernel) rfl rfl (Nat.le_of_ble_eq_true rfl) (ws' := wR o ps pa pv pn px cI (oM ps pa pv pn px (nI 0) mn kp ln sp wr le wh te dg) (rr f) fa fv fn fx) rfl dX3_spiltShare_2 (fun H locs hP hD hS => ?_)
  refine lv_aload_n hx hb dX3_spiltShare_5 rfl (lv_at hl 0 rfl) ?_
  refine q_cdR (va_runV (rm := { frames := 2, cells := 0, slots := 0, locals := 44 }) (As := []) (rest := []) ⟨hx, hb, hml, hown, hts⟩ (m3_share l D cI o ps (oM ps pa pv pn px (nI 0) mn kp ln sp wr le wh te dg) f rfl B hI hB8) (cwV 0 hts gX3_spiltShare_X3_share rfl rfl rfl (by decide +kernel) ⟨Nat.le_of_ble_eq_true rfl, Nat.le_of_ble_eq_true rfl⟩) (q_pV (ci := 3) (q0 := 0) (hP.sub (ws' := wS o ps cI (oM ps pa pv pn px (nI 0) mn kp ln sp wr le wh te dg) f) [0, 1] rfl) hK rfl rfl) rfl rfl hl.1 rfl (lv_room (Nat.le_of_ble_eq_true rfl)) dX3_spiltShare_6 ⟨Nat.le_of_ble_eq_true rfl, Nat.le_of_ble_eq_true rfl⟩) hP hS (fun x1 H locs e1 hP hS => ?_)
  have e1 : x1 = g_share f := e1
  subst e1
  exact hret _ _ _ _ _ rfl hP hS dX3_spiltShare_9
set_option maxHeartbeats 4000000 in
set_option maxRecDepth 100000 in
theorem m3_meanTrust (l : Launch) (D : va_G) (cI : ClassId) (o ps pa pv pn px : Nat) (f fa fv fn fx : Nat → Int32) (B : Nat) (hI : Inv B f) (th mn kp ln sp wr le wh te : Int32) (dg : Int64) (hD : va_D (fun _ => True) (wR o ps pa pv pn px cI (oM ps pa pv pn px th mn kp ln sp wr le wh te dg) (rr f) fa fv fn fx)) : q_Fl l yX3_meanTrust wsX3_meanTrust { frames := 3, cells := 0, slots := 0, locals := 64 } [.ref o] (q_bp D (wR o ps pa pv pn px cI (oM ps pa pv pn px th mn kp ln sp wr le wh te dg) (rr f) fa fv fn fx) [(cI, .int)]) (fun v => v = g_trust f) (fun H => va_P D vwCl (wR o ps pa pv pn px cI (oM ps pa pv pn px (nI 0) mn kp ln sp wr le wh te dg) (rr f) fa fv fn fx) H) (AM o ps pa pv pn px) 0 0 := by
  refine q_goF (cc := cX3_meanTrust) (maxL := 1) (lv0 := [(0, .ref o)]) (by decide) rfl (Nat.le_of_ble_eq_true rfl) rfl ?_
  intro p e s m args below meth c Q ls hx hb hml hts hown hP hK hl hret
  have hi3 : ∀ w ∈ wsX30, w ∈ wsX3_meanTrust := by decide +kernel
  have hfl32 := hts (.fieldLink RX3 32 "WhisperedPotsModel" "thrown" "I") (by decide +kernel)
  have hS : va_S (AM o ps pa pv pn px) s.heap s.heap [] := va_S.rf
  have hne : o ≠ ps := fun h => absurd (hD.1 0 1 _ _ rfl rfl h) (by decide)
  refine lv_aload_n hx hb dX3_meanTrust_0 rfl (lv_at hl 0 rfl) ?_
  refine lv_iconst (v := nI 0) hx hb dX3_meanTrust_1 (by decide) ?_
  refine q_pt (D := D) (ci := 3) (v := .int (nI 0)) (ty := .int) (C := RX3) (T := TX3) (N := 15) hx hb hts hi3 tyX3 tyX3_ok nmX3 hown hK hP hD hS (Or.inl rfl) 0 rfl rfl 0 (by decide) hfl32 (fun _ h9 => h9) rfl (by decide +kernel) rfl rfl (Nat.le_of_ble_eq_true rfl) (ws' := wR o ps pa pv pn px cI (oM ps pa pv pn px (nI 0) mn kp ln sp wr le wh te dg) (rr f) fa fv fn fx) rfl dX3_meanTrust_2 (fun H locs hP hD hS => ?_)
  refine lv_aload_n hx hb dX3_meanTrust_5 rfl (lv_at hl 0 rfl) ?_
  refine q_cfR (va_runV (rm := { frames := 2, cells := 0, slots := 0, locals := 44 }) (As := []) (rest := []) ⟨hx, hb, hml, hown, hts⟩ (m3_trust l D cI o ps (oM ps pa pv pn px (nI 0) mn kp ln sp wr le wh te dg) f rfl B hI) (cwV 0 hts gX3_meanTrust_X3_trust rfl rfl rfl (by decide +kernel) ⟨Nat.le_of_ble_eq_true rfl, Nat.le_of_ble_eq_true rfl⟩) (q_pV (ci := 3) (q0 := 0) (hP.sub (ws' := wS o ps cI (oM ps pa pv pn px (nI 0) mn kp ln sp wr le wh te dg) f) [0, 1] rfl) hK rfl rfl) rfl rfl hl.1 rfl (lv_room (Nat.le_of_ble_eq_true rfl)) dX3_meanTrust_6 ⟨Nat.le_of_ble_eq_true rfl, Nat.le_of_ble_eq_true rfl⟩) hP hS (fun x1 H locs e1 hP hS => ?_)
  have e1 : x1 = g_trust f := e1
  subst e1
  exact hret _ _ _ _ _ rfl hP hS dX3_meanTrust_9
