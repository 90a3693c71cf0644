set_option maxHeartbeats 4000000 in
set_option maxRecDepth 100000 in
theorem m3_init (l : Launch) (D : va_G) (cI : ClassId) (o sz : Nat) : q_C l yX3_init wsX3_init { frames := 1, cells := 5, slots := 1302, locals := 21 } [.ref o] D [(o, .inr (3, [.int (nI 0), .null, .null, .null, .int (nI 0), .null, .int (nI 0), .null, .int (nI 0), .int (nI 0), .int (nI 0), .int (nI 0), .int (nI 0), .int (nI 0), .long 0]))] [(cI, .int)] sz (fun u => ∃ ps pa pv pn px, u = wR o ps pa pv pn px cI (oM ps pa pv pn px (nI 0) (nI 0) (nI 0) (nI 0) (nI 0) (nI 0) (nI 0) (nI 0) (nI 0) 0) (rr f00) z0 z0 z0 z0) 5 1302 := by
  refine q_goC (cc := cX3_init) (maxL := 2) (lv0 := [(0, .ref o)]) (by decide) rfl (Nat.le_of_ble_eq_true rfl) rfl ?_
  intro p e s m args below meth c Q ls A hx hb hml hts hown hP hD hA hK hl hret hin
  have hi3 : ∀ w ∈ wsX30, w ∈ wsX3_init := by decide +kernel
  have hfl7 := hts (.fieldLink RX3 7 "WhisperedPotsModel" "s" "[I") (by decide +kernel)
  have hfl13 := hts (.fieldLink RX3 13 "WhisperedPotsModel" "aside" "[I") (by decide +kernel)
  have hfl16 := hts (.fieldLink RX3 16 "WhisperedPotsModel" "saved" "[I") (by decide +kernel)
  have hfl19 := hts (.fieldLink RX3 19 "WhisperedPotsModel" "snapshot" "[I") (by decide +kernel)
  have hfl22 := hts (.fieldLink RX3 22 "WhisperedPotsModel" "text" "[I") (by decide +kernel)
  have hS : va_S A s.heap s.heap [] := va_S.rf
  refine lv_aload_n hx hb dX3_init_0 rfl (lv_at hl 0 rfl) ?_
  refine W.objInit hx hb hown (hts (.methodLink RX3 1 objectInit) (by decide +kernel)) (hts (.instanceMethod objectInit) (by decide +kernel)) (hts _ (List.mem_cons_of_mem _ (List.mem_append_left _ (List.mem_of_getElem? (i := 2) rfl)))) rfl (by rw [hml]; exact hl.1) rfl dX3_init_1 (Nat.le_of_ble_eq_true rfl) (Nat.le_of_ble_eq_true rfl) ?_
  refine W.eq (g2 := F0 m 4 ls []) rfl ?_
  refine lv_aload_n hx hb dX3_init_4 rfl (lv_at hl 0 rfl) ?_
  refine lv_sipush (v := nI 138) hx hb dX3_init_5 (by decide) ?_
  refine q_newa hx hb (hts (.arrayClass .int) (by decide +kernel)) hK 0 rfl hP hD hS hA (nI_pos (Nat.le_of_ble_eq_true rfl)) (nI_clamp (Nat.le_of_ble_eq_true rfl)) (Nat.le_of_ble_eq_true rfl) (Nat.le_of_ble_eq_true rfl) (Nat.le_of_ble_eq_true rfl) dX3_init_8 (fun ps H hP hD hS => ?_)
  refine va_putF (D := D) (ci := 3) (v := .ref ps) (ty := .array .int) (C := RX3) (T := TX3) (N := 15) hx hb hts hi3 tyX3 tyX3_ok nmX3 hown hK hP hD hS 0 rfl rfl 1 (by decide) hfl7 (fun _ h9 => h9) rfl hin rfl (by decide +kernel) rfl rfl (Nat.le_of_ble_eq_true rfl) dX3_init_10 (fun H locs hP hD hS => ?_)
  refine lv_aload_n hx hb dX3_init_13 rfl (lv_at hl 0 rfl) ?_
  refine lv_sipush (v := nI 138) hx hb dX3_init_14 (by decide) ?_
  refine q_newa hx hb (hts (.arrayClass .int) (by decide +kernel)) hK 0 rfl hP hD hS hA (nI_pos (Nat.le_of_ble_eq_true rfl)) (nI_clamp (Nat.le_of_ble_eq_true rfl)) (Nat.le_of_ble_eq_true rfl) (Nat.le_of_ble_eq_true rfl) (Nat.le_of_ble_eq_true rfl) dX3_init_17 (fun pa H hP hD hS => ?_)
  refine va_putF (D := D) (ci := 3) (v := .ref pa) (ty := .array .int) (C := RX3) (T := TX3) (N := 15) hx hb hts hi3 tyX3 tyX3_ok nmX3 hown hK hP hD hS 0 rfl rfl 2 (by decide) hfl13 (fun _ h9 => h9) rfl hin rfl (by decide +kernel) rfl rfl (Nat.le_of_ble_eq_true rfl) dX3_init_19 (fun H locs hP hD hS => ?_)
  refine lv_aload_n hx hb dX3_init_22 rfl (lv_at hl 0 rfl) ?_
  refine lv_sipush (v := nI 828) hx hb dX3_init_23 (by decide) ?_
  refine q_newa hx hb (hts (.arrayClass .int) (by decide +kernel)) hK 0 rfl hP hD hS hA (nI_pos (Nat.le_of_ble_eq_true rfl)) (nI_clamp (Nat.le_of_ble_eq_true rfl)) (Nat.le_of_ble_eq_true rfl) (Nat.le_of_ble_eq_true rfl) (Nat.le_of_ble_eq_true rfl) dX3_init_26 (fun pv H hP hD hS => ?_)
  refine va_putF (D := D) (ci := 3) (v := .ref pv) (ty := .array .int) (C := RX3) (T := TX3) (N := 15) hx hb hts hi3 tyX3 tyX3_ok nmX3 hown hK hP hD hS 0 rfl rfl 3 (by decide) hfl16 (fun _ h9 => h9) rfl hin rfl (by decide +kernel) rfl rfl (Nat.le_of_ble_eq_true rfl) dX3_init_28 (fun H locs hP hD hS => ?_)
  refine lv_aload_n hx hb dX3_init_31 rfl (lv_at hl 0 rfl) ?_
  refine lv_sipush (v := nI 138) hx hb dX3_init_32 (by decide) ?_
  refine q_newa hx hb (hts (.arrayClass .int) (by decide +kernel)) hK 0 rfl hP hD hS hA (nI_pos (Nat.le_of_ble_eq_true rfl)) (nI_clamp (Nat.le_of_ble_eq_true rfl)) (Nat.le_of_ble_eq_true rfl) (Nat.le_of_ble_eq_true rfl) (Nat.le_of_ble_eq_true rfl) dX3_init_35 (fun pn H hP hD hS => ?_)
  refine va_putF (D := D) (ci := 3) (v := .ref pn) (ty := .array .int) (C := RX3) (T := TX3) (N := 15) hx hb hts hi3 tyX3 tyX3_ok nmX3 hown hK hP hD hS 0 rfl rfl 5 (by decide) hfl19 (fun _ h9 => h9) rfl hin rfl (by decide +kernel) rfl rfl (Nat.le_of_ble_eq_true rfl) dX3_init_37 (fun H locs hP hD hS => ?_)
  refine lv_aload_n hx hb dX3_init_40 rfl (lv_at hl 0 rfl) ?_
  refine lv_bipush (v := nI 60) hx hb dX3_init_41 (by decide) ?_
  refine q_newa hx hb (hts (.arrayClass .int) (by decide +kernel)) hK 0 rfl hP hD hS hA (nI_pos (Nat.le_of_ble_eq_true rfl)) (nI_clamp (Nat.le_of_ble_eq_true rfl)) (Nat.le_of_ble_eq_true rfl) (Nat.le_of_ble_eq_true rfl) (Nat.le_of_ble_eq_true rfl) dX3_init_43 (fun px H hP hD hS => ?_)
  refine va_putF (D := D) (ci := 3) (v := .ref px) (ty := .array .int) (C := RX3) (T := TX3) (N := 15) hx hb hts hi3 tyX3 tyX3_ok nmX3 hown hK hP hD hS 0 rfl rfl 7 (by decide) hfl22 (fun _ h9 => h9) rfl hin rfl (by decide +kernel) rfl rfl (Nat.le_of_ble_eq_true rfl) dX3_init_45 (fun H locs hP hD hS => ?_)
  have hP : va_P D vwCl (wR o ps pa pv pn px cI (oM ps pa pv pn px (nI 0) (nI 0) (nI 0) (nI 0) (nI 0) (nI 0) (nI 0) (nI 0) (nI 0) 0) (rr z0) z0 z0 z0 z0) H := hP
  have hD : va_D A (wR o ps pa pv pn px cI (oM ps pa pv pn px (nI 0) (nI 0) (nI 0) (nI 0) (nI 0) (nI 0) (nI 0) (nI 0) (nI 0) 0) (rr z0) z0 z0 z0 z0) := hD
  have hAps : A ps := hD.2 1 _ rfl
  refine lv_iconst (v := nI 0) hx hb dX3_init_48 (by decide) ?_
  refine lv_istore_n (lv' := [(1, .int (nI 0)), (0, .ref o)]) hx hb dX3_init_49 rfl hl (by decide) rfl (fun ls hl => ?_)
  have LA : ∀ (n i : Nat)  (H : Heap) (locs : List Loc) (ls : Array Slot), i + n = 8 → va_P D vwCl (wR o ps pa pv pn px cI (oM ps pa pv pn px (nI 0) (nI 0) (nI 0) (nI 0) (nI 0) (nI 0) (nI 0) (nI 0) (nI 0) 0) (rr (i1 z0 i)) z0 z0 z0 z0) H → va_D A (wR o ps pa pv pn px cI (oM ps pa pv pn px (nI 0) (nI 0) (nI 0) (nI 0) (nI 0) (nI 0) (nI 0) (nI 0) (nI 0) 0) (rr (i1 z0 i)) z0 z0 z0 z0) → va_S (A) s.heap H locs → lv_has ls 2 [(1, .int (nI i)), (0, .ref o)] → W p l e { frames := 1, cells := 5, slots := 1302, locals := 21 } s m args below meth c H locs (0 + 1 + 1 + 1 + 1 + 1) (0 + 138 + 138 + 828 + 138 + 60) Q (F0 m 50 ls []) := by
    intro n
    induction n with
    | zero =>
      intro i  H locs ls hi  hP hD hS hl
      obtain rfl : 8 = i := by omega
      refine lv_iload_n hx hb dX3_init_50 rfl (lv_at hl 0 rfl) ?_
      refine lv_bipush (v := nI 8) hx hb dX3_init_51 (by decide) ?_
      refine q_geN (tgt := 96) hx hb (by omega) (by omega) dX3_init_53 (by decide) (fun c1 => ?_) (fun c1 => absurd c1 (by decide))
      refine lv_iconst (v := nI 0) hx hb dX3_init_96 (by decide) ?_
      refine lv_istore_n (lv' := [(1, .int (nI 0)), (0, .ref o)]) hx hb dX3_init_97 rfl hl (by decide) rfl (fun ls hl => ?_)
      have LB : ∀ (n i : Nat)  (H : Heap) (locs : List Loc) (ls : Array Slot), i + n = 3 → va_P D vwCl (wR o ps pa pv pn px cI (oM ps pa pv pn px (nI 0) (nI 0) (nI 0) (nI 0) (nI 0) (nI 0) (nI 0) (nI 0) (nI 0) 0) (rr (i2 (i1 z0 8) i)) z0 z0 z0 z0) H → va_D A (wR o ps pa pv pn px cI (oM ps pa pv pn px (nI 0) (nI 0) (nI 0) (nI 0) (nI 0) (nI 0) (nI 0) (nI 0) (nI 0) 0) (rr (i2 (i1 z0 8) i)) z0 z0 z0 z0) → va_S (A) s.heap H locs → lv_has ls 2 [(1, .int (nI i)), (0, .ref o)] → W p l e { frames := 1, cells := 5, slots := 1302, locals := 21 } s m args below meth c H locs (0 + 1 + 1 + 1 + 1 + 1) (0 + 138 + 138 + 828 + 138 + 60) Q (F0 m 98 ls []) := by
        intro n
        induction n with
        | zero =>
          intro i  H locs ls hi  hP hD hS hl
          obtain rfl : 3 = i := by omega
          refine lv_iload_n hx hb dX3_init_98 rfl (lv_at hl 0 rfl) ?_
          refine lv_iconst (v := nI 3) hx hb dX3_init_99 (by decide) ?_
          refine q_geN (tgt := 122) hx hb (by omega) (by omega) dX3_init_100 (by decide) (fun c2 => ?_) (fun c2 => absurd c2 (by decide))
          refine lv_iconst (v := nI 0) hx hb dX3_init_122 (by decide) ?_
          refine lv_istore_n (lv' := [(1, .int (nI 0)), (0, .ref o)]) hx hb dX3_init_123 rfl hl (by decide) rfl (fun ls hl => ?_)
          have LC : ∀ (n i : Nat)  (H : Heap) (locs : List Loc) (ls : Array Slot), i + n = 24 → va_P D vwCl (wR o ps pa pv pn px cI (oM ps pa pv pn px (nI 0) (nI 0) (nI 0) (nI 0) (nI 0) (nI 0) (nI 0) (nI 0) (nI 0) 0) (rr (i3 (i2 (i1 z0 8) 3) i)) z0 z0 z0 z0) H → va_D A (wR o ps pa pv pn px cI (oM ps pa pv pn px (nI 0) (nI 0) (nI 0) (nI 0) (nI 0) (nI 0) (nI 0) (nI 0) (nI 0) 0) (rr (i3 (i2 (i1 z0 8) 3) i)) z0 z0 z0 z0) → va_S (A) s.heap H locs → lv_has ls 2 [(1, .int (nI i)), (0, .ref o)] → W p l e { frames := 1, cells := 5, slots := 1302, locals := 21 } s m args below meth c H locs (0 + 1 + 1 + 1 + 1 + 1) (0 + 138 + 138 + 828 + 138 + 60) Q (F0 m 124 ls []) := by
            intro n
            induction n with
            | zero =>
              intro i  H locs ls hi  hP hD hS hl
              obtain rfl : 24 = i := by omega
              refine lv_iload_n hx hb dX3_init_124 rfl (lv_at hl 0 rfl) ?_
              refine lv_bipush (v := nI 24) hx hb dX3_init_125 (by decide) ?_
              refine q_geN (tgt := 146) hx hb (by omega) (by omega) dX3_init_127 (by decide) (fun c3 => ?_) (fun c3 => absurd c3 (by decide))
              exact hret _ _ _ _ _ ⟨ps, pa, pv, pn, px, rfl⟩ hP hD hS dX3_init_146
            | succ n ih =>
              intro i  H locs ls hi  hP hD hS hl
              refine lv_iload_n hx hb dX3_init_124 rfl (lv_at hl 0 rfl) ?_
              refine lv_bipush (v := nI 24) hx hb dX3_init_125 (by decide) ?_
              refine q_geN (tgt := 146) hx hb (by omega) (by omega) dX3_init_127 (by decide) (fun c4 => absurd c4 (by omega)) (fun c4 => ?_)
              refine lv_aload_n hx hb dX3_init_130 rfl (lv_at hl 1 rfl) ?_
              refine va_get (D := D) (ci := 3) (v := .ref ps) (C := RX3) (T := TX3) (N := 15) hx hb hts hi3 hown hK hP 0 rfl rfl 1 (by decide) hfl7 (fun _ h9 => h9) rfl dX3_init_131 ?_
              refine lv_bipush (v := nI 87) hx hb dX3_init_134 (by decide) ?_
              refine lv_iload_n hx hb dX3_init_136 rfl (lv_at hl 0 rfl) ?_
              refine q_addN hx hb (87 + i) (by omega) dX3_init_137 ?_
              refine lv_iconst (v := (-1)) hx hb dX3_init_138 (by decide) ?_
              refine q_stR hx hb hK hP hD hS 1 0 rfl rfl hAps (j := (87 + i)) (i := (87 + i)) (by omega) (by omega) (pm_id (by omega)) (fun g => wR o ps pa pv pn px cI (oM ps pa pv pn px (nI 0) (nI 0) (nI 0) (nI 0) (nI 0) (nI 0) (nI 0) (nI 0) (nI 0) 0) (rr g) z0 z0 z0 z0) (fun _ => rfl) dX3_init_139 (fun H locs f5 hf5 hP hD hS => ?_)
              refine lv_iinc (v := (nI (i + 1))) (lv' := [(1, .int (nI (i + 1))), (0, .ref o)]) hx hb dX3_init_140 hl (k := 0) rfl (q_inc i 1 (i + 1) (by omega)) (by decide) rfl (fun ls hl => ?_)
              refine lv_goto (tgt := 124) hx hb dX3_init_143 (by decide) ?_
              have hw : f5 = (i3 (i2 (i1 z0 8) 3) (i + 1)) := by rw [hf5]; rfl
              rw [hw] at hP hD
              exact ih (i + 1) _ _ _ (by omega) hP hD hS (lv_sub hl [0, 1] rfl)
          exact LC 24 0  _ _ _ (by omega)  hP hD hS (lv_sub hl [0, 1] rfl)
        | succ n ih =>
          intro i  H locs ls hi  hP hD hS hl
          refine lv_iload_n hx hb dX3_init_98 rfl (lv_at hl 0 rfl) ?_
          refine lv_iconst (v := nI 3) hx hb dX3_init_99 (by decide) ?_
          refine q_geN (tgt := 122) hx hb (by omega) (by omega) dX3_init_100 (by decide) (fun c6 => absurd c6 (by omega)) (fun c6 => ?_)
          refine lv_aload_n hx hb dX3_init_103 rfl (lv_at hl 1 rfl) ?_
          refine va_get (D := D) (ci := 3) (v := .ref ps) (C := RX3) (T := TX3) (N := 15) hx hb hts hi3 hown hK hP 0 rfl rfl 1 (by decide) hfl7 (fun _ h9 => h9) rfl dX3_init_104 ?_
          refine lv_iload_n hx hb dX3_init_107 rfl (lv_at hl 0 rfl) ?_
          refine lv_iconst (v := nI 0) hx hb dX3_init_108 (by decide) ?_
          refine q_ciR (va_runS (rm := { frames := 0, cells := 0, slots := 0, locals := 0 }) (As := [.int (nI i), .int (nI 0)]) (rest := [.ref ps]) ⟨hx, hb, hml, hown, hts⟩ (m3_ofPot l D i 0 (by omega) (by omega)) (va_cwS 2 hts gX3_init_X3_ofPot rfl rfl rfl (by decide +kernel) ⟨Nat.le_of_ble_eq_true rfl, Nat.le_of_ble_eq_true rfl⟩) (q_pS (hP.sub [] rfl) (hK.sub [] rfl)) rfl rfl hl.1 rfl (lv_room (Nat.le_of_ble_eq_true rfl)) dX3_init_109 ⟨Nat.le_of_ble_eq_true rfl, Nat.le_of_ble_eq_true rfl⟩) hP hS (fun x7 H locs e7 hP hS => ?_)
          have e7 : x7 = (nI (72 + 5 * i)) := Eq.trans e7 (congrArg nI (by omega))
          subst e7
          refine lv_iconst (v := nI 2) hx hb dX3_init_112 (by decide) ?_
          refine lv_iload_n hx hb dX3_init_113 rfl (lv_at hl 0 rfl) ?_
          refine q_mulN hx hb (2 * i) (by omega) dX3_init_114 ?_
          refine q_stR hx hb hK hP hD hS 1 0 rfl rfl hAps (j := (72 + 5 * i)) (i := (72 + i)) (by omega) (by omega) (pm_p0 (by omega)) (fun g => wR o ps pa pv pn px cI (oM ps pa pv pn px (nI 0) (nI 0) (nI 0) (nI 0) (nI 0) (nI 0) (nI 0) (nI 0) (nI 0) 0) (rr g) z0 z0 z0 z0) (fun _ => rfl) dX3_init_115 (fun H locs f8 hf8 hP hD hS => ?_)
          refine lv_iinc (v := (nI (i + 1))) (lv' := [(1, .int (nI (i + 1))), (0, .ref o)]) hx hb dX3_init_116 hl (k := 0) rfl (q_inc i 1 (i + 1) (by omega)) (by decide) rfl (fun ls hl => ?_)
          refine lv_goto (tgt := 98) hx hb dX3_init_119 (by decide) ?_
          have hw : f8 = (i2 (i1 z0 8) (i + 1)) := by rw [hf8]; rfl
          rw [hw] at hP hD
          exact ih (i + 1) _ _ _ (by omega) hP hD hS (lv_sub hl [0, 1] rfl)
      exact LB 3 0  _ _ _ (by omega)  hP hD hS (lv_sub hl [0, 1] rfl)
    | succ n ih =>
      intro i  H locs ls hi  hP hD hS hl
      refine lv_iload_n hx hb dX3_init_50 rfl (lv_at hl 0 rfl) ?_
      refine lv_bipush (v := nI 8) hx hb dX3_init_51 (by decide) ?_
      refine q_geN (tgt := 96) hx hb (by omega) (by omega) dX3_init_53 (by decide) (fun c9 => absurd c9 (by omega)) (fun c9 => ?_)
      refine lv_aload_n hx hb dX3_init_56 rfl (lv_at hl 1 rfl) ?_
      refine va_get (D := D) (ci := 3) (v := .ref ps) (C := RX3) (T := TX3) (N := 15) hx hb hts hi3 hown hK hP 0 rfl rfl 1 (by decide) hfl7 (fun _ h9 => h9) rfl dX3_init_57 ?_
      refine lv_iload_n hx hb dX3_init_60 rfl (lv_at hl 0 rfl) ?_
      refine lv_iconst (v := nI 0) hx hb dX3_init_61 (by decide) ?_
      refine q_ciR (va_runS (rm := { frames := 0, cells := 0, slots := 0, locals := 0 }) (As := [.int (nI i), .int (nI 0)]) (rest := [.ref ps]) ⟨hx, hb, hml, hown, hts⟩ (m3_of l D i 0 (by omega) (by omega)) (va_cwS 2 hts gX3_init_X3_of rfl rfl rfl (by decide +kernel) ⟨Nat.le_of_ble_eq_true rfl, Nat.le_of_ble_eq_true rfl⟩) (q_pS (hP.sub [] rfl) (hK.sub [] rfl)) rfl rfl hl.1 rfl (lv_room (Nat.le_of_ble_eq_true rfl)) dX3_init_62 ⟨Nat.le_of_ble_eq_true rfl, Nat.le_of_ble_eq_true rfl⟩) hP hS (fun x10 H locs e10 hP hS => ?_)
      have e10 : x10 = (nI (9 * i)) := Eq.trans e10 (congrArg nI (by omega))
      subst e10
      refine lv_bipush (v := nI 30) hx hb dX3_init_65 (by decide) ?_
      refine q_stR hx hb hK hP hD hS 1 0 rfl rfl hAps (j := (9 * i)) (i := i) (by omega) (by omega) (pm_g0 (by omega)) (fun g => wR o ps pa pv pn px cI (oM ps pa pv pn px (nI 0) (nI 0) (nI 0) (nI 0) (nI 0) (nI 0) (nI 0) (nI 0) (nI 0) 0) (rr g) z0 z0 z0 z0) (fun _ => rfl) dX3_init_67 (fun H locs f11 hf11 hP hD hS => ?_)
      refine lv_aload_n hx hb dX3_init_68 rfl (lv_at hl 1 rfl) ?_
      refine va_get (D := D) (ci := 3) (v := .ref ps) (C := RX3) (T := TX3) (N := 15) hx hb hts hi3 hown hK hP 0 rfl rfl 1 (by decide) hfl7 (fun _ h9 => h9) rfl dX3_init_69 ?_
      refine lv_iload_n hx hb dX3_init_72 rfl (lv_at hl 0 rfl) ?_
      refine lv_iconst (v := nI 2) hx hb dX3_init_73 (by decide) ?_
      refine q_ciR (va_runS (rm := { frames := 0, cells := 0, slots := 0, locals := 0 }) (As := [.int (nI i), .int (nI 2)]) (rest := [.ref ps]) ⟨hx, hb, hml, hown, hts⟩ (m3_of l D i 2 (by omega) (by omega)) (va_cwS 2 hts gX3_init_X3_of rfl rfl rfl (by decide +kernel) ⟨Nat.le_of_ble_eq_true rfl, Nat.le_of_ble_eq_true rfl⟩) (q_pS (hP.sub [] rfl) (hK.sub [] rfl)) rfl rfl hl.1 rfl (lv_room (Nat.le_of_ble_eq_true rfl)) dX3_init_74 ⟨Nat.le_of_ble_eq_true rfl, Nat.le_of_ble_eq_true rfl⟩) hP hS (fun x12 H locs e12 hP hS => ?_)
      have e12 : x12 = (nI (2 + 9 * i)) := Eq.trans e12 (congrArg nI (by omega))
      subst e12
      refine lv_iconst (v := nI 5) hx hb dX3_init_77 (by decide) ?_
      refine q_stR hx hb hK hP hD hS 1 0 rfl rfl hAps (j := (2 + 9 * i)) (i := (16 + i)) (by omega) (by omega) (pm_g2 (by omega)) (fun g => wR o ps pa pv pn px cI (oM ps pa pv pn px (nI 0) (nI 0) (nI 0) (nI 0) (nI 0) (nI 0) (nI 0) (nI 0) (nI 0) 0) (rr g) z0 z0 z0 z0) (fun _ => rfl) dX3_init_78 (fun H locs f13 hf13 hP hD hS => ?_)
      refine lv_aload_n hx hb dX3_init_79 rfl (lv_at hl 1 rfl) ?_
      refine va_get (D := D) (ci := 3) (v := .ref ps) (C := RX3) (T := TX3) (N := 15) hx hb hts hi3 hown hK hP 0 rfl rfl 1 (by decide) hfl7 (fun _ h9 => h9) rfl dX3_init_80 ?_
      refine lv_iload_n hx hb dX3_init_83 rfl (lv_at hl 0 rfl) ?_
      refine lv_iconst (v := nI 3) hx hb dX3_init_84 (by decide) ?_
      refine q_ciR (va_runS (rm := { frames := 0, cells := 0, slots := 0, locals := 0 }) (As := [.int (nI i), .int (nI 3)]) (rest := [.ref ps]) ⟨hx, hb, hml, hown, hts⟩ (m3_of l D i 3 (by omega) (by omega)) (va_cwS 2 hts gX3_init_X3_of rfl rfl rfl (by decide +kernel) ⟨Nat.le_of_ble_eq_true rfl, Nat.le_of_ble_eq_true rfl⟩) (q_pS (hP.sub [] rfl) (hK.sub [] rfl)) rfl rfl hl.1 rfl (lv_room (Nat.le_of_ble_eq_true rfl)) dX3_init_85 ⟨Nat.le_of_ble_eq_true rfl, Nat.le_of_ble_eq_true rfl⟩) hP hS (fun x14 H locs e14 hP hS => ?_)
      have e14 : x14 = (nI (3 + 9 * i)) := Eq.trans e14 (congrArg nI (by omega))
      subst e14
      refine lv_iconst (v := nI 5) hx hb dX3_init_88 (by decide) ?_
      refine q_stR hx hb hK hP hD hS 1 0 rfl rfl hAps (j := (3 + 9 * i)) (i := (24 + i)) (by omega) (by omega) (pm_g3 (by omega)) (fun g => wR o ps pa pv pn px cI (oM ps pa pv pn px (nI 0) (nI 0) (nI 0) (nI 0) (nI 0) (nI 0) (nI 0) (nI 0) (nI 0) 0) (rr g) z0 z0 z0 z0) (fun _ => rfl) dX3_init_89 (fun H locs f15 hf15 hP hD hS => ?_)
      refine lv_iinc (v := (nI (i + 1))) (lv' := [(1, .int (nI (i + 1))), (0, .ref o)]) hx hb dX3_init_90 hl (k := 0) rfl (q_inc i 1 (i + 1) (by omega)) (by decide) rfl (fun ls hl => ?_)
      refine lv_goto (tgt := 50) hx hb dX3_init_93 (by decide) ?_
      have hw : f15 = (i1 z0 (i + 1)) := by rw [hf15, hf13, hf11]; rfl
      rw [hw] at hP hD
      exact ih (i + 1) _ _ _ (by omega) hP hD hS (lv_sub hl [0, 1] rfl)
  exact LA 8 0  _ _ _ (by omega)  hP hD hS (lv_sub hl [0, 1] rfl)
