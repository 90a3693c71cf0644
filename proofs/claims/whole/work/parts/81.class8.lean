set_option maxHeartbeats 4000000 in
set_option maxRecDepth 100000 in
theorem m2_run_ok (l : Launch) (D : va_G) (z : Ad) (ol sn hs : Nat) (hol : ol < 6) (hsn : sn ≤ 6) (T S Y : Nat → Int32) (G : Nat → Nat → Int32) (len : Nat) (P : PS) (ch : Nat → Nat) (B : Nat) (hI : Inv B T) (hS0 : p_sm P) (hch : ∀ j, j < len → ch j < 128) (hlen : len ≤ 60) (hB : B + 200000 < 2000000000) (hc : p_cpl ch len P = true) (hD : va_D (fun _ => True) (wX z ol sn hs T S Y G len P ch)) : q_I l yX2_run wsX2_run { frames := 6, cells := 0, slots := 0, locals := 141 } [.ref (z.o)] (q_bp D (wX z ol sn hs T S Y G len P ch) (tyX z)) (fun v => v = nI (xr ch len len 0 (0, (p_fe ch len 0 (0, P.2)).2) T).1) (fun H => ∃ P2 : PS, p_sm P2 ∧ va_P D vwCl (wX z (so ol sn) (svn sn) hs (xr ch len len 0 (0, (p_fe ch len 0 (0, P.2)).2) T).2 S Y (updG G (sr ol sn) T) 0 P2 ch) H) (AX z) 0 0 := by
  refine q_goI (cc := cX2_run) (maxL := 4) (ty := .int) (lv0 := [(0, .ref (z.o))]) (by decide) rfl (Nat.le_of_ble_eq_true rfl) rfl ?_
  intro p e s m args below meth c Q ls hx hb hml hts hown hP hK hl hret
  have hi0 : ∀ w ∈ wsX00, w ∈ wsX2_run := by decide +kernel
  have hi2 : ∀ w ∈ wsX20, w ∈ wsX2_run := by decide +kernel
  have hfl29 := hts (.fieldLink RX2 29 "WhisperedPots" "errands" "LWhisperedPots$Errands;") (by decide +kernel)
  have hfl97 := hts (.fieldLink RX2 97 "WhisperedPots$Errands" "length" "I") (by decide +kernel)
  have hfl121 := hts (.fieldLink RX2 121 "WhisperedPots$Errands" "signs" "[I") (by decide +kernel)
  have hfl131 := hts (.fieldLink RX2 131 "WhisperedPots$Errands" "letter" "I") (by decide +kernel)
  have hfl134 := hts (.fieldLink RX2 134 "WhisperedPots$Errands" "place" "I") (by decide +kernel)
  have hfl137 := hts (.fieldLink RX2 137 "WhisperedPots$Errands" "tea" "I") (by decide +kernel)
  have hS : va_S (AX z) s.heap s.heap [] := va_S.rf
  refine lv_aload_n hx hb dX2_run_0 rfl (lv_at hl 0 rfl) ?_
  refine va_get (D := D) (ci := 2) (v := .ref (z.eo)) (C := RX2) (T := TX2) (N := 8) hx hb hts hi2 hown hK hP 0 rfl rfl 4 (by decide) hfl29 (fun _ h9 => h9) rfl dX2_run_1 ?_
  refine q_ci1 (i := 20) (ws' := wX z ol sn hs T S Y G len (p_fe ch len 0 (0, P.2)) ch) (va_runV (rm := { frames := 4, cells := 0, slots := 0, locals := 86 }) (As := []) (rest := []) ⟨hx, hb, hml, hown, hts⟩ (m0_areComplete l D z.cI z.eo z.sg len P ch hS0 hch hlen (wX_neE hD)) (cwV 0 hts gX2_run_X0_areComplete rfl rfl rfl (by decide +kernel) ⟨Nat.le_of_ble_eq_true rfl, Nat.le_of_ble_eq_true rfl⟩) (q_pV (ci := 0) (q0 := 0) (hP.sub (ws' := wE z.eo z.sg z.cI len P ch) [20, 21] rfl) (hK.sub [0] rfl) rfl rfl) rfl rfl hl.1 rfl (lv_room (Nat.le_of_ble_eq_true rfl)) dX2_run_4 ⟨Nat.le_of_ble_eq_true rfl, Nat.le_of_ble_eq_true rfl⟩) hP hD hS rfl (AX_i 20 rfl) rfl (fun x1 H locs e1 hP hD hS => ?_)
  have e1 : x1 = p_b (p_cpl ch len P) := e1
  refine lv_if_ne (tgt := 20) hx hb dX2_run_7 (by decide) (fun c2 => ?_) (fun c2 => absurd c2 (by rw [e1, hc]; decide))
  refine lv_aload_n hx hb dX2_run_20 rfl (lv_at hl 0 rfl) ?_
  refine q_cvF (BH := fun H => va_P D vwCl (wX z ((so ol sn)) ((svn sn)) hs T S Y (updG G (sr ol sn) T) len (p_fe ch len 0 (0, P.2)) ch) H) (va_runV (rm := { frames := 2, cells := 0, slots := 0, locals := 81 }) (As := []) (rest := []) ⟨hx, hb, hml, hown, hts⟩ (m2_save l D z ol sn hs hol hsn T S Y G len (p_fe ch len 0 (0, P.2)) ch hD) (cwV 0 hts gX2_run_X2_saveState rfl rfl rfl (by decide +kernel) ⟨Nat.le_of_ble_eq_true rfl, Nat.le_of_ble_eq_true rfl⟩) (q_pV (ci := 2) (q0 := 0) hP hK rfl rfl) rfl rfl hl.1 rfl (lv_room (Nat.le_of_ble_eq_true rfl)) dX2_run_21 ⟨Nat.le_of_ble_eq_true rfl, Nat.le_of_ble_eq_true rfl⟩) (fun _ h => h) hS (fun _ h => h) (fun H locs hP hS => ?_)
  have hD := q_D2 (ws' := wX z ((so ol sn)) ((svn sn)) hs T S Y (updG G (sr ol sn) T) len (p_fe ch len 0 (0, P.2)) ch) hD rfl
  refine lv_iconst (v := nI 0) hx hb dX2_run_24 (by decide) ?_
  refine lv_istore_n (lv' := [(1, .int (nI 0)), (0, .ref (z.o))]) hx hb dX2_run_25 rfl hl (by decide) rfl (fun ls hl => ?_)
  refine lv_iconst (v := nI 1) hx hb dX2_run_26 (by decide) ?_
  refine lv_istore_n (lv' := [(2, .int (nI 1)), (1, .int (nI 0)), (0, .ref (z.o))]) hx hb dX2_run_27 rfl hl (by decide) rfl (fun ls hl => ?_)
  refine lv_aload_n hx hb dX2_run_28 rfl (lv_at hl 2 rfl) ?_
  refine va_get (D := D) (ci := 2) (v := .ref (z.eo)) (C := RX2) (T := TX2) (N := 8) hx hb hts hi2 hown hK hP 0 rfl rfl 4 (by decide) hfl29 (fun _ h9 => h9) rfl dX2_run_29 ?_
  refine q_cv1 (i := 20) (ws' := wX z ((so ol sn)) ((svn sn)) hs T S Y (updG G (sr ol sn) T) len (0, (p_fe ch len 0 (0, P.2)).2) ch) (va_runV (rm := { frames := 0, cells := 0, slots := 0, locals := 0 }) (As := []) (rest := []) ⟨hx, hb, hml, hown, hts⟩ (m0_restart l D z.cI z.eo z.sg len (p_fe ch len 0 (0, P.2)) ch (wX_neE hD)) (cwV 0 hts gX2_run_X0_restart rfl rfl rfl (by decide +kernel) ⟨Nat.le_of_ble_eq_true rfl, Nat.le_of_ble_eq_true rfl⟩) (q_pV (ci := 0) (q0 := 0) (hP.sub (ws' := wE z.eo z.sg z.cI len (p_fe ch len 0 (0, P.2)) ch) [20, 21] rfl) (hK.sub [0] rfl) rfl rfl) rfl rfl hl.1 rfl (lv_room (Nat.le_of_ble_eq_true rfl)) dX2_run_32 ⟨Nat.le_of_ble_eq_true rfl, Nat.le_of_ble_eq_true rfl⟩) hP hD hS rfl (AX_i 20 rfl) rfl (fun H locs hP hD hS => ?_)
  refine lv_iconst (v := nI 0) hx hb dX2_run_35 (by decide) ?_
  refine lv_istore_n (lv' := [(3, .int (nI 0)), (2, .int (nI 1)), (1, .int (nI 0)), (0, .ref (z.o))]) hx hb dX2_run_36 rfl hl (by decide) rfl (fun ls hl => ?_)
  have hcs := cpl_s (R := (p_fe ch len 0 (0, P.2))) hc
  have hsm1 : p_sm (p_fe ch len 0 (0, P.2)) := p_smE hch (show p_sm (0, P.2) from ⟨Nat.zero_le _, hS0.2⟩) len 0 (by omega)
  have LP : ∀ (n i : Nat) (fa : Nat → Int32) (Pa : PS) (d : Nat) (H : Heap) (locs : List Loc) (ls : Array Slot), i + n = len → (hI2 : Inv (B + 1600 * i) fa) → (hg : p_gd Pa) → (hsm : p_sm Pa) → (hw : p_fw ch n i Pa = len) → (hdn : p_dn (p_fe ch n i Pa) = true) → (hX1 : d + (xr ch len n i Pa fa).1 = (xr ch len len 0 (0, (p_fe ch len 0 (0, P.2)).2) T).1) → (hX2 : (xr ch len n i Pa fa).2 = (xr ch len len 0 (0, (p_fe ch len 0 (0, P.2)).2) T).2) → va_P D vwCl (wX z ((so ol sn)) ((svn sn)) hs fa S Y (updG G (sr ol sn) T) len Pa ch) H → va_D (fun _ => True) (wX z ((so ol sn)) ((svn sn)) hs fa S Y (updG G (sr ol sn) T) len Pa ch) → va_S (AX z) s.heap H locs → lv_has ls 4 [(3, .int (nI i)), (2, .int (nI 1)), (1, .int (nI d)), (0, .ref (z.o))] → W p l e { frames := 6, cells := 0, slots := 0, locals := 141 } s m args below meth c H locs 0 0 Q (F0 m 37 ls []) := by
    intro n
    induction n with
    | zero =>
      intro i fa Pa d H locs ls hi hI2 hg hsm hw hdn hX1 hX2 hP hD hS hl
      obtain rfl : len = i := by omega
      refine lv_iload_n hx hb dX2_run_37 rfl (lv_at hl 1 rfl) ?_
      refine lv_if_eq (tgt := 124) hx hb dX2_run_38 (by decide) (fun c4 => absurd c4 (by decide)) (fun c4 => ?_)
      refine lv_iload_n hx hb dX2_run_41 rfl (lv_at hl 0 rfl) ?_
      refine lv_aload_n hx hb dX2_run_42 rfl (lv_at hl 3 rfl) ?_
      refine va_get (D := D) (ci := 2) (v := .ref (z.eo)) (C := RX2) (T := TX2) (N := 8) hx hb hts hi2 hown hK hP 0 rfl rfl 4 (by decide) hfl29 (fun _ h9 => h9) rfl dX2_run_43 ?_
      refine va_get (D := D) (ci := 0) (v := .int (nI len)) (C := RX0) (T := TX0) (N := 6) hx hb hts hi0 hown hK hP 20 rfl rfl 1 (by decide) hfl97 (fun _ h9 => h9) rfl dX2_run_46 ?_
      refine q_geN (tgt := 124) hx hb (by omega) (by omega) dX2_run_49 (by decide) (fun c5 => ?_) (fun c5 => absurd c5 (by omega))
      refine lv_aload_n hx hb dX2_run_124 rfl (lv_at hl 3 rfl) ?_
      refine va_get (D := D) (ci := 2) (v := .ref (z.eo)) (C := RX2) (T := TX2) (N := 8) hx hb hts hi2 hown hK hP 0 rfl rfl 4 (by decide) hfl29 (fun _ h9 => h9) rfl dX2_run_125 ?_
      refine lv_iconst (v := nI 0) hx hb dX2_run_128 (by decide) ?_
      refine q_pt (D := D) (ci := 0) (v := .int (nI 0)) (ty := .int) (C := RX0) (T := TX0) (N := 6) hx hb hts hi0 tyX0 tyX0_ok nmX0 hown hK hP hD hS (AX_i 20 rfl) 20 rfl rfl 1 (by decide) hfl97 (fun _ h9 => h9) rfl (by decide +kernel) rfl rfl (Nat.le_of_ble_eq_true rfl) (ws' := wX z ((so ol sn)) ((svn sn)) hs fa S Y (updG G (sr ol sn) T) 0 Pa ch) rfl dX2_run_129 (fun H locs hP hD hS => ?_)
      refine lv_iload_n hx hb dX2_run_132 rfl (lv_at hl 2 rfl) ?_
      refine hret _ _ _ _ _ rfl ?_ (⟨Pa, hsm, by rw [← hX2]; exact hP⟩) hS dX2_run_133
      rw [← hX1]
      rfl
    | succ n ih =>
      intro i fa Pa d H locs ls hi hI2 hg hsm hw hdn hX1 hX2 hP hD hS hl
      refine lv_iload_n hx hb dX2_run_37 rfl (lv_at hl 1 rfl) ?_
      refine lv_if_eq (tgt := 124) hx hb dX2_run_38 (by decide) (fun c6 => absurd c6 (by decide)) (fun c6 => ?_)
      refine lv_iload_n hx hb dX2_run_41 rfl (lv_at hl 0 rfl) ?_
      refine lv_aload_n hx hb dX2_run_42 rfl (lv_at hl 3 rfl) ?_
      refine va_get (D := D) (ci := 2) (v := .ref (z.eo)) (C := RX2) (T := TX2) (N := 8) hx hb hts hi2 hown hK hP 0 rfl rfl 4 (by decide) hfl29 (fun _ h9 => h9) rfl dX2_run_43 ?_
      refine va_get (D := D) (ci := 0) (v := .int (nI len)) (C := RX0) (T := TX0) (N := 6) hx hb hts hi0 hown hK hP 20 rfl rfl 1 (by decide) hfl97 (fun _ h9 => h9) rfl dX2_run_46 ?_
      refine q_geN (tgt := 124) hx hb (by omega) (by omega) dX2_run_49 (by decide) (fun c7 => absurd c7 (by omega)) (fun c7 => ?_)
      refine lv_aload_n hx hb dX2_run_52 rfl (lv_at hl 3 rfl) ?_
      refine va_get (D := D) (ci := 2) (v := .ref (z.eo)) (C := RX2) (T := TX2) (N := 8) hx hb hts hi2 hown hK hP 0 rfl rfl 4 (by decide) hfl29 (fun _ h9 => h9) rfl dX2_run_53 ?_
      refine lv_aload_n hx hb dX2_run_56 rfl (lv_at hl 3 rfl) ?_
      refine va_get (D := D) (ci := 2) (v := .ref (z.eo)) (C := RX2) (T := TX2) (N := 8) hx hb hts hi2 hown hK hP 0 rfl rfl 4 (by decide) hfl29 (fun _ h9 => h9) rfl dX2_run_57 ?_
      refine va_get (D := D) (ci := 0) (v := .ref (z.sg)) (C := RX0) (T := TX0) (N := 6) hx hb hts hi0 hown hK hP 20 rfl rfl 0 (by decide) hfl121 (fun _ h9 => h9) rfl dX2_run_60 ?_
      refine lv_iload_n hx hb dX2_run_63 rfl (lv_at hl 0 rfl) ?_
      refine q_ld hx hb hK hP 21 0 rfl rfl (j := i) (v := (nI ((ch i)))) (by omega) (by omega) rfl dX2_run_64 ?_
      refine q_ci1 (i := 20) (ws' := wX z ((so ol sn)) ((svn sn)) hs fa S Y (updG G (sr ol sn) T) len (p_nx ((ch i)) Pa) ch) (va_runV (rm := { frames := 2, cells := 0, slots := 0, locals := 44 }) (As := [.int (nI ((ch i)))]) (rest := []) ⟨hx, hb, hml, hown, hts⟩ (m0_read l D z.cI z.eo z.sg len ((ch i)) Pa ch (hch i (by omega)) hsm (wX_neE hD)) (cwV 1 hts gX2_run_X0_read rfl rfl rfl (by decide +kernel) ⟨Nat.le_of_ble_eq_true rfl, Nat.le_of_ble_eq_true rfl⟩) (q_pV (ci := 0) (q0 := 0) (hP.sub (ws' := wE z.eo z.sg z.cI len Pa ch) [20, 21] rfl) (hK.sub [0] rfl) rfl rfl) rfl rfl hl.1 rfl (lv_room (Nat.le_of_ble_eq_true rfl)) dX2_run_65 ⟨Nat.le_of_ble_eq_true rfl, Nat.le_of_ble_eq_true rfl⟩) hP hD hS rfl (AX_i 20 rfl) rfl (fun x8 H locs e8 hP hD hS => ?_)
      have e8 : x8 = p_b (p_ok ((ch i)) Pa) := e8
      refine lv_pop hx hb dX2_run_68 rfl ?_
      obtain ⟨hok, hw2, hdn2⟩ := fw_1 hi hw hdn
      have hg2 := p_gd_s hg hok
      have hsm2 := p_smN (hch i (by omega)) hsm
      refine lv_aload_n hx hb dX2_run_69 rfl (lv_at hl 3 rfl) ?_
      refine va_get (D := D) (ci := 2) (v := .ref (z.eo)) (C := RX2) (T := TX2) (N := 8) hx hb hts hi2 hown hK hP 0 rfl rfl 4 (by decide) hfl29 (fun _ h9 => h9) rfl dX2_run_70 ?_
      refine lv_iload_n hx hb dX2_run_73 rfl (lv_at hl 0 rfl) ?_
      refine q_ciR (va_runV (rm := { frames := 0, cells := 0, slots := 0, locals := 0 }) (As := [.int (nI i)]) (rest := []) ⟨hx, hb, hml, hown, hts⟩ (m0_endsPart l D z.cI z.eo z.sg len i (p_nx ((ch i)) Pa) ch (by omega) hlen hch) (cwV 1 hts gX2_run_X0_endsPart rfl rfl rfl (by decide +kernel) ⟨Nat.le_of_ble_eq_true rfl, Nat.le_of_ble_eq_true rfl⟩) (q_pV (ci := 0) (q0 := 0) (hP.sub (ws' := wE z.eo z.sg z.cI len (p_nx ((ch i)) Pa) ch) [20, 21] rfl) (hK.sub [0] rfl) rfl rfl) rfl rfl hl.1 rfl (lv_room (Nat.le_of_ble_eq_true rfl)) dX2_run_74 ⟨Nat.le_of_ble_eq_true rfl, Nat.le_of_ble_eq_true rfl⟩) hP hS (fun x9 H locs e9 hP hS => ?_)
      have e9 : x9 = p_b (p_end ch len i) := e9
      refine lv_if_eq (tgt := 118) hx hb dX2_run_77 (by decide) (fun c10 => ?_) (fun c10 => ?_)
      ·
        refine lv_iinc (v := (nI (i + 1))) (lv' := [(3, .int (nI (i + 1))), (2, .int (nI 1)), (1, .int (nI d)), (0, .ref (z.o))]) hx hb dX2_run_118 hl (k := 0) rfl (q_inc i 1 (i + 1) (by omega)) (by decide) rfl (fun ls hl => ?_)
        refine lv_goto (tgt := 37) hx hb dX2_run_121 (by decide) ?_
        have hend : p_end ch len i = false := p_b_f (by rw [← e9]; exact c10)
        have hxr := xr_no (n := n) (S := Pa) (f := fa) hend
        have hI4 : Inv (B + 1600 * (i + 1)) fa := hI2.mono (by omega)
        rw [hxr] at hX1 hX2
        exact ih (i + 1) fa (p_nx ((ch i)) Pa) d _ _ _ (by omega) hI4 hg2 hsm2 hw2 hdn2 hX1 hX2 hP hD hS (lv_sub hl [0, 1, 2, 3] rfl)
      ·
        have hend : p_end ch len i = true := p_b_t (by rw [← e9]; exact c10)
        have hge := p_gd_e hg hok hi hdn2 hend
        refine lv_aload_n hx hb dX2_run_80 rfl (lv_at hl 3 rfl) ?_
        refine lv_aload_n hx hb dX2_run_81 rfl (lv_at hl 3 rfl) ?_
        refine va_get (D := D) (ci := 2) (v := .ref (z.eo)) (C := RX2) (T := TX2) (N := 8) hx hb hts hi2 hown hK hP 0 rfl rfl 4 (by decide) hfl29 (fun _ h9 => h9) rfl dX2_run_82 ?_
        refine va_get (D := D) (ci := 0) (v := .int (nI ((p_nx ((ch i)) Pa).2.1))) (C := RX0) (T := TX0) (N := 6) hx hb hts hi0 hown hK hP 20 rfl rfl 3 (by decide) hfl131 (fun _ h9 => h9) rfl dX2_run_85 ?_
        refine lv_aload_n hx hb dX2_run_88 rfl (lv_at hl 3 rfl) ?_
        refine va_get (D := D) (ci := 2) (v := .ref (z.eo)) (C := RX2) (T := TX2) (N := 8) hx hb hts hi2 hown hK hP 0 rfl rfl 4 (by decide) hfl29 (fun _ h9 => h9) rfl dX2_run_89 ?_
        refine va_get (D := D) (ci := 0) (v := .int (nI ((p_nx ((ch i)) Pa).2.2.1))) (C := RX0) (T := TX0) (N := 6) hx hb hts hi0 hown hK hP 20 rfl rfl 4 (by decide) hfl134 (fun _ h9 => h9) rfl dX2_run_92 ?_
        refine lv_aload_n hx hb dX2_run_95 rfl (lv_at hl 3 rfl) ?_
        refine va_get (D := D) (ci := 2) (v := .ref (z.eo)) (C := RX2) (T := TX2) (N := 8) hx hb hts hi2 hown hK hP 0 rfl rfl 4 (by decide) hfl29 (fun _ h9 => h9) rfl dX2_run_96 ?_
        refine va_get (D := D) (ci := 0) (v := .int (nI ((p_nx ((ch i)) Pa).2.2.2))) (C := RX0) (T := TX0) (N := 6) hx hb hts hi0 hown hK hP 20 rfl rfl 5 (by decide) hfl137 (fun _ h9 => h9) rfl dX2_run_99 ?_
        refine q_ciF (BH := fun H => va_P D vwCl (wX z ((so ol sn)) ((svn sn)) hs (if e_ok fa ((p_nx ((ch i)) Pa).2.1) ((p_nx ((ch i)) Pa).2.2.1) ((p_nx ((ch i)) Pa).2.2.2) then e_do fa ((p_nx ((ch i)) Pa).2.1) ((p_nx ((ch i)) Pa).2.2.1) ((p_nx ((ch i)) Pa).2.2.2) else fa) S Y (updG G (sr ol sn) T) len (p_nx ((ch i)) Pa) ch) H) (va_runV (rm := { frames := 5, cells := 0, slots := 0, locals := 118 }) (As := [.int (nI ((p_nx ((ch i)) Pa).2.1)), .int (nI ((p_nx ((ch i)) Pa).2.2.1)), .int (nI ((p_nx ((ch i)) Pa).2.2.2))]) (rest := []) ⟨hx, hb, hml, hown, hts⟩ (m2_doErrand l D z ((so ol sn)) ((svn sn)) hs fa S Y (updG G (sr ol sn) T) len (p_nx ((ch i)) Pa) ch (B + 1600 * i) hI2 ((p_nx ((ch i)) Pa).2.1) ((p_nx ((ch i)) Pa).2.2.1) ((p_nx ((ch i)) Pa).2.2.2) (by omega) hge.1 hge.2.1 hge.2.2 hD) (cwV 3 hts gX2_run_X2_doErrand rfl rfl rfl (by decide +kernel) ⟨Nat.le_of_ble_eq_true rfl, Nat.le_of_ble_eq_true rfl⟩) (q_pV (ci := 2) (q0 := 0) hP hK rfl rfl) rfl rfl hl.1 rfl (lv_room (Nat.le_of_ble_eq_true rfl)) dX2_run_102 ⟨Nat.le_of_ble_eq_true rfl, Nat.le_of_ble_eq_true rfl⟩) (fun _ h => h) hS (fun _ h => h) (fun x11 H locs e11 hP hS => ?_)
        have e11 : x11 = p_b (e_ok fa ((p_nx ((ch i)) Pa).2.1) ((p_nx ((ch i)) Pa).2.2.1) ((p_nx ((ch i)) Pa).2.2.2)) := e11
        cases heo : e_ok fa ((p_nx ((ch i)) Pa).2.1) ((p_nx ((ch i)) Pa).2.2.1) ((p_nx ((ch i)) Pa).2.2.2) with
        | false =>
          rw [heo] at e11 hP
          have e11 : x11 = nI 0 := e11
          subst e11
          have hP : va_P D vwCl (wX z ((so ol sn)) ((svn sn)) hs fa S Y (updG G (sr ol sn) T) len (p_nx ((ch i)) Pa) ch) H := hP
          have hD := q_D2 (ws' := wX z ((so ol sn)) ((svn sn)) hs fa S Y (updG G (sr ol sn) T) len (p_nx ((ch i)) Pa) ch) hD rfl
          refine lv_istore_n (lv' := [(2, .int (nI 0)), (3, .int (nI i)), (1, .int (nI d)), (0, .ref (z.o))]) hx hb dX2_run_105 rfl hl (by decide) rfl (fun ls hl => ?_)
          refine lv_iload_n hx hb dX2_run_106 rfl (lv_at hl 2 rfl) ?_
          refine lv_iload_n hx hb dX2_run_107 rfl (lv_at hl 0 rfl) ?_
          refine lv_if_eq (tgt := 115) hx hb dX2_run_108 (by decide) (fun c12 => ?_) (fun c12 => absurd c12 (by decide))
          refine lv_iconst (v := nI 0) hx hb dX2_run_115 (by decide) ?_
          refine q_addN hx hb d (by omega) dX2_run_116 ?_
          refine lv_istore_n (lv' := [(1, .int (nI d)), (2, .int (nI 0)), (3, .int (nI i)), (0, .ref (z.o))]) hx hb dX2_run_117 rfl hl (by decide) rfl (fun ls hl => ?_)
          refine lv_iinc (v := (nI (i + 1))) (lv' := [(3, .int (nI (i + 1))), (1, .int (nI d)), (2, .int (nI 0)), (0, .ref (z.o))]) hx hb dX2_run_118 hl (k := 2) rfl (q_inc i 1 (i + 1) (by omega)) (by decide) rfl (fun ls hl => ?_)
          refine lv_goto (tgt := 37) hx hb dX2_run_121 (by decide) ?_
          refine lv_iload_n hx hb dX2_run_37 rfl (lv_at hl 2 rfl) ?_
          refine lv_if_eq (tgt := 124) hx hb dX2_run_38 (by decide) (fun c13 => ?_) (fun c13 => absurd c13 (by decide))
          refine lv_aload_n hx hb dX2_run_124 rfl (lv_at hl 3 rfl) ?_
          refine va_get (D := D) (ci := 2) (v := .ref (z.eo)) (C := RX2) (T := TX2) (N := 8) hx hb hts hi2 hown hK hP 0 rfl rfl 4 (by decide) hfl29 (fun _ h9 => h9) rfl dX2_run_125 ?_
          refine lv_iconst (v := nI 0) hx hb dX2_run_128 (by decide) ?_
          refine q_pt (D := D) (ci := 0) (v := .int (nI 0)) (ty := .int) (C := RX0) (T := TX0) (N := 6) hx hb hts hi0 tyX0 tyX0_ok nmX0 hown hK hP hD hS (AX_i 20 rfl) 20 rfl rfl 1 (by decide) hfl97 (fun _ h9 => h9) rfl (by decide +kernel) rfl rfl (Nat.le_of_ble_eq_true rfl) (ws' := wX z ((so ol sn)) ((svn sn)) hs fa S Y (updG G (sr ol sn) T) 0 (p_nx ((ch i)) Pa) ch) rfl dX2_run_129 (fun H locs hP hD hS => ?_)
          refine lv_iload_n hx hb dX2_run_132 rfl (lv_at hl 1 rfl) ?_
          refine hret _ _ _ _ _ rfl ?_ (⟨_, hsm2, by rw [← hX2, xr_st hend heo]; exact hP⟩) hS dX2_run_133
          rw [← hX1, xr_st hend heo]
          rfl
        | true =>
          rw [heo] at e11 hP
          have e11 : x11 = nI 1 := e11
          subst e11
          have hP : va_P D vwCl (wX z ((so ol sn)) ((svn sn)) hs (e_do fa ((p_nx ((ch i)) Pa).2.1) ((p_nx ((ch i)) Pa).2.2.1) ((p_nx ((ch i)) Pa).2.2.2)) S Y (updG G (sr ol sn) T) len (p_nx ((ch i)) Pa) ch) H := hP
          have hD := q_D2 (ws' := wX z ((so ol sn)) ((svn sn)) hs (e_do fa ((p_nx ((ch i)) Pa).2.1) ((p_nx ((ch i)) Pa).2.2.1) ((p_nx ((ch i)) Pa).2.2.2)) S Y (updG G (sr ol sn) T) len (p_nx ((ch i)) Pa) ch) hD rfl
          refine lv_istore_n (lv' := [(2, .int (nI 1)), (3, .int (nI i)), (1, .int (nI d)), (0, .ref (z.o))]) hx hb dX2_run_105 rfl hl (by decide) rfl (fun ls hl => ?_)
          refine lv_iload_n hx hb dX2_run_106 rfl (lv_at hl 2 rfl) ?_
          refine lv_iload_n hx hb dX2_run_107 rfl (lv_at hl 0 rfl) ?_
          refine lv_if_eq (tgt := 115) hx hb dX2_run_108 (by decide) (fun c14 => absurd c14 (by decide)) (fun c14 => ?_)
          refine lv_iconst (v := nI 1) hx hb dX2_run_111 (by decide) ?_
          refine lv_goto (tgt := 116) hx hb dX2_run_112 (by decide) ?_
          refine q_addN hx hb (1 + d) (by omega) dX2_run_116 ?_
          refine lv_istore_n (lv' := [(1, .int (nI (1 + d))), (2, .int (nI 1)), (3, .int (nI i)), (0, .ref (z.o))]) hx hb dX2_run_117 rfl hl (by decide) rfl (fun ls hl => ?_)
          refine lv_iinc (v := (nI (i + 1))) (lv' := [(3, .int (nI (i + 1))), (1, .int (nI (1 + d))), (2, .int (nI 1)), (0, .ref (z.o))]) hx hb dX2_run_118 hl (k := 2) rfl (q_inc i 1 (i + 1) (by omega)) (by decide) rfl (fun ls hl => ?_)
          refine lv_goto (tgt := 37) hx hb dX2_run_121 (by decide) ?_
          have hxr := xr_go (n := n) hend heo
          have hI4 : Inv (B + 1600 * (i + 1)) (e_do fa ((p_nx ((ch i)) Pa).2.1) ((p_nx ((ch i)) Pa).2.2.1) ((p_nx ((ch i)) Pa).2.2.2)) := (e_inv hI2 (by omega) hge.1 hge.2.1 hge.2.2 heo).mono (by omega)
          rw [hxr] at hX1 hX2
          have hX1 : d + ((xr ch len n (i + 1) (p_nx ((ch i)) Pa) (e_do fa ((p_nx ((ch i)) Pa).2.1) ((p_nx ((ch i)) Pa).2.2.1) ((p_nx ((ch i)) Pa).2.2.2))).1 + 1) = (xr ch len len 0 (0, (p_fe ch len 0 (0, P.2)).2) T).1 := hX1
          exact ih (i + 1) (e_do fa ((p_nx ((ch i)) Pa).2.1) ((p_nx ((ch i)) Pa).2.2.1) ((p_nx ((ch i)) Pa).2.2.2)) (p_nx ((ch i)) Pa) (1 + d) _ _ _ (by omega) hI4 hg2 hsm2 hw2 hdn2 (by omega) hX2 hP hD hS (lv_sub hl [0, 2, 1, 3] rfl)
  exact LP (len - 0) 0 T (0, (p_fe ch len 0 (0, P.2)).2) 0 _ _ _ (by omega) hI (Or.inl rfl) ⟨Nat.zero_le _, hsm1.2⟩ hcs.1 hcs.2 (Nat.zero_add _) rfl hP hD hS (lv_sub hl [0, 1, 2, 3] rfl)
set_option maxHeartbeats 4000000 in
set_option maxRecDepth 100000 in
theorem m2_run_1 (l : Launch) (hl9 : l.stackTraces = false) (D : va_G) (st : Nat → Nat) (z : Ad) (ol sn hs : Nat) (T S Y : Nat → Int32) (G : Nat → Nat → Int32) (len : Nat) (P : PS) (ch : Nat → Nat) (hS0 : p_sm P) (hch : ∀ j, j < len → ch j < 128) (hlen : len ≤ 60) (hc : p_cpl ch len P = false) (hD : va_D (fun _ => True) (wX z ol sn hs T S Y G len P ch)) : q_Xi l yX2_run wsX2_run { frames := 6, cells := 1, slots := 6, locals := 106 } [.ref (z.o)] st D (wX z ol sn hs T S Y G len P ch) (tyX z) (AX z) xA.cls (wX z ol sn hs T S Y G len (p_fe ch len 0 (0, P.2)) ch) (AX z) := by
  refine q_goX (cc := cX2_run) (maxL := 4) (lv0 := [(0, .ref (z.o))]) (by decide) rfl (Nat.le_of_ble_eq_true rfl) rfl ?_
  intro p e s m args below meth c ls hx hb hml hts hown hP hK hl hT hnt hlk
  have hi0 : ∀ w ∈ wsX00, w ∈ wsX2_run := by decide +kernel
  have hi2 : ∀ w ∈ wsX20, w ∈ wsX2_run := by decide +kernel
  have hfl29 := hts (.fieldLink RX2 29 "WhisperedPots" "errands" "LWhisperedPots$Errands;") (by decide +kernel)
  have hfl97 := hts (.fieldLink RX2 97 "WhisperedPots$Errands" "length" "I") (by decide +kernel)
  have hfl121 := hts (.fieldLink RX2 121 "WhisperedPots$Errands" "signs" "[I") (by decide +kernel)
  have hfl131 := hts (.fieldLink RX2 131 "WhisperedPots$Errands" "letter" "I") (by decide +kernel)
  have hfl134 := hts (.fieldLink RX2 134 "WhisperedPots$Errands" "place" "I") (by decide +kernel)
  have hfl137 := hts (.fieldLink RX2 137 "WhisperedPots$Errands" "tea" "I") (by decide +kernel)
  have hS : va_S (AX z) s.heap s.heap [] := va_S.rf
  refine lv_aload_n hx hb dX2_run_0 rfl (lv_at hl 0 rfl) ?_
  refine va_get (D := D) (ci := 2) (v := .ref (z.eo)) (C := RX2) (T := TX2) (N := 8) hx hb hts hi2 hown hK hP 0 rfl rfl 4 (by decide) hfl29 (fun _ h9 => h9) rfl dX2_run_1 ?_
  refine q_ci1 (i := 20) (ws' := wX z ol sn hs T S Y G len (p_fe ch len 0 (0, P.2)) ch) (va_runV (rm := { frames := 4, cells := 0, slots := 0, locals := 86 }) (As := []) (rest := []) ⟨hx, hb, hml, hown, hts⟩ (m0_areComplete l D z.cI z.eo z.sg len P ch hS0 hch hlen (wX_neE hD)) (cwV 0 hts gX2_run_X0_areComplete rfl rfl rfl (by decide +kernel) ⟨Nat.le_of_ble_eq_true rfl, Nat.le_of_ble_eq_true rfl⟩) (q_pV (ci := 0) (q0 := 0) (hP.sub (ws' := wE z.eo z.sg z.cI len P ch) [20, 21] rfl) (hK.sub [0] rfl) rfl rfl) rfl rfl hl.1 rfl (lv_room (Nat.le_of_ble_eq_true rfl)) dX2_run_4 ⟨Nat.le_of_ble_eq_true rfl, Nat.le_of_ble_eq_true rfl⟩) hP hD hS rfl (AX_i 20 rfl) rfl (fun x1 H locs e1 hP hD hS => ?_)
  have e1 : x1 = p_b (p_cpl ch len P) := e1
  refine lv_if_ne (tgt := 20) hx hb dX2_run_7 (by decide) (fun c2 => absurd c2 (by rw [e1, hc]; decide)) (fun c2 => ?_)
  exact q_thr hx hb hl9 hml hl hts hown xA xA_ok (by decide +kernel) (by decide +kernel) hT hT.c2 (fun _ h => h) (is := 115) (tx := "the buffer is not complete errands") (by decide) hS hP hnt hlk dX2_run_10 dX2_run_13 dX2_run_14 dX2_run_16 dX2_run_19 (Nat.le_of_ble_eq_true rfl) (Nat.le_of_ble_eq_true rfl) (Nat.le_of_ble_eq_true rfl) (Nat.le_of_ble_eq_true rfl) (Nat.le_of_ble_eq_true rfl) (Nat.le_of_ble_eq_true rfl)
