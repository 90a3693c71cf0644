set_option maxHeartbeats 4000000 in
set_option maxRecDepth 100000 in
theorem m1_init (l : Launch) (D : va_G) (cI : ClassId) (a sz : Nat) : q_C l yX1_init wsX1_init { frames := 1, cells := 1, slots := 138, locals := 12 } [.ref a] D [(a, .inr (1, [.null]))] [(cI, .int)] sz (fun u => ∃ r, u = wT a r cI f00) 1 138 := by
  refine q_goC (cc := cX1_init) (maxL := 2) (lv0 := [(0, .ref a)]) (by decide) rfl (Nat.le_of_ble_eq_true rfl) rfl ?_
  intro p e s m args below meth c Q ls A hx hb hml hts hown hP hD hA hK hl hret hin
  have hi1 : ∀ w ∈ wsX10, w ∈ wsX1_init := by decide +kernel
  have hfl11 := hts (.fieldLink RX1 11 "WhisperedPots$Table" "row" "[I") (by decide +kernel)
  have hS : va_S A s.heap s.heap [] := va_S.rf
  refine lv_aload_n hx hb dX1_init_0 rfl (lv_at hl 0 rfl) ?_
  refine W.objInit hx hb hown (hts (.methodLink RX1 5 objectInit) (by decide +kernel)) (hts (.instanceMethod objectInit) (by decide +kernel)) (hts _ (List.mem_cons_of_mem _ (List.mem_append_left _ (List.mem_of_getElem? (i := 2) rfl)))) rfl (by rw [hml]; exact hl.1) rfl dX1_init_1 (Nat.le_of_ble_eq_true rfl) (Nat.le_of_ble_eq_true rfl) ?_
  refine W.eq (g2 := F0 m 4 ls []) rfl ?_
  refine lv_aload_n hx hb dX1_init_4 rfl (lv_at hl 0 rfl) ?_
  refine lv_sipush (v := nI 138) hx hb dX1_init_5 (by decide) ?_
  refine q_newa hx hb (hts (.arrayClass .int) (by decide +kernel)) hK 0 rfl hP hD hS hA (nI_pos (Nat.le_of_ble_eq_true rfl)) (nI_clamp (Nat.le_of_ble_eq_true rfl)) (Nat.le_of_ble_eq_true rfl) (Nat.le_of_ble_eq_true rfl) (Nat.le_of_ble_eq_true rfl) dX1_init_8 (fun r H hP hD hS => ?_)
  refine va_putF (D := D) (ci := 1) (v := .ref r) (ty := .array .int) (C := RX1) (T := TX1) (N := 1) hx hb hts hi1 tyX1 tyX1_ok nmX1 hown hK hP hD hS 0 rfl rfl 0 (by decide) hfl11 (fun _ h9 => h9) rfl hin rfl (by decide +kernel) rfl rfl (Nat.le_of_ble_eq_true rfl) dX1_init_10 (fun H locs hP hD hS => ?_)
  have hP : va_P D vwCl (wT a r cI z0) H := hP
  have hD : va_D A (wT a r cI z0) := hD
  have hAr : A r := hD.2 1 _ rfl
  refine lv_iconst (v := nI 0) hx hb dX1_init_13 (by decide) ?_
  refine lv_istore_n (lv' := [(1, .int (nI 0)), (0, .ref a)]) hx hb dX1_init_14 rfl hl (by decide) rfl (fun ls hl => ?_)
  have LA : ∀ (n i : Nat)  (H : Heap) (locs : List Loc) (ls : Array Slot), i + n = 8 → va_P D vwCl (wT a r cI (i1 z0 i)) H → va_D A (wT a r cI (i1 z0 i)) → va_S (A) s.heap H locs → lv_has ls 2 [(1, .int (nI i)), (0, .ref a)] → W p l e { frames := 1, cells := 1, slots := 138, locals := 12 } s m args below meth c H locs (0 + 1) (0 + 138) Q (F0 m 15 ls []) := by
    intro n
    induction n with
    | zero =>
      intro i  H locs ls hi  hP hD hS hl
      obtain rfl : 8 = i := by omega
      refine lv_iload_n hx hb dX1_init_15 rfl (lv_at hl 0 rfl) ?_
      refine lv_bipush (v := nI 8) hx hb dX1_init_16 (by decide) ?_
      refine q_geN (tgt := 57) hx hb (by omega) (by omega) dX1_init_18 (by decide) (fun c1 => ?_) (fun c1 => absurd c1 (by decide))
      refine lv_iconst (v := nI 0) hx hb dX1_init_57 (by decide) ?_
      refine lv_istore_n (lv' := [(1, .int (nI 0)), (0, .ref a)]) hx hb dX1_init_58 rfl hl (by decide) rfl (fun ls hl => ?_)
      have LB : ∀ (n i : Nat)  (H : Heap) (locs : List Loc) (ls : Array Slot), i + n = 3 → va_P D vwCl (wT a r cI (i2 (i1 z0 8) i)) H → va_D A (wT a r cI (i2 (i1 z0 8) i)) → va_S (A) s.heap H locs → lv_has ls 2 [(1, .int (nI i)), (0, .ref a)] → W p l e { frames := 1, cells := 1, slots := 138, locals := 12 } s m args below meth c H locs (0 + 1) (0 + 138) Q (F0 m 59 ls []) := by
        intro n
        induction n with
        | zero =>
          intro i  H locs ls hi  hP hD hS hl
          obtain rfl : 3 = i := by omega
          refine lv_iload_n hx hb dX1_init_59 rfl (lv_at hl 0 rfl) ?_
          refine lv_iconst (v := nI 3) hx hb dX1_init_60 (by decide) ?_
          refine q_geN (tgt := 82) hx hb (by omega) (by omega) dX1_init_61 (by decide) (fun c2 => ?_) (fun c2 => absurd c2 (by decide))
          refine lv_iconst (v := nI 0) hx hb dX1_init_82 (by decide) ?_
          refine lv_istore_n (lv' := [(1, .int (nI 0)), (0, .ref a)]) hx hb dX1_init_83 rfl hl (by decide) rfl (fun ls hl => ?_)
          have LC : ∀ (n i : Nat)  (H : Heap) (locs : List Loc) (ls : Array Slot), i + n = 24 → va_P D vwCl (wT a r cI (i3 (i2 (i1 z0 8) 3) i)) H → va_D A (wT a r cI (i3 (i2 (i1 z0 8) 3) i)) → va_S (A) s.heap H locs → lv_has ls 2 [(1, .int (nI i)), (0, .ref a)] → W p l e { frames := 1, cells := 1, slots := 138, locals := 12 } s m args below meth c H locs (0 + 1) (0 + 138) Q (F0 m 84 ls []) := by
            intro n
            induction n with
            | zero =>
              intro i  H locs ls hi  hP hD hS hl
              obtain rfl : 24 = i := by omega
              refine lv_iload_n hx hb dX1_init_84 rfl (lv_at hl 0 rfl) ?_
              refine lv_bipush (v := nI 24) hx hb dX1_init_85 (by decide) ?_
              refine q_geN (tgt := 106) hx hb (by omega) (by omega) dX1_init_87 (by decide) (fun c3 => ?_) (fun c3 => absurd c3 (by decide))
              exact hret _ _ _ _ _ ⟨r, rfl⟩ hP hD hS dX1_init_106
            | succ n ih =>
              intro i  H locs ls hi  hP hD hS hl
              refine lv_iload_n hx hb dX1_init_84 rfl (lv_at hl 0 rfl) ?_
              refine lv_bipush (v := nI 24) hx hb dX1_init_85 (by decide) ?_
              refine q_geN (tgt := 106) hx hb (by omega) (by omega) dX1_init_87 (by decide) (fun c4 => absurd c4 (by omega)) (fun c4 => ?_)
              refine lv_aload_n hx hb dX1_init_90 rfl (lv_at hl 1 rfl) ?_
              refine va_get (D := D) (ci := 1) (v := .ref r) (C := RX1) (T := TX1) (N := 1) hx hb hts hi1 hown hK hP 0 rfl rfl 0 (by decide) hfl11 (fun _ h9 => h9) rfl dX1_init_91 ?_
              refine lv_bipush (v := nI 87) hx hb dX1_init_94 (by decide) ?_
              refine lv_iload_n hx hb dX1_init_96 rfl (lv_at hl 0 rfl) ?_
              refine q_addN hx hb (87 + i) (by omega) dX1_init_97 ?_
              refine lv_iconst (v := (-1)) hx hb dX1_init_98 (by decide) ?_
              refine q_st hx hb hK hP hD hS 1 0 rfl rfl hAr (j := (87 + i)) (by omega) (by omega) (fun g => wT a r cI g) (fun _ => rfl) dX1_init_99 (fun H locs f5 hf5 hP hD hS => ?_)
              refine lv_iinc (v := (nI (i + 1))) (lv' := [(1, .int (nI (i + 1))), (0, .ref a)]) hx hb dX1_init_100 hl (k := 0) rfl (q_inc i 1 (i + 1) (by omega)) (by decide) rfl (fun ls hl => ?_)
              refine lv_goto (tgt := 84) hx hb dX1_init_103 (by decide) ?_
              have hw : f5 = (i3 (i2 (i1 z0 8) 3) (i + 1)) := by rw [hf5]; rfl
              rw [hw] at hP hD
              exact ih (i + 1) _ _ _ (by omega) hP hD hS (lv_sub hl [0, 1] rfl)
          exact LC 24 0  _ _ _ (by omega)  hP hD hS (lv_sub hl [0, 1] rfl)
        | succ n ih =>
          intro i  H locs ls hi  hP hD hS hl
          refine lv_iload_n hx hb dX1_init_59 rfl (lv_at hl 0 rfl) ?_
          refine lv_iconst (v := nI 3) hx hb dX1_init_60 (by decide) ?_
          refine q_geN (tgt := 82) hx hb (by omega) (by omega) dX1_init_61 (by decide) (fun c6 => absurd c6 (by omega)) (fun c6 => ?_)
          refine lv_aload_n hx hb dX1_init_64 rfl (lv_at hl 1 rfl) ?_
          refine va_get (D := D) (ci := 1) (v := .ref r) (C := RX1) (T := TX1) (N := 1) hx hb hts hi1 hown hK hP 0 rfl rfl 0 (by decide) hfl11 (fun _ h9 => h9) rfl dX1_init_65 ?_
          refine lv_bipush (v := nI 72) hx hb dX1_init_68 (by decide) ?_
          refine lv_iload_n hx hb dX1_init_70 rfl (lv_at hl 0 rfl) ?_
          refine q_addN hx hb (72 + i) (by omega) dX1_init_71 ?_
          refine lv_iconst (v := nI 2) hx hb dX1_init_72 (by decide) ?_
          refine lv_iload_n hx hb dX1_init_73 rfl (lv_at hl 0 rfl) ?_
          refine q_mulN hx hb (2 * i) (by omega) dX1_init_74 ?_
          refine q_st hx hb hK hP hD hS 1 0 rfl rfl hAr (j := (72 + i)) (by omega) (by omega) (fun g => wT a r cI g) (fun _ => rfl) dX1_init_75 (fun H locs f7 hf7 hP hD hS => ?_)
          refine lv_iinc (v := (nI (i + 1))) (lv' := [(1, .int (nI (i + 1))), (0, .ref a)]) hx hb dX1_init_76 hl (k := 0) rfl (q_inc i 1 (i + 1) (by omega)) (by decide) rfl (fun ls hl => ?_)
          refine lv_goto (tgt := 59) hx hb dX1_init_79 (by decide) ?_
          have hw : f7 = (i2 (i1 z0 8) (i + 1)) := by rw [hf7]; rfl
          rw [hw] at hP hD
          exact ih (i + 1) _ _ _ (by omega) hP hD hS (lv_sub hl [0, 1] rfl)
      exact LB 3 0  _ _ _ (by omega)  hP hD hS (lv_sub hl [0, 1] rfl)
    | succ n ih =>
      intro i  H locs ls hi  hP hD hS hl
      refine lv_iload_n hx hb dX1_init_15 rfl (lv_at hl 0 rfl) ?_
      refine lv_bipush (v := nI 8) hx hb dX1_init_16 (by decide) ?_
      refine q_geN (tgt := 57) hx hb (by omega) (by omega) dX1_init_18 (by decide) (fun c8 => absurd c8 (by omega)) (fun c8 => ?_)
      refine lv_aload_n hx hb dX1_init_21 rfl (lv_at hl 1 rfl) ?_
      refine va_get (D := D) (ci := 1) (v := .ref r) (C := RX1) (T := TX1) (N := 1) hx hb hts hi1 hown hK hP 0 rfl rfl 0 (by decide) hfl11 (fun _ h9 => h9) rfl dX1_init_22 ?_
      refine lv_iconst (v := nI 0) hx hb dX1_init_25 (by decide) ?_
      refine lv_iload_n hx hb dX1_init_26 rfl (lv_at hl 0 rfl) ?_
      refine q_addN hx hb i (by omega) dX1_init_27 ?_
      refine lv_bipush (v := nI 30) hx hb dX1_init_28 (by decide) ?_
      refine q_st hx hb hK hP hD hS 1 0 rfl rfl hAr (j := i) (by omega) (by omega) (fun g => wT a r cI g) (fun _ => rfl) dX1_init_30 (fun H locs f9 hf9 hP hD hS => ?_)
      refine lv_aload_n hx hb dX1_init_31 rfl (lv_at hl 1 rfl) ?_
      refine va_get (D := D) (ci := 1) (v := .ref r) (C := RX1) (T := TX1) (N := 1) hx hb hts hi1 hown hK hP 0 rfl rfl 0 (by decide) hfl11 (fun _ h9 => h9) rfl dX1_init_32 ?_
      refine lv_bipush (v := nI 16) hx hb dX1_init_35 (by decide) ?_
      refine lv_iload_n hx hb dX1_init_37 rfl (lv_at hl 0 rfl) ?_
      refine q_addN hx hb (16 + i) (by omega) dX1_init_38 ?_
      refine lv_iconst (v := nI 5) hx hb dX1_init_39 (by decide) ?_
      refine q_st hx hb hK hP hD hS 1 0 rfl rfl hAr (j := (16 + i)) (by omega) (by omega) (fun g => wT a r cI g) (fun _ => rfl) dX1_init_40 (fun H locs f10 hf10 hP hD hS => ?_)
      refine lv_aload_n hx hb dX1_init_41 rfl (lv_at hl 1 rfl) ?_
      refine va_get (D := D) (ci := 1) (v := .ref r) (C := RX1) (T := TX1) (N := 1) hx hb hts hi1 hown hK hP 0 rfl rfl 0 (by decide) hfl11 (fun _ h9 => h9) rfl dX1_init_42 ?_
      refine lv_bipush (v := nI 24) hx hb dX1_init_45 (by decide) ?_
      refine lv_iload_n hx hb dX1_init_47 rfl (lv_at hl 0 rfl) ?_
      refine q_addN hx hb (24 + i) (by omega) dX1_init_48 ?_
      refine lv_iconst (v := nI 5) hx hb dX1_init_49 (by decide) ?_
      refine q_st hx hb hK hP hD hS 1 0 rfl rfl hAr (j := (24 + i)) (by omega) (by omega) (fun g => wT a r cI g) (fun _ => rfl) dX1_init_50 (fun H locs f11 hf11 hP hD hS => ?_)
      refine lv_iinc (v := (nI (i + 1))) (lv' := [(1, .int (nI (i + 1))), (0, .ref a)]) hx hb dX1_init_51 hl (k := 0) rfl (q_inc i 1 (i + 1) (by omega)) (by decide) rfl (fun ls hl => ?_)
      refine lv_goto (tgt := 15) hx hb dX1_init_54 (by decide) ?_
      have hw : f11 = (i1 z0 (i + 1)) := by rw [hf11, hf10, hf9]; rfl
      rw [hw] at hP hD
      exact ih (i + 1) _ _ _ (by omega) hP hD hS (lv_sub hl [0, 1] rfl)
  exact LA 8 0  _ _ _ (by omega)  hP hD hS (lv_sub hl [0, 1] rfl)

