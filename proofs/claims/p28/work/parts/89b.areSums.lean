set_option maxHeartbeats 8000000 in
set_option maxRecDepth 100000 in
theorem L_areSums (l : Launch) (D : va_G) (z : Ad) (cI cS : ClassId) (ez : tyX z = [(cI, .int), (cS, .object RX1)]) (sn : Nat) (T : Nat → Int32) (B : Nat) (hJ : Jv B T) (hB8 : 8 * B < 2147483648) : k_L l yL_areSums wsL_areSums { frames := 4, cells := 0, slots := 0, locals := 86 } [.ref z.o] D cI cS (OS z D sn T) (nI 1) (fun _ => True) (fun _ => False) := by
  refine k_goL (cc := cL_areSums) (maxL := 16) (ty := .boolean) (lv0 := [(0, .ref z.o)]) (by decide) rfl (Nat.le_of_ble_eq_true rfl) rfl (by first | rfl | decide) ?_
  intro p e s m args below meth c Q ls hx hb hml hts hown hC hK hl hret
  obtain ⟨ol, S, Y, G, P, ch, hol, hP⟩ := hC
  rw [← ez] at hK
  obtain ⟨hI, hj1, hj2, hj3, hj4, hj5, hj6, hj7, hj8, hj9⟩ := hJ
  have hc24 := cnt_le T 24
  have hS : va_S (fun _ => False) s.heap s.heap [] := va_S.rf
  refine lv_iconst (v := nI 0) hx hb dL_areSums_0 (by decide) ?_
  refine lv_istore_n (lv' := [(1, .int (nI 0)), (0, .ref (z.o))]) hx hb dL_areSums_1 rfl hl (by decide) rfl (fun ls hl => ?_)
  refine lv_iconst (v := nI 0) hx hb dL_areSums_2 (by decide) ?_
  refine lv_istore_n (lv' := [(2, .int (nI 0)), (1, .int (nI 0)), (0, .ref (z.o))]) hx hb dL_areSums_3 rfl hl (by decide) rfl (fun ls hl => ?_)
  refine lv_iconst (v := nI 0) hx hb dL_areSums_4 (by decide) ?_
  refine lv_istore_n (lv' := [(3, .int (nI 0)), (2, .int (nI 0)), (1, .int (nI 0)), (0, .ref (z.o))]) hx hb dL_areSums_5 rfl hl (by decide) rfl (fun ls hl => ?_)
  refine lv_iconst (v := nI 0) hx hb dL_areSums_6 (by decide) ?_
  refine lv_istore (lv' := [(4, .int (nI 0)), (3, .int (nI 0)), (2, .int (nI 0)), (1, .int (nI 0)), (0, .ref (z.o))]) hx hb dL_areSums_7 hl (by decide) rfl (fun ls hl => ?_)
  refine lv_iconst (v := nI 0) hx hb dL_areSums_9 (by decide) ?_
  refine lv_istore (lv' := [(5, .int (nI 0)), (4, .int (nI 0)), (3, .int (nI 0)), (2, .int (nI 0)), (1, .int (nI 0)), (0, .ref (z.o))]) hx hb dL_areSums_10 hl (by decide) rfl (fun ls hl => ?_)
  refine lv_iconst (v := nI 0) hx hb dL_areSums_12 (by decide) ?_
  refine lv_istore (lv' := [(6, .int (nI 0)), (5, .int (nI 0)), (4, .int (nI 0)), (3, .int (nI 0)), (2, .int (nI 0)), (1, .int (nI 0)), (0, .ref (z.o))]) hx hb dL_areSums_13 hl (by decide) rfl (fun ls hl => ?_)
  refine lv_iconst (v := nI 0) hx hb dL_areSums_15 (by decide) ?_
  refine lv_istore (lv' := [(7, .int (nI 0)), (6, .int (nI 0)), (5, .int (nI 0)), (4, .int (nI 0)), (3, .int (nI 0)), (2, .int (nI 0)), (1, .int (nI 0)), (0, .ref (z.o))]) hx hb dL_areSums_16 hl (by decide) rfl (fun ls hl => ?_)
  refine lv_iconst (v := nI 0) hx hb dL_areSums_18 (by decide) ?_
  refine lv_istore (lv' := [(8, .int (nI 0)), (7, .int (nI 0)), (6, .int (nI 0)), (5, .int (nI 0)), (4, .int (nI 0)), (3, .int (nI 0)), (2, .int (nI 0)), (1, .int (nI 0)), (0, .ref (z.o))]) hx hb dL_areSums_19 hl (by decide) rfl (fun ls hl => ?_)
  refine lv_iconst (v := nI 0) hx hb dL_areSums_21 (by decide) ?_
  refine lv_istore (lv' := [(9, .int (nI 0)), (8, .int (nI 0)), (7, .int (nI 0)), (6, .int (nI 0)), (5, .int (nI 0)), (4, .int (nI 0)), (3, .int (nI 0)), (2, .int (nI 0)), (1, .int (nI 0)), (0, .ref (z.o))]) hx hb dL_areSums_22 hl (by decide) rfl (fun ls hl => ?_)
  refine lv_iconst (v := nI 0) hx hb dL_areSums_24 (by decide) ?_
  refine lv_istore (lv' := [(10, .int (nI 0)), (9, .int (nI 0)), (8, .int (nI 0)), (7, .int (nI 0)), (6, .int (nI 0)), (5, .int (nI 0)), (4, .int (nI 0)), (3, .int (nI 0)), (2, .int (nI 0)), (1, .int (nI 0)), (0, .ref (z.o))]) hx hb dL_areSums_25 hl (by decide) rfl (fun ls hl => ?_)
  refine lv_iconst (v := nI 0) hx hb dL_areSums_27 (by decide) ?_
  refine lv_istore (lv' := [(11, .int (nI 0)), (10, .int (nI 0)), (9, .int (nI 0)), (8, .int (nI 0)), (7, .int (nI 0)), (6, .int (nI 0)), (5, .int (nI 0)), (4, .int (nI 0)), (3, .int (nI 0)), (2, .int (nI 0)), (1, .int (nI 0)), (0, .ref (z.o))]) hx hb dL_areSums_28 hl (by decide) rfl (fun ls hl => ?_)
  refine lv_iconst (v := nI 1) hx hb dL_areSums_30 (by decide) ?_
  refine lv_istore (lv' := [(12, .int (nI 1)), (11, .int (nI 0)), (10, .int (nI 0)), (9, .int (nI 0)), (8, .int (nI 0)), (7, .int (nI 0)), (6, .int (nI 0)), (5, .int (nI 0)), (4, .int (nI 0)), (3, .int (nI 0)), (2, .int (nI 0)), (1, .int (nI 0)), (0, .ref (z.o))]) hx hb dL_areSums_31 hl (by decide) rfl (fun ls hl => ?_)
  refine lv_iconst (v := nI 0) hx hb dL_areSums_33 (by decide) ?_
  refine lv_istore (lv' := [(13, .int (nI 0)), (12, .int (nI 1)), (11, .int (nI 0)), (10, .int (nI 0)), (9, .int (nI 0)), (8, .int (nI 0)), (7, .int (nI 0)), (6, .int (nI 0)), (5, .int (nI 0)), (4, .int (nI 0)), (3, .int (nI 0)), (2, .int (nI 0)), (1, .int (nI 0)), (0, .ref (z.o))]) hx hb dL_areSums_34 hl (by decide) rfl (fun ls hl => ?_)
  have LA : ∀ (n i : Nat) (H : Heap) (locs : List Loc) (ls : Array Slot), i + n = 3 → va_P D vwCl (wX z ol sn 0 T S Y G 0 P ch) H → va_S (fun _ => False) s.heap H locs → lv_has ls 16 [(13, .int (nI i)), (1, .int (g_sm T 81 i)), (2, .int (g_sm T 84 i)), (3, .int (g_sm T 75 i)), (4, .int (nI 0)), (5, .int (nI 0)), (6, .int (nI 0)), (7, .int (nI 0)), (8, .int (nI 0)), (9, .int (nI 0)), (10, .int (nI (cnt T (8 * i)))), (11, .int (nI 0)), (12, .int (nI 1)), (0, .ref (z.o))] → W p l e { frames := 4, cells := 0, slots := 0, locals := 86 } s m args below meth c H locs 0 0 Q (F0 m 36 ls []) := by
    intro n
    induction n with
    | zero =>
      intro i H locs ls hi hP hS hl
      obtain rfl : i = 3 := by omega
      refine lv_iload hx hb dL_areSums_36 (lv_at hl 0 rfl) ?_
      refine lv_iconst (v := nI 3) hx hb dL_areSums_38 (by decide) ?_
      refine q_geN (tgt := 291) hx hb (by omega) (by omega) dL_areSums_39 (by decide) (fun c1 => ?_) (fun c1 => absurd c1 (by omega))
      refine lv_iconst (v := nI 0) hx hb dL_areSums_291 (by decide) ?_
      refine lv_istore (lv' := [(13, .int (nI 0)), (1, .int (g_sm T 81 3)), (2, .int (g_sm T 84 3)), (3, .int (g_sm T 75 3)), (4, .int (nI 0)), (5, .int (nI 0)), (6, .int (nI 0)), (7, .int (nI 0)), (8, .int (nI 0)), (9, .int (nI 0)), (10, .int (nI (cnt T (8 * 3)))), (11, .int (nI 0)), (12, .int (nI 1)), (0, .ref (z.o))]) hx hb dL_areSums_292 hl (by decide) rfl (fun ls hl => ?_)
      have LC : ∀ (n i : Nat) (H : Heap) (locs : List Loc) (ls : Array Slot), i + n = 8 → va_P D vwCl (wX z ol sn 0 T S Y G 0 P ch) H → va_S (fun _ => False) s.heap H locs → lv_has ls 16 [(13, .int (nI i)), (4, .int (g_sm T 8 i)), (8, .int (g_sm T 40 i)), (5, .int (g_sm T 48 i)), (6, .int (g_sm T 56 i)), (7, .int (g_sm T 64 i)), (9, .int (g_sm T 24 i)), (1, .int (g_sm T 81 3)), (2, .int (g_sm T 84 3)), (3, .int (g_sm T 75 3)), (10, .int (nI (cnt T 24))), (11, .int (nI 0)), (12, .int (nI 1)), (0, .ref (z.o))] → W p l e { frames := 4, cells := 0, slots := 0, locals := 86 } s m args below meth c H locs 0 0 Q (F0 m 294 ls []) := by
        intro n
        induction n with
        | zero =>
          intro i H locs ls hi hP hS hl
          obtain rfl : i = 8 := by omega
          refine lv_iload hx hb dL_areSums_294 (lv_at hl 0 rfl) ?_
          refine lv_bipush (v := nI 8) hx hb dL_areSums_296 (by decide) ?_
          refine q_geN (tgt := 497) hx hb (by omega) (by omega) dL_areSums_298 (by decide) (fun c2 => ?_) (fun c2 => absurd c2 (by omega))
          refine lv_iconst (v := nI 0) hx hb dL_areSums_497 (by decide) ?_
          refine lv_istore (lv' := [(13, .int (nI 0)), (4, .int (g_sm T 8 8)), (8, .int (g_sm T 40 8)), (5, .int (g_sm T 48 8)), (6, .int (g_sm T 56 8)), (7, .int (g_sm T 64 8)), (9, .int (g_sm T 24 8)), (1, .int (g_sm T 81 3)), (2, .int (g_sm T 84 3)), (3, .int (g_sm T 75 3)), (10, .int (nI (cnt T 24))), (11, .int (nI 0)), (12, .int (nI 1)), (0, .ref (z.o))]) hx hb dL_areSums_498 hl (by decide) rfl (fun ls hl => ?_)
          have LD : ∀ (n i : Nat) (H : Heap) (locs : List Loc) (ls : Array Slot), i + n = (cnt T 24) → va_P D vwCl (wX z ol sn 0 T S Y G 0 P ch) H → va_S (fun _ => False) s.heap H locs → lv_has ls 16 [(13, .int (nI i)), (11, .int (g_se T i)), (12, .int (nI 1)), (1, .int (g_sm T 81 3)), (2, .int (g_sm T 84 3)), (3, .int (g_sm T 75 3)), (4, .int (g_sm T 8 8)), (5, .int (g_sm T 48 8)), (6, .int (g_sm T 56 8)), (7, .int (g_sm T 64 8)), (8, .int (g_sm T 40 8)), (9, .int (g_sm T 24 8)), (10, .int (nI ((cnt T 24)))), (0, .ref (z.o))] → W p l e { frames := 4, cells := 0, slots := 0, locals := 86 } s m args below meth c H locs 0 0 Q (F0 m 500 ls []) := by
            intro n
            induction n with
            | zero =>
              intro i H locs ls hi hP hS hl
              obtain rfl : i = (cnt T 24) := by omega
              refine lv_iload hx hb dL_areSums_500 (lv_at hl 0 rfl) ?_
              refine lv_iload hx hb dL_areSums_502 (lv_at hl 12 rfl) ?_
              refine q_geN (tgt := 608) hx hb (by omega) (by omega) dL_areSums_504 (by decide) (fun c3 => ?_) (fun c3 => absurd c3 (by omega))
              refine lv_iload hx hb dL_areSums_608 (lv_at hl 9 rfl) ?_
              refine lv_if_ne (tgt := 617) hx hb dL_areSums_610 (by decide) (fun c4 => ?_) (fun c4 => ?_)
              ·
                refine lv_iload hx hb dL_areSums_617 (lv_at hl 8 rfl) ?_
                refine lv_i2d hx hb dL_areSums_619 ?_
                refine lv_dconst1 hx hb dL_areSums_620 ?_
                refine lv_dmul hx hb dL_areSums_621 (mul_1n _) ?_
                refine lv_iload hx hb dL_areSums_622 (lv_at hl 9 rfl) ?_
                refine lv_i2d hx hb dL_areSums_624 ?_
                refine lv_ddiv hx hb dL_areSums_625 (by rw [mul_1]; exact hI.share_n hB8 c4) ?_
                refine lv_dstore (lv' := [(13, .double (FP.ddiv (FP.dmul (FP.i2d (g_sm T 56 8)) FP.dconst1) (FP.i2d (g_sm T 64 8)))), (11, .int (g_se T ((cnt T 24)))), (12, .int (nI 1)), (1, .int (g_sm T 81 3)), (2, .int (g_sm T 84 3)), (3, .int (g_sm T 75 3)), (4, .int (g_sm T 8 8)), (5, .int (g_sm T 48 8)), (6, .int (g_sm T 56 8)), (7, .int (g_sm T 64 8)), (8, .int (g_sm T 40 8)), (9, .int (g_sm T 24 8)), (10, .int (nI ((cnt T 24)))), (0, .ref (z.o))]) hx hb dL_areSums_626 hl (by decide) rfl (fun ls hl => ?_)
                refine lv_iload hx hb dL_areSums_628 (lv_at hl 2 rfl) ?_
                refine lv_if_eq (tgt := 780) hx hb dL_areSums_630 (by decide) (fun c5 => absurd c5 (by decide)) (fun c5 => ?_)
                refine lv_aload_n hx hb dL_areSums_633 rfl (lv_at hl 13 rfl) ?_
                refine lv_iload hx hb dL_areSums_634 (lv_at hl 12 rfl) ?_
                refine lv_iconst (v := nI 0) hx hb dL_areSums_636 (by decide) ?_
                refine q_ciK (BH := fun _ => True) (va_runV (rm := { frames := 1, cells := 0, slots := 0, locals := 22 }) (As := [.int (nI ((cnt T 24))), .int (nI 0)]) (rest := []) ⟨hx, hb, hml, hown, hts⟩ (m2_tale_no0 l D z ol sn 0 T S Y G 0 P ch B hI (nI ((cnt T 24))) (nI_pos (by omega)) (by rw [hI.tale.2]; exact Int32.lt_irrefl)) (cwV 2 hts gL_areSums_X2_tale rfl rfl rfl (by decide +kernel) ⟨Nat.le_of_ble_eq_true rfl, Nat.le_of_ble_eq_true rfl⟩) (q_pV (ci := 2) (q0 := 0) hP hK rfl rfl) rfl rfl hl.1 rfl (lv_room (Nat.le_of_ble_eq_true rfl)) dL_areSums_637 ⟨Nat.le_of_ble_eq_true rfl, Nat.le_of_ble_eq_true rfl⟩) (fun t h => trivial) hS (fun q h => h.elim) (fun x6 H locs e6 _ hk hS => ?_)
                have hP := k_kp hP hk
                have e6 : x6 = (-1) := e6
                subst e6
                refine lv_iconst (v := (-1)) hx hb dL_areSums_640 (by decide) ?_
                refine lv_icmp_ne (tgt := 780) hx hb dL_areSums_641 (by decide) (fun c7 => absurd c7 (fun z => z rfl)) (fun c7 => ?_)
                refine lv_iload hx hb dL_areSums_644 (lv_at hl 12 rfl) ?_
                refine lv_aload_n hx hb dL_areSums_646 rfl (lv_at hl 13 rfl) ?_
                refine lv_bipush (v := nI 8) hx hb dL_areSums_647 (by decide) ?_
                refine q_ciK (BH := fun _ => True) (va_runV (rm := { frames := 3, cells := 0, slots := 0, locals := 65 }) (As := [.int (nI 8)]) (rest := [.int (nI ((cnt T 24)))]) ⟨hx, hb, hml, hown, hts⟩ (m2_count_ok l D z ol sn 0 T S Y G 0 P ch 8 (by omega)) (cwV 1 hts gL_areSums_X2_count rfl rfl rfl (by decide +kernel) ⟨Nat.le_of_ble_eq_true rfl, Nat.le_of_ble_eq_true rfl⟩) (q_pV (ci := 2) (q0 := 0) hP hK rfl rfl) rfl rfl hl.1 rfl (lv_room (Nat.le_of_ble_eq_true rfl)) dL_areSums_649 ⟨Nat.le_of_ble_eq_true rfl, Nat.le_of_ble_eq_true rfl⟩) (fun t h => trivial) hS (fun q h => h.elim) (fun x8 H locs e8 _ hk hS => ?_)
                have hP := k_kp hP hk
                have e8 : x8 = (T 135) := e8
                subst e8
                refine lv_icmp_ne (tgt := 780) hx hb dL_areSums_652 (by decide) (fun c9 => absurd c9 (fun z => z (by rw [hI.tale.1, hI.tale.2]))) (fun c9 => ?_)
                refine lv_iload_n hx hb dL_areSums_655 rfl (lv_at hl 3 rfl) ?_
                refine lv_aload_n hx hb dL_areSums_656 rfl (lv_at hl 13 rfl) ?_
                refine lv_iconst (v := nI 0) hx hb dL_areSums_657 (by decide) ?_
                refine q_ciK (BH := fun _ => True) (va_runV (rm := { frames := 3, cells := 0, slots := 0, locals := 65 }) (As := [.int (nI 0)]) (rest := [.int (g_sm T 81 3)]) ⟨hx, hb, hml, hown, hts⟩ (m2_count_ok l D z ol sn 0 T S Y G 0 P ch 0 (by omega)) (cwV 1 hts gL_areSums_X2_count rfl rfl rfl (by decide +kernel) ⟨Nat.le_of_ble_eq_true rfl, Nat.le_of_ble_eq_true rfl⟩) (q_pV (ci := 2) (q0 := 0) hP hK rfl rfl) rfl rfl hl.1 rfl (lv_room (Nat.le_of_ble_eq_true rfl)) dL_areSums_658 ⟨Nat.le_of_ble_eq_true rfl, Nat.le_of_ble_eq_true rfl⟩) (fun t h => trivial) hS (fun q h => h.elim) (fun x10 H locs e10 _ hk hS => ?_)
                have hP := k_kp hP hk
                have e10 : x10 = (g_sm T 81 3) := e10
                subst e10
                refine lv_icmp_ne (tgt := 780) hx hb dL_areSums_661 (by decide) (fun c11 => absurd c11 (fun z => z rfl)) (fun c11 => ?_)
                refine lv_iload hx hb dL_areSums_664 (lv_at hl 7 rfl) ?_
                refine lv_aload_n hx hb dL_areSums_666 rfl (lv_at hl 13 rfl) ?_
                refine lv_iconst (v := nI 1) hx hb dL_areSums_667 (by decide) ?_
                refine q_ciK (BH := fun _ => True) (va_runV (rm := { frames := 3, cells := 0, slots := 0, locals := 65 }) (As := [.int (nI 1)]) (rest := [.int (g_sm T 48 8)]) ⟨hx, hb, hml, hown, hts⟩ (m2_count_ok l D z ol sn 0 T S Y G 0 P ch 1 (by omega)) (cwV 1 hts gL_areSums_X2_count rfl rfl rfl (by decide +kernel) ⟨Nat.le_of_ble_eq_true rfl, Nat.le_of_ble_eq_true rfl⟩) (q_pV (ci := 2) (q0 := 0) hP hK rfl rfl) rfl rfl hl.1 rfl (lv_room (Nat.le_of_ble_eq_true rfl)) dL_areSums_668 ⟨Nat.le_of_ble_eq_true rfl, Nat.le_of_ble_eq_true rfl⟩) (fun t h => trivial) hS (fun q h => h.elim) (fun x12 H locs e12 _ hk hS => ?_)
                have hP := k_kp hP hk
                have e12 : x12 = (g_sm T 48 8) := e12
                subst e12
                refine lv_icmp_ne (tgt := 780) hx hb dL_areSums_671 (by decide) (fun c13 => absurd c13 (fun z => z rfl)) (fun c13 => ?_)
                refine lv_iload hx hb dL_areSums_674 (lv_at hl 8 rfl) ?_
                refine lv_aload_n hx hb dL_areSums_676 rfl (lv_at hl 13 rfl) ?_
                refine lv_iconst (v := nI 2) hx hb dL_areSums_677 (by decide) ?_
                refine q_ciK (BH := fun _ => True) (va_runV (rm := { frames := 3, cells := 0, slots := 0, locals := 65 }) (As := [.int (nI 2)]) (rest := [.int (g_sm T 56 8)]) ⟨hx, hb, hml, hown, hts⟩ (m2_count_ok l D z ol sn 0 T S Y G 0 P ch 2 (by omega)) (cwV 1 hts gL_areSums_X2_count rfl rfl rfl (by decide +kernel) ⟨Nat.le_of_ble_eq_true rfl, Nat.le_of_ble_eq_true rfl⟩) (q_pV (ci := 2) (q0 := 0) hP hK rfl rfl) rfl rfl hl.1 rfl (lv_room (Nat.le_of_ble_eq_true rfl)) dL_areSums_678 ⟨Nat.le_of_ble_eq_true rfl, Nat.le_of_ble_eq_true rfl⟩) (fun t h => trivial) hS (fun q h => h.elim) (fun x14 H locs e14 _ hk hS => ?_)
                have hP := k_kp hP hk
                have e14 : x14 = (g_sm T 56 8) := e14
                subst e14
                refine lv_icmp_ne (tgt := 780) hx hb dL_areSums_681 (by decide) (fun c15 => absurd c15 (fun z => z rfl)) (fun c15 => ?_)
                refine lv_iload_n hx hb dL_areSums_684 rfl (lv_at hl 5 rfl) ?_
                refine lv_iload hx hb dL_areSums_685 (lv_at hl 6 rfl) ?_
                refine lv_iadd hx hb dL_areSums_687 ?_
                refine lv_aload_n hx hb dL_areSums_688 rfl (lv_at hl 13 rfl) ?_
                refine lv_iconst (v := nI 3) hx hb dL_areSums_689 (by decide) ?_
                refine q_ciK (BH := fun _ => True) (va_runV (rm := { frames := 3, cells := 0, slots := 0, locals := 65 }) (As := [.int (nI 3)]) (rest := [.int ((g_sm T 75 3) + (g_sm T 8 8))]) ⟨hx, hb, hml, hown, hts⟩ (m2_count_ok l D z ol sn 0 T S Y G 0 P ch 3 (by omega)) (cwV 1 hts gL_areSums_X2_count rfl rfl rfl (by decide +kernel) ⟨Nat.le_of_ble_eq_true rfl, Nat.le_of_ble_eq_true rfl⟩) (q_pV (ci := 2) (q0 := 0) hP hK rfl rfl) rfl rfl hl.1 rfl (lv_room (Nat.le_of_ble_eq_true rfl)) dL_areSums_690 ⟨Nat.le_of_ble_eq_true rfl, Nat.le_of_ble_eq_true rfl⟩) (fun t h => trivial) hS (fun q h => h.elim) (fun x16 H locs e16 _ hk hS => ?_)
                have hP := k_kp hP hk
                have e16 : x16 = (g_sm T 75 3 + g_sm T 8 8) := e16
                subst e16
                refine lv_icmp_ne (tgt := 780) hx hb dL_areSums_693 (by decide) (fun c17 => absurd c17 (fun z => z rfl)) (fun c17 => ?_)
                refine lv_aload_n hx hb dL_areSums_696 rfl (lv_at hl 13 rfl) ?_
                refine lv_iconst (v := nI 4) hx hb dL_areSums_697 (by decide) ?_
                refine q_ciK (BH := fun _ => True) (va_runV (rm := { frames := 3, cells := 0, slots := 0, locals := 65 }) (As := [.int (nI 4)]) (rest := []) ⟨hx, hb, hml, hown, hts⟩ (m2_count_ok l D z ol sn 0 T S Y G 0 P ch 4 (by omega)) (cwV 1 hts gL_areSums_X2_count rfl rfl rfl (by decide +kernel) ⟨Nat.le_of_ble_eq_true rfl, Nat.le_of_ble_eq_true rfl⟩) (q_pV (ci := 2) (q0 := 0) hP hK rfl rfl) rfl rfl hl.1 rfl (lv_room (Nat.le_of_ble_eq_true rfl)) dL_areSums_698 ⟨Nat.le_of_ble_eq_true rfl, Nat.le_of_ble_eq_true rfl⟩) (fun t h => trivial) hS (fun q h => h.elim) (fun x18 H locs e18 _ hk hS => ?_)
                have hP := k_kp hP hk
                have e18 : x18 = (g_sm T 81 3 - g_sm T 48 8 - g_sm T 56 8) := e18
                subst e18
                refine lv_aload_n hx hb dL_areSums_701 rfl (lv_at hl 13 rfl) ?_
                refine lv_iconst (v := nI 3) hx hb dL_areSums_702 (by decide) ?_
                refine q_ciK (BH := fun _ => True) (va_runV (rm := { frames := 3, cells := 0, slots := 0, locals := 65 }) (As := [.int (nI 3)]) (rest := [.int (g_sm T 81 3 - g_sm T 48 8 - g_sm T 56 8)]) ⟨hx, hb, hml, hown, hts⟩ (m2_count_ok l D z ol sn 0 T S Y G 0 P ch 3 (by omega)) (cwV 1 hts gL_areSums_X2_count rfl rfl rfl (by decide +kernel) ⟨Nat.le_of_ble_eq_true rfl, Nat.le_of_ble_eq_true rfl⟩) (q_pV (ci := 2) (q0 := 0) hP hK rfl rfl) rfl rfl hl.1 rfl (lv_room (Nat.le_of_ble_eq_true rfl)) dL_areSums_703 ⟨Nat.le_of_ble_eq_true rfl, Nat.le_of_ble_eq_true rfl⟩) (fun t h => trivial) hS (fun q h => h.elim) (fun x19 H locs e19 _ hk hS => ?_)
                have hP := k_kp hP hk
                have e19 : x19 = (g_sm T 75 3 + g_sm T 8 8) := e19
                subst e19
                refine lv_icmp_ne (tgt := 780) hx hb dL_areSums_706 (by decide) (fun c20 => absurd c20 (fun z => z (s_34 hj1 hj3))) (fun c20 => ?_)
                refine lv_iload_n hx hb dL_areSums_709 rfl (lv_at hl 3 rfl) ?_
                refine lv_iload_n hx hb dL_areSums_710 rfl (lv_at hl 5 rfl) ?_
                refine lv_iload hx hb dL_areSums_711 (lv_at hl 9 rfl) ?_
                refine lv_iadd hx hb dL_areSums_713 ?_
                refine lv_icmp_ne (tgt := 780) hx hb dL_areSums_714 (by decide) (fun c21 => absurd c21 (fun z => z hj3)) (fun c21 => ?_)
                refine lv_iload hx hb dL_areSums_717 (lv_at hl 10 rfl) ?_
                refine lv_aload_n hx hb dL_areSums_719 rfl (lv_at hl 13 rfl) ?_
                refine lv_bipush (v := nI 6) hx hb dL_areSums_720 (by decide) ?_
                refine q_ciK (BH := fun _ => True) (va_runV (rm := { frames := 3, cells := 0, slots := 0, locals := 65 }) (As := [.int (nI 6)]) (rest := [.int (g_sm T 40 8)]) ⟨hx, hb, hml, hown, hts⟩ (m2_count_ok l D z ol sn 0 T S Y G 0 P ch 6 (by omega)) (cwV 1 hts gL_areSums_X2_count rfl rfl rfl (by decide +kernel) ⟨Nat.le_of_ble_eq_true rfl, Nat.le_of_ble_eq_true rfl⟩) (q_pV (ci := 2) (q0 := 0) hP hK rfl rfl) rfl rfl hl.1 rfl (lv_room (Nat.le_of_ble_eq_true rfl)) dL_areSums_722 ⟨Nat.le_of_ble_eq_true rfl, Nat.le_of_ble_eq_true rfl⟩) (fun t h => trivial) hS (fun q h => h.elim) (fun x22 H locs e22 _ hk hS => ?_)
                have hP := k_kp hP hk
                have e22 : x22 = (T 137) := e22
                subst e22
                refine lv_icmp_ne (tgt := 780) hx hb dL_areSums_725 (by decide) (fun c23 => absurd c23 (fun z => z hj4)) (fun c23 => ?_)
                refine lv_aload_n hx hb dL_areSums_728 rfl (lv_at hl 13 rfl) ?_
                refine lv_bipush (v := nI 6) hx hb dL_areSums_729 (by decide) ?_
                refine q_ciK (BH := fun _ => True) (va_runV (rm := { frames := 3, cells := 0, slots := 0, locals := 65 }) (As := [.int (nI 6)]) (rest := []) ⟨hx, hb, hml, hown, hts⟩ (m2_count_ok l D z ol sn 0 T S Y G 0 P ch 6 (by omega)) (cwV 1 hts gL_areSums_X2_count rfl rfl rfl (by decide +kernel) ⟨Nat.le_of_ble_eq_true rfl, Nat.le_of_ble_eq_true rfl⟩) (q_pV (ci := 2) (q0 := 0) hP hK rfl rfl) rfl rfl hl.1 rfl (lv_room (Nat.le_of_ble_eq_true rfl)) dL_areSums_731 ⟨Nat.le_of_ble_eq_true rfl, Nat.le_of_ble_eq_true rfl⟩) (fun t h => trivial) hS (fun q h => h.elim) (fun x24 H locs e24 _ hk hS => ?_)
                have hP := k_kp hP hk
                have e24 : x24 = (T 137) := e24
                subst e24
                refine lv_aload_n hx hb dL_areSums_734 rfl (lv_at hl 13 rfl) ?_
                refine lv_iconst (v := nI 5) hx hb dL_areSums_735 (by decide) ?_
                refine q_ciK (BH := fun _ => True) (va_runV (rm := { frames := 3, cells := 0, slots := 0, locals := 65 }) (As := [.int (nI 5)]) (rest := [.int (T 137)]) ⟨hx, hb, hml, hown, hts⟩ (m2_count_ok l D z ol sn 0 T S Y G 0 P ch 5 (by omega)) (cwV 1 hts gL_areSums_X2_count rfl rfl rfl (by decide +kernel) ⟨Nat.le_of_ble_eq_true rfl, Nat.le_of_ble_eq_true rfl⟩) (q_pV (ci := 2) (q0 := 0) hP hK rfl rfl) rfl rfl hl.1 rfl (lv_room (Nat.le_of_ble_eq_true rfl)) dL_areSums_736 ⟨Nat.le_of_ble_eq_true rfl, Nat.le_of_ble_eq_true rfl⟩) (fun t h => trivial) hS (fun q h => h.elim) (fun x25 H locs e25 _ hk hS => ?_)
                have hP := k_kp hP hk
                have e25 : x25 = (T 136) := e25
                subst e25
                refine lv_icmp_gt (tgt := 780) hx hb dL_areSums_739 (by decide) (fun c26 => absurd c26 (fun z => by have := hj5.2.1; rw [t_lt] at z; omega)) (fun c26 => ?_)
                refine lv_iload_n hx hb dL_areSums_742 rfl (lv_at hl 4 rfl) ?_
                refine lv_aload_n hx hb dL_areSums_743 rfl (lv_at hl 13 rfl) ?_
                refine lv_bipush (v := nI 7) hx hb dL_areSums_744 (by decide) ?_
                refine q_ciK (BH := fun _ => True) (va_runV (rm := { frames := 3, cells := 0, slots := 0, locals := 65 }) (As := [.int (nI 7)]) (rest := [.int (g_sm T 84 3)]) ⟨hx, hb, hml, hown, hts⟩ (m2_count_ok l D z ol sn 0 T S Y G 0 P ch 7 (by omega)) (cwV 1 hts gL_areSums_X2_count rfl rfl rfl (by decide +kernel) ⟨Nat.le_of_ble_eq_true rfl, Nat.le_of_ble_eq_true rfl⟩) (q_pV (ci := 2) (q0 := 0) hP hK rfl rfl) rfl rfl hl.1 rfl (lv_room (Nat.le_of_ble_eq_true rfl)) dL_areSums_746 ⟨Nat.le_of_ble_eq_true rfl, Nat.le_of_ble_eq_true rfl⟩) (fun t h => trivial) hS (fun q h => h.elim) (fun x27 H locs e27 _ hk hS => ?_)
                have hP := k_kp hP hk
                have e27 : x27 = (g_sm T 84 3) := e27
                subst e27
                refine lv_icmp_ne (tgt := 780) hx hb dL_areSums_749 (by decide) (fun c28 => absurd c28 (fun z => z rfl)) (fun c28 => ?_)
                refine lv_aload_n hx hb dL_areSums_752 rfl (lv_at hl 13 rfl) ?_
                refine va_calld (va_runV (rm := { frames := 2, cells := 0, slots := 0, locals := 45 }) (As := []) (rest := []) ⟨hx, hb, hml, hown, hts⟩ (m2_spiltShare l D z ol sn 0 T S Y G 0 P ch B hI hB8) (cwV 0 hts gL_areSums_X2_spiltShare rfl rfl rfl (by decide +kernel) ⟨Nat.le_of_ble_eq_true rfl, Nat.le_of_ble_eq_true rfl⟩) (q_pV (ci := 2) (q0 := 0) hP hK rfl rfl) rfl rfl hl.1 rfl (lv_room (Nat.le_of_ble_eq_true rfl)) dL_areSums_753 ⟨Nat.le_of_ble_eq_true rfl, Nat.le_of_ble_eq_true rfl⟩) hS (fun q _ h => h.elim) (fun q h => h.elim) (fun x29 _ t H locs ht _ e29 _ _ hk hS => ?_)
                have hP := k_kp hP hk
                have e29 : x29 = (g_share T) := e29
                subst e29
                refine lv_dload hx hb dL_areSums_756 (lv_at hl 0 rfl) ?_
                refine lv_dcmp hx hb dL_areSums_758 ?_
                refine lv_if_ne (tgt := 780) hx hb dL_areSums_759 (by decide) (fun c30 => absurd c30 (fun z => z (sh_law_n hI hB8 c4))) (fun c30 => ?_)
                refine lv_aload_n hx hb dL_areSums_762 rfl (lv_at hl 13 rfl) ?_
                refine va_callf (va_runV (rm := { frames := 2, cells := 0, slots := 0, locals := 45 }) (As := []) (rest := []) ⟨hx, hb, hml, hown, hts⟩ (m2_meanTrust l D z ol sn 0 T S Y G 0 P ch B hI) (cwV 0 hts gL_areSums_X2_meanTrust rfl rfl rfl (by decide +kernel) ⟨Nat.le_of_ble_eq_true rfl, Nat.le_of_ble_eq_true rfl⟩) (q_pV (ci := 2) (q0 := 0) hP hK rfl rfl) rfl rfl hl.1 rfl (lv_room (Nat.le_of_ble_eq_true rfl)) dL_areSums_763 ⟨Nat.le_of_ble_eq_true rfl, Nat.le_of_ble_eq_true rfl⟩) hS (fun q _ h => h.elim) (fun q h => h.elim) (fun x31 _ t H locs ht _ e31 _ _ hk hS => ?_)
                have hP := k_kp hP hk
                have e31 : x31 = (g_trust T) := e31
                subst e31
                refine lv_ldcf hx hb hown (hts (.constantFloat RL 76 (1090519040)) (by decide +kernel)) dL_areSums_766 ?_
                refine lv_fmul hx hb dL_areSums_768 (tr8 hI).1 ?_
                refine lv_iload hx hb dL_areSums_769 (lv_at hl 11 rfl) ?_
                refine lv_i2f hx hb dL_areSums_771 ?_
                refine lv_fcmp hx hb dL_areSums_772 ?_
                refine lv_if_ne (tgt := 780) hx hb dL_areSums_773 (by decide) (fun c32 => absurd c32 (fun z => z (tr8 hI).2)) (fun c32 => ?_)
                refine lv_iconst (v := nI 1) hx hb dL_areSums_776 (by decide) ?_
                refine lv_goto (tgt := 781) hx hb dL_areSums_777 (by decide) ?_
                exact hret _ _ _ _ trivial hS dL_areSums_781
              ·
                refine lv_dconst0 hx hb dL_areSums_613 ?_
                refine lv_goto (tgt := 626) hx hb dL_areSums_614 (by decide) ?_
                refine lv_dstore (lv' := [(13, .double FP.dconst0), (11, .int (g_se T ((cnt T 24)))), (12, .int (nI 1)), (1, .int (g_sm T 81 3)), (2, .int (g_sm T 84 3)), (3, .int (g_sm T 75 3)), (4, .int (g_sm T 8 8)), (5, .int (g_sm T 48 8)), (6, .int (g_sm T 56 8)), (7, .int (g_sm T 64 8)), (8, .int (g_sm T 40 8)), (9, .int (g_sm T 24 8)), (10, .int (nI ((cnt T 24)))), (0, .ref (z.o))]) hx hb dL_areSums_626 hl (by decide) rfl (fun ls hl => ?_)
                refine lv_iload hx hb dL_areSums_628 (lv_at hl 2 rfl) ?_
                refine lv_if_eq (tgt := 780) hx hb dL_areSums_630 (by decide) (fun c33 => absurd c33 (by decide)) (fun c33 => ?_)
                refine lv_aload_n hx hb dL_areSums_633 rfl (lv_at hl 13 rfl) ?_
                refine lv_iload hx hb dL_areSums_634 (lv_at hl 12 rfl) ?_
                refine lv_iconst (v := nI 0) hx hb dL_areSums_636 (by decide) ?_
                refine q_ciK (BH := fun _ => True) (va_runV (rm := { frames := 1, cells := 0, slots := 0, locals := 22 }) (As := [.int (nI ((cnt T 24))), .int (nI 0)]) (rest := []) ⟨hx, hb, hml, hown, hts⟩ (m2_tale_no0 l D z ol sn 0 T S Y G 0 P ch B hI (nI ((cnt T 24))) (nI_pos (by omega)) (by rw [hI.tale.2]; exact Int32.lt_irrefl)) (cwV 2 hts gL_areSums_X2_tale rfl rfl rfl (by decide +kernel) ⟨Nat.le_of_ble_eq_true rfl, Nat.le_of_ble_eq_true rfl⟩) (q_pV (ci := 2) (q0 := 0) hP hK rfl rfl) rfl rfl hl.1 rfl (lv_room (Nat.le_of_ble_eq_true rfl)) dL_areSums_637 ⟨Nat.le_of_ble_eq_true rfl, Nat.le_of_ble_eq_true rfl⟩) (fun t h => trivial) hS (fun q h => h.elim) (fun x34 H locs e34 _ hk hS => ?_)
                have hP := k_kp hP hk
                have e34 : x34 = (-1) := e34
                subst e34
                refine lv_iconst (v := (-1)) hx hb dL_areSums_640 (by decide) ?_
                refine lv_icmp_ne (tgt := 780) hx hb dL_areSums_641 (by decide) (fun c35 => absurd c35 (fun z => z rfl)) (fun c35 => ?_)
                refine lv_iload hx hb dL_areSums_644 (lv_at hl 12 rfl) ?_
                refine lv_aload_n hx hb dL_areSums_646 rfl (lv_at hl 13 rfl) ?_
                refine lv_bipush (v := nI 8) hx hb dL_areSums_647 (by decide) ?_
                refine q_ciK (BH := fun _ => True) (va_runV (rm := { frames := 3, cells := 0, slots := 0, locals := 65 }) (As := [.int (nI 8)]) (rest := [.int (nI ((cnt T 24)))]) ⟨hx, hb, hml, hown, hts⟩ (m2_count_ok l D z ol sn 0 T S Y G 0 P ch 8 (by omega)) (cwV 1 hts gL_areSums_X2_count rfl rfl rfl (by decide +kernel) ⟨Nat.le_of_ble_eq_true rfl, Nat.le_of_ble_eq_true rfl⟩) (q_pV (ci := 2) (q0 := 0) hP hK rfl rfl) rfl rfl hl.1 rfl (lv_room (Nat.le_of_ble_eq_true rfl)) dL_areSums_649 ⟨Nat.le_of_ble_eq_true rfl, Nat.le_of_ble_eq_true rfl⟩) (fun t h => trivial) hS (fun q h => h.elim) (fun x36 H locs e36 _ hk hS => ?_)
                have hP := k_kp hP hk
                have e36 : x36 = (T 135) := e36
                subst e36
                refine lv_icmp_ne (tgt := 780) hx hb dL_areSums_652 (by decide) (fun c37 => absurd c37 (fun z => z (by rw [hI.tale.1, hI.tale.2]))) (fun c37 => ?_)
                refine lv_iload_n hx hb dL_areSums_655 rfl (lv_at hl 3 rfl) ?_
                refine lv_aload_n hx hb dL_areSums_656 rfl (lv_at hl 13 rfl) ?_
                refine lv_iconst (v := nI 0) hx hb dL_areSums_657 (by decide) ?_
                refine q_ciK (BH := fun _ => True) (va_runV (rm := { frames := 3, cells := 0, slots := 0, locals := 65 }) (As := [.int (nI 0)]) (rest := [.int (g_sm T 81 3)]) ⟨hx, hb, hml, hown, hts⟩ (m2_count_ok l D z ol sn 0 T S Y G 0 P ch 0 (by omega)) (cwV 1 hts gL_areSums_X2_count rfl rfl rfl (by decide +kernel) ⟨Nat.le_of_ble_eq_true rfl, Nat.le_of_ble_eq_true rfl⟩) (q_pV (ci := 2) (q0 := 0) hP hK rfl rfl) rfl rfl hl.1 rfl (lv_room (Nat.le_of_ble_eq_true rfl)) dL_areSums_658 ⟨Nat.le_of_ble_eq_true rfl, Nat.le_of_ble_eq_true rfl⟩) (fun t h => trivial) hS (fun q h => h.elim) (fun x38 H locs e38 _ hk hS => ?_)
                have hP := k_kp hP hk
                have e38 : x38 = (g_sm T 81 3) := e38
                subst e38
                refine lv_icmp_ne (tgt := 780) hx hb dL_areSums_661 (by decide) (fun c39 => absurd c39 (fun z => z rfl)) (fun c39 => ?_)
                refine lv_iload hx hb dL_areSums_664 (lv_at hl 7 rfl) ?_
                refine lv_aload_n hx hb dL_areSums_666 rfl (lv_at hl 13 rfl) ?_
                refine lv_iconst (v := nI 1) hx hb dL_areSums_667 (by decide) ?_
                refine q_ciK (BH := fun _ => True) (va_runV (rm := { frames := 3, cells := 0, slots := 0, locals := 65 }) (As := [.int (nI 1)]) (rest := [.int (g_sm T 48 8)]) ⟨hx, hb, hml, hown, hts⟩ (m2_count_ok l D z ol sn 0 T S Y G 0 P ch 1 (by omega)) (cwV 1 hts gL_areSums_X2_count rfl rfl rfl (by decide +kernel) ⟨Nat.le_of_ble_eq_true rfl, Nat.le_of_ble_eq_true rfl⟩) (q_pV (ci := 2) (q0 := 0) hP hK rfl rfl) rfl rfl hl.1 rfl (lv_room (Nat.le_of_ble_eq_true rfl)) dL_areSums_668 ⟨Nat.le_of_ble_eq_true rfl, Nat.le_of_ble_eq_true rfl⟩) (fun t h => trivial) hS (fun q h => h.elim) (fun x40 H locs e40 _ hk hS => ?_)
                have hP := k_kp hP hk
                have e40 : x40 = (g_sm T 48 8) := e40
                subst e40
                refine lv_icmp_ne (tgt := 780) hx hb dL_areSums_671 (by decide) (fun c41 => absurd c41 (fun z => z rfl)) (fun c41 => ?_)
                refine lv_iload hx hb dL_areSums_674 (lv_at hl 8 rfl) ?_
                refine lv_aload_n hx hb dL_areSums_676 rfl (lv_at hl 13 rfl) ?_
                refine lv_iconst (v := nI 2) hx hb dL_areSums_677 (by decide) ?_
                refine q_ciK (BH := fun _ => True) (va_runV (rm := { frames := 3, cells := 0, slots := 0, locals := 65 }) (As := [.int (nI 2)]) (rest := [.int (g_sm T 56 8)]) ⟨hx, hb, hml, hown, hts⟩ (m2_count_ok l D z ol sn 0 T S Y G 0 P ch 2 (by omega)) (cwV 1 hts gL_areSums_X2_count rfl rfl rfl (by decide +kernel) ⟨Nat.le_of_ble_eq_true rfl, Nat.le_of_ble_eq_true rfl⟩) (q_pV (ci := 2) (q0 := 0) hP hK rfl rfl) rfl rfl hl.1 rfl (lv_room (Nat.le_of_ble_eq_true rfl)) dL_areSums_678 ⟨Nat.le_of_ble_eq_true rfl, Nat.le_of_ble_eq_true rfl⟩) (fun t h => trivial) hS (fun q h => h.elim) (fun x42 H locs e42 _ hk hS => ?_)
                have hP := k_kp hP hk
                have e42 : x42 = (g_sm T 56 8) := e42
                subst e42
                refine lv_icmp_ne (tgt := 780) hx hb dL_areSums_681 (by decide) (fun c43 => absurd c43 (fun z => z rfl)) (fun c43 => ?_)
                refine lv_iload_n hx hb dL_areSums_684 rfl (lv_at hl 5 rfl) ?_
                refine lv_iload hx hb dL_areSums_685 (lv_at hl 6 rfl) ?_
                refine lv_iadd hx hb dL_areSums_687 ?_
                refine lv_aload_n hx hb dL_areSums_688 rfl (lv_at hl 13 rfl) ?_
                refine lv_iconst (v := nI 3) hx hb dL_areSums_689 (by decide) ?_
                refine q_ciK (BH := fun _ => True) (va_runV (rm := { frames := 3, cells := 0, slots := 0, locals := 65 }) (As := [.int (nI 3)]) (rest := [.int ((g_sm T 75 3) + (g_sm T 8 8))]) ⟨hx, hb, hml, hown, hts⟩ (m2_count_ok l D z ol sn 0 T S Y G 0 P ch 3 (by omega)) (cwV 1 hts gL_areSums_X2_count rfl rfl rfl (by decide +kernel) ⟨Nat.le_of_ble_eq_true rfl, Nat.le_of_ble_eq_true rfl⟩) (q_pV (ci := 2) (q0 := 0) hP hK rfl rfl) rfl rfl hl.1 rfl (lv_room (Nat.le_of_ble_eq_true rfl)) dL_areSums_690 ⟨Nat.le_of_ble_eq_true rfl, Nat.le_of_ble_eq_true rfl⟩) (fun t h => trivial) hS (fun q h => h.elim) (fun x44 H locs e44 _ hk hS => ?_)
                have hP := k_kp hP hk
                have e44 : x44 = (g_sm T 75 3 + g_sm T 8 8) := e44
                subst e44
                refine lv_icmp_ne (tgt := 780) hx hb dL_areSums_693 (by decide) (fun c45 => absurd c45 (fun z => z rfl)) (fun c45 => ?_)
                refine lv_aload_n hx hb dL_areSums_696 rfl (lv_at hl 13 rfl) ?_
                refine lv_iconst (v := nI 4) hx hb dL_areSums_697 (by decide) ?_
                refine q_ciK (BH := fun _ => True) (va_runV (rm := { frames := 3, cells := 0, slots := 0, locals := 65 }) (As := [.int (nI 4)]) (rest := []) ⟨hx, hb, hml, hown, hts⟩ (m2_count_ok l D z ol sn 0 T S Y G 0 P ch 4 (by omega)) (cwV 1 hts gL_areSums_X2_count rfl rfl rfl (by decide +kernel) ⟨Nat.le_of_ble_eq_true rfl, Nat.le_of_ble_eq_true rfl⟩) (q_pV (ci := 2) (q0 := 0) hP hK rfl rfl) rfl rfl hl.1 rfl (lv_room (Nat.le_of_ble_eq_true rfl)) dL_areSums_698 ⟨Nat.le_of_ble_eq_true rfl, Nat.le_of_ble_eq_true rfl⟩) (fun t h => trivial) hS (fun q h => h.elim) (fun x46 H locs e46 _ hk hS => ?_)
                have hP := k_kp hP hk
                have e46 : x46 = (g_sm T 81 3 - g_sm T 48 8 - g_sm T 56 8) := e46
                subst e46
                refine lv_aload_n hx hb dL_areSums_701 rfl (lv_at hl 13 rfl) ?_
                refine lv_iconst (v := nI 3) hx hb dL_areSums_702 (by decide) ?_
                refine q_ciK (BH := fun _ => True) (va_runV (rm := { frames := 3, cells := 0, slots := 0, locals := 65 }) (As := [.int (nI 3)]) (rest := [.int (g_sm T 81 3 - g_sm T 48 8 - g_sm T 56 8)]) ⟨hx, hb, hml, hown, hts⟩ (m2_count_ok l D z ol sn 0 T S Y G 0 P ch 3 (by omega)) (cwV 1 hts gL_areSums_X2_count rfl rfl rfl (by decide +kernel) ⟨Nat.le_of_ble_eq_true rfl, Nat.le_of_ble_eq_true rfl⟩) (q_pV (ci := 2) (q0 := 0) hP hK rfl rfl) rfl rfl hl.1 rfl (lv_room (Nat.le_of_ble_eq_true rfl)) dL_areSums_703 ⟨Nat.le_of_ble_eq_true rfl, Nat.le_of_ble_eq_true rfl⟩) (fun t h => trivial) hS (fun q h => h.elim) (fun x47 H locs e47 _ hk hS => ?_)
                have hP := k_kp hP hk
                have e47 : x47 = (g_sm T 75 3 + g_sm T 8 8) := e47
                subst e47
                refine lv_icmp_ne (tgt := 780) hx hb dL_areSums_706 (by decide) (fun c48 => absurd c48 (fun z => z (s_34 hj1 hj3))) (fun c48 => ?_)
                refine lv_iload_n hx hb dL_areSums_709 rfl (lv_at hl 3 rfl) ?_
                refine lv_iload_n hx hb dL_areSums_710 rfl (lv_at hl 5 rfl) ?_
                refine lv_iload hx hb dL_areSums_711 (lv_at hl 9 rfl) ?_
                refine lv_iadd hx hb dL_areSums_713 ?_
                refine lv_icmp_ne (tgt := 780) hx hb dL_areSums_714 (by decide) (fun c49 => absurd c49 (fun z => z hj3)) (fun c49 => ?_)
                refine lv_iload hx hb dL_areSums_717 (lv_at hl 10 rfl) ?_
                refine lv_aload_n hx hb dL_areSums_719 rfl (lv_at hl 13 rfl) ?_
                refine lv_bipush (v := nI 6) hx hb dL_areSums_720 (by decide) ?_
                refine q_ciK (BH := fun _ => True) (va_runV (rm := { frames := 3, cells := 0, slots := 0, locals := 65 }) (As := [.int (nI 6)]) (rest := [.int (g_sm T 40 8)]) ⟨hx, hb, hml, hown, hts⟩ (m2_count_ok l D z ol sn 0 T S Y G 0 P ch 6 (by omega)) (cwV 1 hts gL_areSums_X2_count rfl rfl rfl (by decide +kernel) ⟨Nat.le_of_ble_eq_true rfl, Nat.le_of_ble_eq_true rfl⟩) (q_pV (ci := 2) (q0 := 0) hP hK rfl rfl) rfl rfl hl.1 rfl (lv_room (Nat.le_of_ble_eq_true rfl)) dL_areSums_722 ⟨Nat.le_of_ble_eq_true rfl, Nat.le_of_ble_eq_true rfl⟩) (fun t h => trivial) hS (fun q h => h.elim) (fun x50 H locs e50 _ hk hS => ?_)
                have hP := k_kp hP hk
                have e50 : x50 = (T 137) := e50
                subst e50
                refine lv_icmp_ne (tgt := 780) hx hb dL_areSums_725 (by decide) (fun c51 => absurd c51 (fun z => z hj4)) (fun c51 => ?_)
                refine lv_aload_n hx hb dL_areSums_728 rfl (lv_at hl 13 rfl) ?_
                refine lv_bipush (v := nI 6) hx hb dL_areSums_729 (by decide) ?_
                refine q_ciK (BH := fun _ => True) (va_runV (rm := { frames := 3, cells := 0, slots := 0, locals := 65 }) (As := [.int (nI 6)]) (rest := []) ⟨hx, hb, hml, hown, hts⟩ (m2_count_ok l D z ol sn 0 T S Y G 0 P ch 6 (by omega)) (cwV 1 hts gL_areSums_X2_count rfl rfl rfl (by decide +kernel) ⟨Nat.le_of_ble_eq_true rfl, Nat.le_of_ble_eq_true rfl⟩) (q_pV (ci := 2) (q0 := 0) hP hK rfl rfl) rfl rfl hl.1 rfl (lv_room (Nat.le_of_ble_eq_true rfl)) dL_areSums_731 ⟨Nat.le_of_ble_eq_true rfl, Nat.le_of_ble_eq_true rfl⟩) (fun t h => trivial) hS (fun q h => h.elim) (fun x52 H locs e52 _ hk hS => ?_)
                have hP := k_kp hP hk
                have e52 : x52 = (T 137) := e52
                subst e52
                refine lv_aload_n hx hb dL_areSums_734 rfl (lv_at hl 13 rfl) ?_
                refine lv_iconst (v := nI 5) hx hb dL_areSums_735 (by decide) ?_
                refine q_ciK (BH := fun _ => True) (va_runV (rm := { frames := 3, cells := 0, slots := 0, locals := 65 }) (As := [.int (nI 5)]) (rest := [.int (T 137)]) ⟨hx, hb, hml, hown, hts⟩ (m2_count_ok l D z ol sn 0 T S Y G 0 P ch 5 (by omega)) (cwV 1 hts gL_areSums_X2_count rfl rfl rfl (by decide +kernel) ⟨Nat.le_of_ble_eq_true rfl, Nat.le_of_ble_eq_true rfl⟩) (q_pV (ci := 2) (q0 := 0) hP hK rfl rfl) rfl rfl hl.1 rfl (lv_room (Nat.le_of_ble_eq_true rfl)) dL_areSums_736 ⟨Nat.le_of_ble_eq_true rfl, Nat.le_of_ble_eq_true rfl⟩) (fun t h => trivial) hS (fun q h => h.elim) (fun x53 H locs e53 _ hk hS => ?_)
                have hP := k_kp hP hk
                have e53 : x53 = (T 136) := e53
                subst e53
                refine lv_icmp_gt (tgt := 780) hx hb dL_areSums_739 (by decide) (fun c54 => absurd c54 (fun z => by have := hj5.2.1; rw [t_lt] at z; omega)) (fun c54 => ?_)
                refine lv_iload_n hx hb dL_areSums_742 rfl (lv_at hl 4 rfl) ?_
                refine lv_aload_n hx hb dL_areSums_743 rfl (lv_at hl 13 rfl) ?_
                refine lv_bipush (v := nI 7) hx hb dL_areSums_744 (by decide) ?_
                refine q_ciK (BH := fun _ => True) (va_runV (rm := { frames := 3, cells := 0, slots := 0, locals := 65 }) (As := [.int (nI 7)]) (rest := [.int (g_sm T 84 3)]) ⟨hx, hb, hml, hown, hts⟩ (m2_count_ok l D z ol sn 0 T S Y G 0 P ch 7 (by omega)) (cwV 1 hts gL_areSums_X2_count rfl rfl rfl (by decide +kernel) ⟨Nat.le_of_ble_eq_true rfl, Nat.le_of_ble_eq_true rfl⟩) (q_pV (ci := 2) (q0 := 0) hP hK rfl rfl) rfl rfl hl.1 rfl (lv_room (Nat.le_of_ble_eq_true rfl)) dL_areSums_746 ⟨Nat.le_of_ble_eq_true rfl, Nat.le_of_ble_eq_true rfl⟩) (fun t h => trivial) hS (fun q h => h.elim) (fun x55 H locs e55 _ hk hS => ?_)
                have hP := k_kp hP hk
                have e55 : x55 = (g_sm T 84 3) := e55
                subst e55
                refine lv_icmp_ne (tgt := 780) hx hb dL_areSums_749 (by decide) (fun c56 => absurd c56 (fun z => z rfl)) (fun c56 => ?_)
                refine lv_aload_n hx hb dL_areSums_752 rfl (lv_at hl 13 rfl) ?_
                refine va_calld (va_runV (rm := { frames := 2, cells := 0, slots := 0, locals := 45 }) (As := []) (rest := []) ⟨hx, hb, hml, hown, hts⟩ (m2_spiltShare l D z ol sn 0 T S Y G 0 P ch B hI hB8) (cwV 0 hts gL_areSums_X2_spiltShare rfl rfl rfl (by decide +kernel) ⟨Nat.le_of_ble_eq_true rfl, Nat.le_of_ble_eq_true rfl⟩) (q_pV (ci := 2) (q0 := 0) hP hK rfl rfl) rfl rfl hl.1 rfl (lv_room (Nat.le_of_ble_eq_true rfl)) dL_areSums_753 ⟨Nat.le_of_ble_eq_true rfl, Nat.le_of_ble_eq_true rfl⟩) hS (fun q _ h => h.elim) (fun q h => h.elim) (fun x57 _ t H locs ht _ e57 _ _ hk hS => ?_)
                have hP := k_kp hP hk
                have e57 : x57 = (g_share T) := e57
                subst e57
                refine lv_dload hx hb dL_areSums_756 (lv_at hl 0 rfl) ?_
                refine lv_dcmp hx hb dL_areSums_758 ?_
                refine lv_if_ne (tgt := 780) hx hb dL_areSums_759 (by decide) (fun c58 => absurd c58 (fun z => z (sh_law_0 hI hB8 c4))) (fun c58 => ?_)
                refine lv_aload_n hx hb dL_areSums_762 rfl (lv_at hl 13 rfl) ?_
                refine va_callf (va_runV (rm := { frames := 2, cells := 0, slots := 0, locals := 45 }) (As := []) (rest := []) ⟨hx, hb, hml, hown, hts⟩ (m2_meanTrust l D z ol sn 0 T S Y G 0 P ch B hI) (cwV 0 hts gL_areSums_X2_meanTrust rfl rfl rfl (by decide +kernel) ⟨Nat.le_of_ble_eq_true rfl, Nat.le_of_ble_eq_true rfl⟩) (q_pV (ci := 2) (q0 := 0) hP hK rfl rfl) rfl rfl hl.1 rfl (lv_room (Nat.le_of_ble_eq_true rfl)) dL_areSums_763 ⟨Nat.le_of_ble_eq_true rfl, Nat.le_of_ble_eq_true rfl⟩) hS (fun q _ h => h.elim) (fun q h => h.elim) (fun x59 _ t H locs ht _ e59 _ _ hk hS => ?_)
                have hP := k_kp hP hk
                have e59 : x59 = (g_trust T) := e59
                subst e59
                refine lv_ldcf hx hb hown (hts (.constantFloat RL 76 (1090519040)) (by decide +kernel)) dL_areSums_766 ?_
                refine lv_fmul hx hb dL_areSums_768 (tr8 hI).1 ?_
                refine lv_iload hx hb dL_areSums_769 (lv_at hl 11 rfl) ?_
                refine lv_i2f hx hb dL_areSums_771 ?_
                refine lv_fcmp hx hb dL_areSums_772 ?_
                refine lv_if_ne (tgt := 780) hx hb dL_areSums_773 (by decide) (fun c60 => absurd c60 (fun z => z (tr8 hI).2)) (fun c60 => ?_)
                refine lv_iconst (v := nI 1) hx hb dL_areSums_776 (by decide) ?_
                refine lv_goto (tgt := 781) hx hb dL_areSums_777 (by decide) ?_
                exact hret _ _ _ _ trivial hS dL_areSums_781
            | succ n ih =>
              intro i H locs ls hi hP hS hl
              refine lv_iload hx hb dL_areSums_500 (lv_at hl 0 rfl) ?_
              refine lv_iload hx hb dL_areSums_502 (lv_at hl 12 rfl) ?_
              refine q_geN (tgt := 608) hx hb (by omega) (by omega) dL_areSums_504 (by decide) (fun c61 => absurd c61 (by omega)) (fun c61 => ?_)
              refine lv_aload_n hx hb dL_areSums_507 rfl (lv_at hl 13 rfl) ?_
              refine lv_iload hx hb dL_areSums_508 (lv_at hl 0 rfl) ?_
              refine lv_iconst (v := nI 0) hx hb dL_areSums_510 (by decide) ?_
              refine q_ciK (BH := fun _ => True) (va_runV (rm := { frames := 1, cells := 0, slots := 0, locals := 22 }) (As := [.int (nI i), .int (nI 0)]) (rest := []) ⟨hx, hb, hml, hown, hts⟩ (m2_tale_ok0 l D z ol sn 0 T S Y G 0 P ch B hI i (by rw [hI.tale.2]; omega)) (cwV 2 hts gL_areSums_X2_tale rfl rfl rfl (by decide +kernel) ⟨Nat.le_of_ble_eq_true rfl, Nat.le_of_ble_eq_true rfl⟩) (q_pV (ci := 2) (q0 := 0) hP hK rfl rfl) rfl rfl hl.1 rfl (lv_room (Nat.le_of_ble_eq_true rfl)) dL_areSums_511 ⟨Nat.le_of_ble_eq_true rfl, Nat.le_of_ble_eq_true rfl⟩) (fun t h => trivial) hS (fun q h => h.elim) (fun x62 H locs e62 _ hk hS => ?_)
              have hP := k_kp hP hk
              have e62 : x62 = (nI ((pN T i))) := (show _ = T (111 + i) from e62).trans (hI.pN24 (by omega)).1
              subst e62
              have hp24 := (hI.pN24 (r := i) (by omega)).2
              have he7 : 87 + 8 * (pN T i / 8) + pN T i % 8 = 87 + pN T i := by omega
              refine lv_istore (lv' := [(14, .int (nI ((pN T i)))), (13, .int (nI i)), (11, .int (g_se T i)), (12, .int (nI 1)), (1, .int (g_sm T 81 3)), (2, .int (g_sm T 84 3)), (3, .int (g_sm T 75 3)), (4, .int (g_sm T 8 8)), (5, .int (g_sm T 48 8)), (6, .int (g_sm T 56 8)), (7, .int (g_sm T 64 8)), (8, .int (g_sm T 40 8)), (9, .int (g_sm T 24 8)), (10, .int (nI ((cnt T 24)))), (0, .ref (z.o))]) hx hb dL_areSums_514 hl (by decide) rfl (fun ls hl => ?_)
              refine lv_iload hx hb dL_areSums_516 (lv_at hl 3 rfl) ?_
              refine lv_if_eq (tgt := 581) hx hb dL_areSums_518 (by decide) (fun c63 => absurd c63 (by decide)) (fun c63 => ?_)
              refine lv_iload hx hb dL_areSums_521 (lv_at hl 0 rfl) ?_
              refine lv_if_lt (tgt := 581) hx hb dL_areSums_523 (by decide) (fun c64 => absurd c64 (nI_pos (by omega))) (fun c64 => ?_)
              refine lv_iload hx hb dL_areSums_526 (lv_at hl 0 rfl) ?_
              refine lv_bipush (v := nI 24) hx hb dL_areSums_528 (by decide) ?_
              refine q_geN (tgt := 581) hx hb (by omega) (by omega) dL_areSums_530 (by decide) (fun c65 => absurd c65 (by omega)) (fun c65 => ?_)
              refine lv_iload hx hb dL_areSums_533 (lv_at hl 2 rfl) ?_
              refine lv_iload hx hb dL_areSums_535 (lv_at hl 0 rfl) ?_
              refine lv_ishr hx hb dL_areSums_537 ?_
              refine lv_iconst (v := nI 1) hx hb dL_areSums_538 (by decide) ?_
              refine lv_iand hx hb dL_areSums_539 ?_
              refine lv_if_ne (tgt := 581) hx hb dL_areSums_540 (by decide) (fun c66 => absurd c66 (fun z => z (se_0 hp24 i (fun r hr => ⟨(hI.pN24 (r := r) (by omega)).2, hj9 r i hr (by omega)⟩)))) (fun c66 => ?_)
              refine lv_aload_n hx hb dL_areSums_543 rfl (lv_at hl 14 rfl) ?_
              refine lv_iload hx hb dL_areSums_544 (lv_at hl 1 rfl) ?_
              refine lv_iconst (v := nI 1) hx hb dL_areSums_546 (by decide) ?_
              refine q_ciK (BH := fun _ => True) (va_runV (rm := { frames := 1, cells := 0, slots := 0, locals := 22 }) (As := [.int (nI i), .int (nI 1)]) (rest := []) ⟨hx, hb, hml, hown, hts⟩ (m2_tale_ok1 l D z ol sn 0 T S Y G 0 P ch B hI i (by rw [hI.tale.2]; omega)) (cwV 2 hts gL_areSums_X2_tale rfl rfl rfl (by decide +kernel) ⟨Nat.le_of_ble_eq_true rfl, Nat.le_of_ble_eq_true rfl⟩) (q_pV (ci := 2) (q0 := 0) hP hK rfl rfl) rfl rfl hl.1 rfl (lv_room (Nat.le_of_ble_eq_true rfl)) dL_areSums_547 ⟨Nat.le_of_ble_eq_true rfl, Nat.le_of_ble_eq_true rfl⟩) (fun t h => trivial) hS (fun q h => h.elim) (fun x67 H locs e67 _ hk hS => ?_)
              have hP := k_kp hP hk
              have e67 : x67 = (T (87 + pN T i)) := e67
              subst e67
              refine lv_aload_n hx hb dL_areSums_550 rfl (lv_at hl 14 rfl) ?_
              refine lv_iload hx hb dL_areSums_551 (lv_at hl 0 rfl) ?_
              refine lv_bipush (v := nI 8) hx hb dL_areSums_553 (by decide) ?_
              refine q_divN hx hb (((pN T i)) / 8) rfl (by omega) (by omega) (by omega) dL_areSums_555 ?_
              refine lv_iload hx hb dL_areSums_556 (lv_at hl 0 rfl) ?_
              refine lv_bipush (v := nI 8) hx hb dL_areSums_558 (by decide) ?_
              refine q_remN hx hb (((pN T i)) % 8) rfl (by omega) (by omega) (by omega) dL_areSums_560 ?_
              refine q_ciK (BH := fun _ => True) (va_runV (rm := { frames := 1, cells := 0, slots := 0, locals := 20 }) (As := [.int (nI (((pN T i)) / 8)), .int (nI (((pN T i)) % 8))]) (rest := [.int (T (87 + pN T i))]) ⟨hx, hb, hml, hown, hts⟩ (m2_told_ok l D z ol sn 0 T S Y G 0 P ch B hI (((pN T i)) / 8) (by omega) (((pN T i)) % 8) (by omega)) (cwV 2 hts gL_areSums_X2_told rfl rfl rfl (by decide +kernel) ⟨Nat.le_of_ble_eq_true rfl, Nat.le_of_ble_eq_true rfl⟩) (q_pV (ci := 2) (q0 := 0) hP hK rfl rfl) rfl rfl hl.1 rfl (lv_room (Nat.le_of_ble_eq_true rfl)) dL_areSums_561 ⟨Nat.le_of_ble_eq_true rfl, Nat.le_of_ble_eq_true rfl⟩) (fun t h => trivial) hS (fun q h => h.elim) (fun x68 H locs e68 _ hk hS => ?_)
              have hP := k_kp hP hk
              have e68 : x68 = (T (87 + 8 * (((pN T i)) / 8) + (((pN T i)) % 8))) := e68
              subst e68
              rw [he7]
              refine lv_icmp_ne (tgt := 581) hx hb dL_areSums_564 (by decide) (fun c69 => absurd c69 (fun z => z rfl)) (fun c69 => ?_)
              refine lv_aload_n hx hb dL_areSums_567 rfl (lv_at hl 14 rfl) ?_
              refine lv_iload hx hb dL_areSums_568 (lv_at hl 1 rfl) ?_
              refine lv_iconst (v := nI 1) hx hb dL_areSums_570 (by decide) ?_
              refine q_ciK (BH := fun _ => True) (va_runV (rm := { frames := 1, cells := 0, slots := 0, locals := 22 }) (As := [.int (nI i), .int (nI 1)]) (rest := []) ⟨hx, hb, hml, hown, hts⟩ (m2_tale_ok1 l D z ol sn 0 T S Y G 0 P ch B hI i (by rw [hI.tale.2]; omega)) (cwV 2 hts gL_areSums_X2_tale rfl rfl rfl (by decide +kernel) ⟨Nat.le_of_ble_eq_true rfl, Nat.le_of_ble_eq_true rfl⟩) (q_pV (ci := 2) (q0 := 0) hP hK rfl rfl) rfl rfl hl.1 rfl (lv_room (Nat.le_of_ble_eq_true rfl)) dL_areSums_571 ⟨Nat.le_of_ble_eq_true rfl, Nat.le_of_ble_eq_true rfl⟩) (fun t h => trivial) hS (fun q h => h.elim) (fun x70 H locs e70 _ hk hS => ?_)
              have hP := k_kp hP hk
              have e70 : x70 = (T (87 + pN T i)) := e70
              subst e70
              refine lv_if_lt (tgt := 581) hx hb dL_areSums_574 (by decide) (fun c71 => absurd c71 (fun z => by have := hj6 (pN T i) hp24; have h8 := hj8 i (by omega); rw [t_lt, t_0] at z; exact h8 (by rw [t_eq, t_m1]; omega))) (fun c71 => ?_)
              refine lv_iconst (v := nI 1) hx hb dL_areSums_577 (by decide) ?_
              refine lv_goto (tgt := 582) hx hb dL_areSums_578 (by decide) ?_
              refine lv_istore (lv' := [(12, .int (nI 1)), (14, .int (nI ((pN T i)))), (13, .int (nI i)), (11, .int (g_se T i)), (1, .int (g_sm T 81 3)), (2, .int (g_sm T 84 3)), (3, .int (g_sm T 75 3)), (4, .int (g_sm T 8 8)), (5, .int (g_sm T 48 8)), (6, .int (g_sm T 56 8)), (7, .int (g_sm T 64 8)), (8, .int (g_sm T 40 8)), (9, .int (g_sm T 24 8)), (10, .int (nI ((cnt T 24)))), (0, .ref (z.o))]) hx hb dL_areSums_582 hl (by decide) rfl (fun ls hl => ?_)
              refine lv_iload hx hb dL_areSums_584 (lv_at hl 3 rfl) ?_
              refine lv_iload hx hb dL_areSums_586 (lv_at hl 1 rfl) ?_
              refine lv_if_ge (tgt := 595) hx hb dL_areSums_588 (by decide) (fun c72 => ?_) (fun c72 => absurd c72 (fun z => z (nI_ge0 (by omega))))
              refine lv_iconst (v := nI 1) hx hb dL_areSums_595 (by decide) ?_
              refine lv_iload hx hb dL_areSums_596 (lv_at hl 1 rfl) ?_
              refine lv_ishl hx hb dL_areSums_598 ?_
              refine lv_ior hx hb dL_areSums_599 ?_
              refine lv_istore (lv' := [(11, .int ((g_se T i) ||| ((nI 1) <<< ((nI ((pN T i))) &&& 31)))), (12, .int (nI 1)), (14, .int (nI ((pN T i)))), (13, .int (nI i)), (1, .int (g_sm T 81 3)), (2, .int (g_sm T 84 3)), (3, .int (g_sm T 75 3)), (4, .int (g_sm T 8 8)), (5, .int (g_sm T 48 8)), (6, .int (g_sm T 56 8)), (7, .int (g_sm T 64 8)), (8, .int (g_sm T 40 8)), (9, .int (g_sm T 24 8)), (10, .int (nI ((cnt T 24)))), (0, .ref (z.o))]) hx hb dL_areSums_600 hl (by decide) rfl (fun ls hl => ?_)
              refine lv_iinc (v := (nI (i + 1))) (lv' := [(13, .int (nI (i + 1))), (11, .int ((g_se T i) ||| ((nI 1) <<< ((nI ((pN T i))) &&& 31)))), (12, .int (nI 1)), (14, .int (nI ((pN T i)))), (1, .int (g_sm T 81 3)), (2, .int (g_sm T 84 3)), (3, .int (g_sm T 75 3)), (4, .int (g_sm T 8 8)), (5, .int (g_sm T 48 8)), (6, .int (g_sm T 56 8)), (7, .int (g_sm T 64 8)), (8, .int (g_sm T 40 8)), (9, .int (g_sm T 24 8)), (10, .int (nI ((cnt T 24)))), (0, .ref (z.o))]) hx hb dL_areSums_602 hl (k := 3) rfl (q_inc i 1 (i + 1) (by omega)) (by decide) rfl (fun ls hl => ?_)
              refine lv_goto (tgt := 500) hx hb dL_areSums_605 (by decide) ?_
              exact ih (i + 1) _ _ _ (by omega) hP hS (lv_sub hl [0, 1, 2, 4, 5, 6, 7, 8, 9, 10, 11, 12, 13, 14] rfl)
          exact LD (cnt T 24) 0 _ _ _ (by omega) hP hS (lv_sub hl [0, 11, 12, 7, 8, 9, 1, 3, 4, 5, 2, 6, 10, 13] rfl)
        | succ n ih =>
          intro i H locs ls hi hP hS hl
          refine lv_iload hx hb dL_areSums_294 (lv_at hl 0 rfl) ?_
          refine lv_bipush (v := nI 8) hx hb dL_areSums_296 (by decide) ?_
          refine q_geN (tgt := 497) hx hb (by omega) (by omega) dL_areSums_298 (by decide) (fun c73 => absurd c73 (by omega)) (fun c73 => ?_)
          refine lv_iload hx hb dL_areSums_301 (lv_at hl 1 rfl) ?_
          refine lv_aload_n hx hb dL_areSums_303 rfl (lv_at hl 13 rfl) ?_
          refine lv_iload hx hb dL_areSums_304 (lv_at hl 0 rfl) ?_
          refine lv_iconst (v := nI 1) hx hb dL_areSums_306 (by decide) ?_
          refine q_ciK (BH := fun _ => True) (va_runV (rm := { frames := 1, cells := 0, slots := 0, locals := 23 }) (As := [.int (nI i), .int (nI 1)]) (rest := [.int (g_sm T 8 i)]) ⟨hx, hb, hml, hown, hts⟩ (m2_guest_ok l D z ol sn 0 T S Y G 0 P ch B hI i (by omega) 1 (by omega)) (cwV 2 hts gL_areSums_X2_guest rfl rfl rfl (by decide +kernel) ⟨Nat.le_of_ble_eq_true rfl, Nat.le_of_ble_eq_true rfl⟩) (q_pV (ci := 2) (q0 := 0) hP hK rfl rfl) rfl rfl hl.1 rfl (lv_room (Nat.le_of_ble_eq_true rfl)) dL_areSums_307 ⟨Nat.le_of_ble_eq_true rfl, Nat.le_of_ble_eq_true rfl⟩) (fun t h => trivial) hS (fun q h => h.elim) (fun x74 H locs e74 _ hk hS => ?_)
          have hP := k_kp hP hk
          have e74 : x74 = (T (8 + i)) := e74
          subst e74
          refine lv_iadd hx hb dL_areSums_310 ?_
          refine lv_istore (lv' := [(4, .int ((g_sm T 8 i) + (T (8 + i)))), (13, .int (nI i)), (8, .int (g_sm T 40 i)), (5, .int (g_sm T 48 i)), (6, .int (g_sm T 56 i)), (7, .int (g_sm T 64 i)), (9, .int (g_sm T 24 i)), (1, .int (g_sm T 81 3)), (2, .int (g_sm T 84 3)), (3, .int (g_sm T 75 3)), (10, .int (nI (cnt T 24))), (11, .int (nI 0)), (12, .int (nI 1)), (0, .ref (z.o))]) hx hb dL_areSums_311 hl (by decide) rfl (fun ls hl => ?_)
          refine lv_iload hx hb dL_areSums_313 (lv_at hl 2 rfl) ?_
          refine lv_aload_n hx hb dL_areSums_315 rfl (lv_at hl 13 rfl) ?_
          refine lv_iload hx hb dL_areSums_316 (lv_at hl 1 rfl) ?_
          refine lv_iconst (v := nI 5) hx hb dL_areSums_318 (by decide) ?_
          refine q_ciK (BH := fun _ => True) (va_runV (rm := { frames := 1, cells := 0, slots := 0, locals := 23 }) (As := [.int (nI i), .int (nI 5)]) (rest := [.int (g_sm T 40 i)]) ⟨hx, hb, hml, hown, hts⟩ (m2_guest_ok l D z ol sn 0 T S Y G 0 P ch B hI i (by omega) 5 (by omega)) (cwV 2 hts gL_areSums_X2_guest rfl rfl rfl (by decide +kernel) ⟨Nat.le_of_ble_eq_true rfl, Nat.le_of_ble_eq_true rfl⟩) (q_pV (ci := 2) (q0 := 0) hP hK rfl rfl) rfl rfl hl.1 rfl (lv_room (Nat.le_of_ble_eq_true rfl)) dL_areSums_319 ⟨Nat.le_of_ble_eq_true rfl, Nat.le_of_ble_eq_true rfl⟩) (fun t h => trivial) hS (fun q h => h.elim) (fun x75 H locs e75 _ hk hS => ?_)
          have hP := k_kp hP hk
          have e75 : x75 = (T (40 + i)) := e75
          subst e75
          refine lv_iadd hx hb dL_areSums_322 ?_
          refine lv_istore (lv' := [(8, .int ((g_sm T 40 i) + (T (40 + i)))), (4, .int ((g_sm T 8 i) + (T (8 + i)))), (13, .int (nI i)), (5, .int (g_sm T 48 i)), (6, .int (g_sm T 56 i)), (7, .int (g_sm T 64 i)), (9, .int (g_sm T 24 i)), (1, .int (g_sm T 81 3)), (2, .int (g_sm T 84 3)), (3, .int (g_sm T 75 3)), (10, .int (nI (cnt T 24))), (11, .int (nI 0)), (12, .int (nI 1)), (0, .ref (z.o))]) hx hb dL_areSums_323 hl (by decide) rfl (fun ls hl => ?_)
          refine lv_iload hx hb dL_areSums_325 (lv_at hl 3 rfl) ?_
          refine lv_aload_n hx hb dL_areSums_327 rfl (lv_at hl 13 rfl) ?_
          refine lv_iload hx hb dL_areSums_328 (lv_at hl 2 rfl) ?_
          refine lv_bipush (v := nI 6) hx hb dL_areSums_330 (by decide) ?_
          refine q_ciK (BH := fun _ => True) (va_runV (rm := { frames := 1, cells := 0, slots := 0, locals := 23 }) (As := [.int (nI i), .int (nI 6)]) (rest := [.int (g_sm T 48 i)]) ⟨hx, hb, hml, hown, hts⟩ (m2_guest_ok l D z ol sn 0 T S Y G 0 P ch B hI i (by omega) 6 (by omega)) (cwV 2 hts gL_areSums_X2_guest rfl rfl rfl (by decide +kernel) ⟨Nat.le_of_ble_eq_true rfl, Nat.le_of_ble_eq_true rfl⟩) (q_pV (ci := 2) (q0 := 0) hP hK rfl rfl) rfl rfl hl.1 rfl (lv_room (Nat.le_of_ble_eq_true rfl)) dL_areSums_332 ⟨Nat.le_of_ble_eq_true rfl, Nat.le_of_ble_eq_true rfl⟩) (fun t h => trivial) hS (fun q h => h.elim) (fun x76 H locs e76 _ hk hS => ?_)
          have hP := k_kp hP hk
          have e76 : x76 = (T (48 + i)) := e76
          subst e76
          refine lv_iadd hx hb dL_areSums_335 ?_
          refine lv_istore (lv' := [(5, .int ((g_sm T 48 i) + (T (48 + i)))), (8, .int ((g_sm T 40 i) + (T (40 + i)))), (4, .int ((g_sm T 8 i) + (T (8 + i)))), (13, .int (nI i)), (6, .int (g_sm T 56 i)), (7, .int (g_sm T 64 i)), (9, .int (g_sm T 24 i)), (1, .int (g_sm T 81 3)), (2, .int (g_sm T 84 3)), (3, .int (g_sm T 75 3)), (10, .int (nI (cnt T 24))), (11, .int (nI 0)), (12, .int (nI 1)), (0, .ref (z.o))]) hx hb dL_areSums_336 hl (by decide) rfl (fun ls hl => ?_)
          refine lv_iload hx hb dL_areSums_338 (lv_at hl 4 rfl) ?_
          refine lv_aload_n hx hb dL_areSums_340 rfl (lv_at hl 13 rfl) ?_
          refine lv_iload hx hb dL_areSums_341 (lv_at hl 3 rfl) ?_
          refine lv_bipush (v := nI 7) hx hb dL_areSums_343 (by decide) ?_
          refine q_ciK (BH := fun _ => True) (va_runV (rm := { frames := 1, cells := 0, slots := 0, locals := 23 }) (As := [.int (nI i), .int (nI 7)]) (rest := [.int (g_sm T 56 i)]) ⟨hx, hb, hml, hown, hts⟩ (m2_guest_ok l D z ol sn 0 T S Y G 0 P ch B hI i (by omega) 7 (by omega)) (cwV 2 hts gL_areSums_X2_guest rfl rfl rfl (by decide +kernel) ⟨Nat.le_of_ble_eq_true rfl, Nat.le_of_ble_eq_true rfl⟩) (q_pV (ci := 2) (q0 := 0) hP hK rfl rfl) rfl rfl hl.1 rfl (lv_room (Nat.le_of_ble_eq_true rfl)) dL_areSums_345 ⟨Nat.le_of_ble_eq_true rfl, Nat.le_of_ble_eq_true rfl⟩) (fun t h => trivial) hS (fun q h => h.elim) (fun x77 H locs e77 _ hk hS => ?_)
          have hP := k_kp hP hk
          have e77 : x77 = (T (56 + i)) := e77
          subst e77
          refine lv_iadd hx hb dL_areSums_348 ?_
          refine lv_istore (lv' := [(6, .int ((g_sm T 56 i) + (T (56 + i)))), (5, .int ((g_sm T 48 i) + (T (48 + i)))), (8, .int ((g_sm T 40 i) + (T (40 + i)))), (4, .int ((g_sm T 8 i) + (T (8 + i)))), (13, .int (nI i)), (7, .int (g_sm T 64 i)), (9, .int (g_sm T 24 i)), (1, .int (g_sm T 81 3)), (2, .int (g_sm T 84 3)), (3, .int (g_sm T 75 3)), (10, .int (nI (cnt T 24))), (11, .int (nI 0)), (12, .int (nI 1)), (0, .ref (z.o))]) hx hb dL_areSums_349 hl (by decide) rfl (fun ls hl => ?_)
          refine lv_iload hx hb dL_areSums_351 (lv_at hl 5 rfl) ?_
          refine lv_aload_n hx hb dL_areSums_353 rfl (lv_at hl 13 rfl) ?_
          refine lv_iload hx hb dL_areSums_354 (lv_at hl 4 rfl) ?_
          refine lv_bipush (v := nI 8) hx hb dL_areSums_356 (by decide) ?_
          refine q_ciK (BH := fun _ => True) (va_runV (rm := { frames := 1, cells := 0, slots := 0, locals := 23 }) (As := [.int (nI i), .int (nI 8)]) (rest := [.int (g_sm T 64 i)]) ⟨hx, hb, hml, hown, hts⟩ (m2_guest_ok l D z ol sn 0 T S Y G 0 P ch B hI i (by omega) 8 (by omega)) (cwV 2 hts gL_areSums_X2_guest rfl rfl rfl (by decide +kernel) ⟨Nat.le_of_ble_eq_true rfl, Nat.le_of_ble_eq_true rfl⟩) (q_pV (ci := 2) (q0 := 0) hP hK rfl rfl) rfl rfl hl.1 rfl (lv_room (Nat.le_of_ble_eq_true rfl)) dL_areSums_358 ⟨Nat.le_of_ble_eq_true rfl, Nat.le_of_ble_eq_true rfl⟩) (fun t h => trivial) hS (fun q h => h.elim) (fun x78 H locs e78 _ hk hS => ?_)
          have hP := k_kp hP hk
          have e78 : x78 = (T (64 + i)) := e78
          subst e78
          refine lv_iadd hx hb dL_areSums_361 ?_
          refine lv_istore (lv' := [(7, .int ((g_sm T 64 i) + (T (64 + i)))), (6, .int ((g_sm T 56 i) + (T (56 + i)))), (5, .int ((g_sm T 48 i) + (T (48 + i)))), (8, .int ((g_sm T 40 i) + (T (40 + i)))), (4, .int ((g_sm T 8 i) + (T (8 + i)))), (13, .int (nI i)), (9, .int (g_sm T 24 i)), (1, .int (g_sm T 81 3)), (2, .int (g_sm T 84 3)), (3, .int (g_sm T 75 3)), (10, .int (nI (cnt T 24))), (11, .int (nI 0)), (12, .int (nI 1)), (0, .ref (z.o))]) hx hb dL_areSums_362 hl (by decide) rfl (fun ls hl => ?_)
          refine lv_iload hx hb dL_areSums_364 (lv_at hl 6 rfl) ?_
          refine lv_aload_n hx hb dL_areSums_366 rfl (lv_at hl 13 rfl) ?_
          refine lv_iload hx hb dL_areSums_367 (lv_at hl 5 rfl) ?_
          refine lv_iconst (v := nI 3) hx hb dL_areSums_369 (by decide) ?_
          refine q_ciK (BH := fun _ => True) (va_runV (rm := { frames := 1, cells := 0, slots := 0, locals := 23 }) (As := [.int (nI i), .int (nI 3)]) (rest := [.int (g_sm T 24 i)]) ⟨hx, hb, hml, hown, hts⟩ (m2_guest_ok l D z ol sn 0 T S Y G 0 P ch B hI i (by omega) 3 (by omega)) (cwV 2 hts gL_areSums_X2_guest rfl rfl rfl (by decide +kernel) ⟨Nat.le_of_ble_eq_true rfl, Nat.le_of_ble_eq_true rfl⟩) (q_pV (ci := 2) (q0 := 0) hP hK rfl rfl) rfl rfl hl.1 rfl (lv_room (Nat.le_of_ble_eq_true rfl)) dL_areSums_370 ⟨Nat.le_of_ble_eq_true rfl, Nat.le_of_ble_eq_true rfl⟩) (fun t h => trivial) hS (fun q h => h.elim) (fun x79 H locs e79 _ hk hS => ?_)
          have hP := k_kp hP hk
          have e79 : x79 = (T (24 + i)) := e79
          subst e79
          refine lv_iadd hx hb dL_areSums_373 ?_
          refine lv_istore (lv' := [(9, .int ((g_sm T 24 i) + (T (24 + i)))), (7, .int ((g_sm T 64 i) + (T (64 + i)))), (6, .int ((g_sm T 56 i) + (T (56 + i)))), (5, .int ((g_sm T 48 i) + (T (48 + i)))), (8, .int ((g_sm T 40 i) + (T (40 + i)))), (4, .int ((g_sm T 8 i) + (T (8 + i)))), (13, .int (nI i)), (1, .int (g_sm T 81 3)), (2, .int (g_sm T 84 3)), (3, .int (g_sm T 75 3)), (10, .int (nI (cnt T 24))), (11, .int (nI 0)), (12, .int (nI 1)), (0, .ref (z.o))]) hx hb dL_areSums_374 hl (by decide) rfl (fun ls hl => ?_)
          refine lv_iload hx hb dL_areSums_376 (lv_at hl 12 rfl) ?_
          refine lv_if_eq (tgt := 488) hx hb dL_areSums_378 (by decide) (fun c80 => absurd c80 (by decide)) (fun c80 => ?_)
          refine lv_aload_n hx hb dL_areSums_381 rfl (lv_at hl 13 rfl) ?_
          refine lv_iload hx hb dL_areSums_382 (lv_at hl 6 rfl) ?_
          refine lv_iconst (v := nI 1) hx hb dL_areSums_384 (by decide) ?_
          refine q_ciK (BH := fun _ => True) (va_runV (rm := { frames := 1, cells := 0, slots := 0, locals := 23 }) (As := [.int (nI i), .int (nI 1)]) (rest := []) ⟨hx, hb, hml, hown, hts⟩ (m2_guest_ok l D z ol sn 0 T S Y G 0 P ch B hI i (by omega) 1 (by omega)) (cwV 2 hts gL_areSums_X2_guest rfl rfl rfl (by decide +kernel) ⟨Nat.le_of_ble_eq_true rfl, Nat.le_of_ble_eq_true rfl⟩) (q_pV (ci := 2) (q0 := 0) hP hK rfl rfl) rfl rfl hl.1 rfl (lv_room (Nat.le_of_ble_eq_true rfl)) dL_areSums_385 ⟨Nat.le_of_ble_eq_true rfl, Nat.le_of_ble_eq_true rfl⟩) (fun t h => trivial) hS (fun q h => h.elim) (fun x81 H locs e81 _ hk hS => ?_)
          have hP := k_kp hP hk
          have e81 : x81 = (T (8 + i)) := e81
          subst e81
          refine lv_if_lt (tgt := 488) hx hb dL_areSums_388 (by decide) (fun c82 => absurd c82 (fun z => by have := hI.2.1 i (by omega); rw [t_lt, t_0] at z; omega)) (fun c82 => ?_)
          refine lv_aload_n hx hb dL_areSums_391 rfl (lv_at hl 13 rfl) ?_
          refine lv_iload hx hb dL_areSums_392 (lv_at hl 6 rfl) ?_
          refine lv_iconst (v := nI 1) hx hb dL_areSums_394 (by decide) ?_
          refine q_ciK (BH := fun _ => True) (va_runV (rm := { frames := 1, cells := 0, slots := 0, locals := 23 }) (As := [.int (nI i), .int (nI 1)]) (rest := []) ⟨hx, hb, hml, hown, hts⟩ (m2_guest_ok l D z ol sn 0 T S Y G 0 P ch B hI i (by omega) 1 (by omega)) (cwV 2 hts gL_areSums_X2_guest rfl rfl rfl (by decide +kernel) ⟨Nat.le_of_ble_eq_true rfl, Nat.le_of_ble_eq_true rfl⟩) (q_pV (ci := 2) (q0 := 0) hP hK rfl rfl) rfl rfl hl.1 rfl (lv_room (Nat.le_of_ble_eq_true rfl)) dL_areSums_395 ⟨Nat.le_of_ble_eq_true rfl, Nat.le_of_ble_eq_true rfl⟩) (fun t h => trivial) hS (fun q h => h.elim) (fun x83 H locs e83 _ hk hS => ?_)
          have hP := k_kp hP hk
          have e83 : x83 = (T (8 + i)) := e83
          subst e83
          refine lv_aload_n hx hb dL_areSums_398 rfl (lv_at hl 13 rfl) ?_
          refine lv_iload hx hb dL_areSums_399 (lv_at hl 6 rfl) ?_
          refine lv_iconst (v := nI 0) hx hb dL_areSums_401 (by decide) ?_
          refine q_ciK (BH := fun _ => True) (va_runV (rm := { frames := 1, cells := 0, slots := 0, locals := 23 }) (As := [.int (nI i), .int (nI 0)]) (rest := [.int (T (8 + i))]) ⟨hx, hb, hml, hown, hts⟩ (m2_guest_ok l D z ol sn 0 T S Y G 0 P ch B hI i (by omega) 0 (by omega)) (cwV 2 hts gL_areSums_X2_guest rfl rfl rfl (by decide +kernel) ⟨Nat.le_of_ble_eq_true rfl, Nat.le_of_ble_eq_true rfl⟩) (q_pV (ci := 2) (q0 := 0) hP hK rfl rfl) rfl rfl hl.1 rfl (lv_room (Nat.le_of_ble_eq_true rfl)) dL_areSums_402 ⟨Nat.le_of_ble_eq_true rfl, Nat.le_of_ble_eq_true rfl⟩) (fun t h => trivial) hS (fun q h => h.elim) (fun x84 H locs e84 _ hk hS => ?_)
          have hP := k_kp hP hk
          have e84 : x84 = (T i) := (show _ = T (8 * 0 + i) from e84).trans (by rw [Nat.mul_zero, Nat.zero_add])
          subst e84
          refine lv_icmp_gt (tgt := 488) hx hb dL_areSums_405 (by decide) (fun c85 => absurd c85 (fun z => by have := hI.2.1 i (by omega); rw [t_lt] at z; omega)) (fun c85 => ?_)
          refine lv_aload_n hx hb dL_areSums_408 rfl (lv_at hl 13 rfl) ?_
          refine lv_iload hx hb dL_areSums_409 (lv_at hl 6 rfl) ?_
          refine lv_iconst (v := nI 3) hx hb dL_areSums_411 (by decide) ?_
          refine q_ciK (BH := fun _ => True) (va_runV (rm := { frames := 1, cells := 0, slots := 0, locals := 23 }) (As := [.int (nI i), .int (nI 3)]) (rest := []) ⟨hx, hb, hml, hown, hts⟩ (m2_guest_ok l D z ol sn 0 T S Y G 0 P ch B hI i (by omega) 3 (by omega)) (cwV 2 hts gL_areSums_X2_guest rfl rfl rfl (by decide +kernel) ⟨Nat.le_of_ble_eq_true rfl, Nat.le_of_ble_eq_true rfl⟩) (q_pV (ci := 2) (q0 := 0) hP hK rfl rfl) rfl rfl hl.1 rfl (lv_room (Nat.le_of_ble_eq_true rfl)) dL_areSums_412 ⟨Nat.le_of_ble_eq_true rfl, Nat.le_of_ble_eq_true rfl⟩) (fun t h => trivial) hS (fun q h => h.elim) (fun x86 H locs e86 _ hk hS => ?_)
          have hP := k_kp hP hk
          have e86 : x86 = (T (24 + i)) := e86
          subst e86
          refine lv_if_lt (tgt := 488) hx hb dL_areSums_415 (by decide) (fun c87 => absurd c87 (fun z => by have := hI.2.2.2.1 i (by omega); rw [t_lt, t_0] at z; omega)) (fun c87 => ?_)
          refine lv_aload_n hx hb dL_areSums_418 rfl (lv_at hl 13 rfl) ?_
          refine lv_iload hx hb dL_areSums_419 (lv_at hl 6 rfl) ?_
          refine lv_iconst (v := nI 3) hx hb dL_areSums_421 (by decide) ?_
          refine q_ciK (BH := fun _ => True) (va_runV (rm := { frames := 1, cells := 0, slots := 0, locals := 23 }) (As := [.int (nI i), .int (nI 3)]) (rest := []) ⟨hx, hb, hml, hown, hts⟩ (m2_guest_ok l D z ol sn 0 T S Y G 0 P ch B hI i (by omega) 3 (by omega)) (cwV 2 hts gL_areSums_X2_guest rfl rfl rfl (by decide +kernel) ⟨Nat.le_of_ble_eq_true rfl, Nat.le_of_ble_eq_true rfl⟩) (q_pV (ci := 2) (q0 := 0) hP hK rfl rfl) rfl rfl hl.1 rfl (lv_room (Nat.le_of_ble_eq_true rfl)) dL_areSums_422 ⟨Nat.le_of_ble_eq_true rfl, Nat.le_of_ble_eq_true rfl⟩) (fun t h => trivial) hS (fun q h => h.elim) (fun x88 H locs e88 _ hk hS => ?_)
          have hP := k_kp hP hk
          have e88 : x88 = (T (24 + i)) := e88
          subst e88
          refine lv_bipush (v := nI 11) hx hb dL_areSums_425 (by decide) ?_
          refine lv_icmp_ge (tgt := 488) hx hb dL_areSums_427 (by decide) (fun c89 => absurd c89 (fun z => by have := hI.2.2.2.1 i (by omega); rw [t_le, t_nI (n := 11) (by omega)] at z; omega)) (fun c89 => ?_)
          refine lv_aload_n hx hb dL_areSums_430 rfl (lv_at hl 13 rfl) ?_
          refine lv_iload hx hb dL_areSums_431 (lv_at hl 6 rfl) ?_
          refine lv_bipush (v := nI 8) hx hb dL_areSums_433 (by decide) ?_
          refine q_ciK (BH := fun _ => True) (va_runV (rm := { frames := 1, cells := 0, slots := 0, locals := 23 }) (As := [.int (nI i), .int (nI 8)]) (rest := []) ⟨hx, hb, hml, hown, hts⟩ (m2_guest_ok l D z ol sn 0 T S Y G 0 P ch B hI i (by omega) 8 (by omega)) (cwV 2 hts gL_areSums_X2_guest rfl rfl rfl (by decide +kernel) ⟨Nat.le_of_ble_eq_true rfl, Nat.le_of_ble_eq_true rfl⟩) (q_pV (ci := 2) (q0 := 0) hP hK rfl rfl) rfl rfl hl.1 rfl (lv_room (Nat.le_of_ble_eq_true rfl)) dL_areSums_435 ⟨Nat.le_of_ble_eq_true rfl, Nat.le_of_ble_eq_true rfl⟩) (fun t h => trivial) hS (fun q h => h.elim) (fun x90 H locs e90 _ hk hS => ?_)
          have hP := k_kp hP hk
          have e90 : x90 = (T (64 + i)) := e90
          subst e90
          refine lv_aload_n hx hb dL_areSums_438 rfl (lv_at hl 13 rfl) ?_
          refine lv_iload hx hb dL_areSums_439 (lv_at hl 6 rfl) ?_
          refine lv_iconst (v := nI 1) hx hb dL_areSums_441 (by decide) ?_
          refine q_ciK (BH := fun _ => True) (va_runV (rm := { frames := 1, cells := 0, slots := 0, locals := 23 }) (As := [.int (nI i), .int (nI 1)]) (rest := [.int (T (64 + i))]) ⟨hx, hb, hml, hown, hts⟩ (m2_guest_ok l D z ol sn 0 T S Y G 0 P ch B hI i (by omega) 1 (by omega)) (cwV 2 hts gL_areSums_X2_guest rfl rfl rfl (by decide +kernel) ⟨Nat.le_of_ble_eq_true rfl, Nat.le_of_ble_eq_true rfl⟩) (q_pV (ci := 2) (q0 := 0) hP hK rfl rfl) rfl rfl hl.1 rfl (lv_room (Nat.le_of_ble_eq_true rfl)) dL_areSums_442 ⟨Nat.le_of_ble_eq_true rfl, Nat.le_of_ble_eq_true rfl⟩) (fun t h => trivial) hS (fun q h => h.elim) (fun x91 H locs e91 _ hk hS => ?_)
          have hP := k_kp hP hk
          have e91 : x91 = (T (8 + i)) := e91
          subst e91
          refine lv_aload_n hx hb dL_areSums_445 rfl (lv_at hl 13 rfl) ?_
          refine lv_iload hx hb dL_areSums_446 (lv_at hl 6 rfl) ?_
          refine lv_bipush (v := nI 6) hx hb dL_areSums_448 (by decide) ?_
          refine q_ciK (BH := fun _ => True) (va_runV (rm := { frames := 1, cells := 0, slots := 0, locals := 23 }) (As := [.int (nI i), .int (nI 6)]) (rest := [.int (T (8 + i)), .int (T (64 + i))]) ⟨hx, hb, hml, hown, hts⟩ (m2_guest_ok l D z ol sn 0 T S Y G 0 P ch B hI i (by omega) 6 (by omega)) (cwV 2 hts gL_areSums_X2_guest rfl rfl rfl (by decide +kernel) ⟨Nat.le_of_ble_eq_true rfl, Nat.le_of_ble_eq_true rfl⟩) (q_pV (ci := 2) (q0 := 0) hP hK rfl rfl) rfl rfl hl.1 rfl (lv_room (Nat.le_of_ble_eq_true rfl)) dL_areSums_450 ⟨Nat.le_of_ble_eq_true rfl, Nat.le_of_ble_eq_true rfl⟩) (fun t h => trivial) hS (fun q h => h.elim) (fun x92 H locs e92 _ hk hS => ?_)
          have hP := k_kp hP hk
          have e92 : x92 = (T (48 + i)) := e92
          subst e92
          refine lv_iadd hx hb dL_areSums_453 ?_
          refine lv_aload_n hx hb dL_areSums_454 rfl (lv_at hl 13 rfl) ?_
          refine lv_iload hx hb dL_areSums_455 (lv_at hl 6 rfl) ?_
          refine lv_bipush (v := nI 7) hx hb dL_areSums_457 (by decide) ?_
          refine q_ciK (BH := fun _ => True) (va_runV (rm := { frames := 1, cells := 0, slots := 0, locals := 23 }) (As := [.int (nI i), .int (nI 7)]) (rest := [.int ((T (8 + i)) + (T (48 + i))), .int (T (64 + i))]) ⟨hx, hb, hml, hown, hts⟩ (m2_guest_ok l D z ol sn 0 T S Y G 0 P ch B hI i (by omega) 7 (by omega)) (cwV 2 hts gL_areSums_X2_guest rfl rfl rfl (by decide +kernel) ⟨Nat.le_of_ble_eq_true rfl, Nat.le_of_ble_eq_true rfl⟩) (q_pV (ci := 2) (q0 := 0) hP hK rfl rfl) rfl rfl hl.1 rfl (lv_room (Nat.le_of_ble_eq_true rfl)) dL_areSums_459 ⟨Nat.le_of_ble_eq_true rfl, Nat.le_of_ble_eq_true rfl⟩) (fun t h => trivial) hS (fun q h => h.elim) (fun x93 H locs e93 _ hk hS => ?_)
          have hP := k_kp hP hk
          have e93 : x93 = (T (56 + i)) := e93
          subst e93
          refine lv_iadd hx hb dL_areSums_462 ?_
          refine lv_icmp_ne (tgt := 488) hx hb dL_areSums_463 (by decide) (fun c94 => absurd c94 (fun z => z (hj1 i (by omega)))) (fun c94 => ?_)
          refine lv_aload_n hx hb dL_areSums_466 rfl (lv_at hl 13 rfl) ?_
          refine lv_iload hx hb dL_areSums_467 (lv_at hl 6 rfl) ?_
          refine lv_iconst (v := nI 5) hx hb dL_areSums_469 (by decide) ?_
          refine q_ciK (BH := fun _ => True) (va_runV (rm := { frames := 1, cells := 0, slots := 0, locals := 23 }) (As := [.int (nI i), .int (nI 5)]) (rest := []) ⟨hx, hb, hml, hown, hts⟩ (m2_guest_ok l D z ol sn 0 T S Y G 0 P ch B hI i (by omega) 5 (by omega)) (cwV 2 hts gL_areSums_X2_guest rfl rfl rfl (by decide +kernel) ⟨Nat.le_of_ble_eq_true rfl, Nat.le_of_ble_eq_true rfl⟩) (q_pV (ci := 2) (q0 := 0) hP hK rfl rfl) rfl rfl hl.1 rfl (lv_room (Nat.le_of_ble_eq_true rfl)) dL_areSums_470 ⟨Nat.le_of_ble_eq_true rfl, Nat.le_of_ble_eq_true rfl⟩) (fun t h => trivial) hS (fun q h => h.elim) (fun x95 H locs e95 _ hk hS => ?_)
          have hP := k_kp hP hk
          have e95 : x95 = (T (40 + i)) := e95
          subst e95
          refine lv_aload_n hx hb dL_areSums_473 rfl (lv_at hl 13 rfl) ?_
          refine lv_iload hx hb dL_areSums_474 (lv_at hl 6 rfl) ?_
          refine lv_bipush (v := nI 7) hx hb dL_areSums_476 (by decide) ?_
          refine q_ciK (BH := fun _ => True) (va_runV (rm := { frames := 1, cells := 0, slots := 0, locals := 23 }) (As := [.int (nI i), .int (nI 7)]) (rest := [.int (T (40 + i))]) ⟨hx, hb, hml, hown, hts⟩ (m2_guest_ok l D z ol sn 0 T S Y G 0 P ch B hI i (by omega) 7 (by omega)) (cwV 2 hts gL_areSums_X2_guest rfl rfl rfl (by decide +kernel) ⟨Nat.le_of_ble_eq_true rfl, Nat.le_of_ble_eq_true rfl⟩) (q_pV (ci := 2) (q0 := 0) hP hK rfl rfl) rfl rfl hl.1 rfl (lv_room (Nat.le_of_ble_eq_true rfl)) dL_areSums_478 ⟨Nat.le_of_ble_eq_true rfl, Nat.le_of_ble_eq_true rfl⟩) (fun t h => trivial) hS (fun q h => h.elim) (fun x96 H locs e96 _ hk hS => ?_)
          have hP := k_kp hP hk
          have e96 : x96 = (T (56 + i)) := e96
          subst e96
          refine lv_icmp_gt (tgt := 488) hx hb dL_areSums_481 (by decide) (fun c97 => absurd c97 (fun z => by have := hj2 i (by omega); rw [t_lt] at z; omega)) (fun c97 => ?_)
          refine lv_iconst (v := nI 1) hx hb dL_areSums_484 (by decide) ?_
          refine lv_goto (tgt := 489) hx hb dL_areSums_485 (by decide) ?_
          refine lv_istore (lv' := [(12, .int (nI 1)), (9, .int ((g_sm T 24 i) + (T (24 + i)))), (7, .int ((g_sm T 64 i) + (T (64 + i)))), (6, .int ((g_sm T 56 i) + (T (56 + i)))), (5, .int ((g_sm T 48 i) + (T (48 + i)))), (8, .int ((g_sm T 40 i) + (T (40 + i)))), (4, .int ((g_sm T 8 i) + (T (8 + i)))), (13, .int (nI i)), (1, .int (g_sm T 81 3)), (2, .int (g_sm T 84 3)), (3, .int (g_sm T 75 3)), (10, .int (nI (cnt T 24))), (11, .int (nI 0)), (0, .ref (z.o))]) hx hb dL_areSums_489 hl (by decide) rfl (fun ls hl => ?_)
          refine lv_iinc (v := (nI (i + 1))) (lv' := [(13, .int (nI (i + 1))), (12, .int (nI 1)), (9, .int ((g_sm T 24 i) + (T (24 + i)))), (7, .int ((g_sm T 64 i) + (T (64 + i)))), (6, .int ((g_sm T 56 i) + (T (56 + i)))), (5, .int ((g_sm T 48 i) + (T (48 + i)))), (8, .int ((g_sm T 40 i) + (T (40 + i)))), (4, .int ((g_sm T 8 i) + (T (8 + i)))), (1, .int (g_sm T 81 3)), (2, .int (g_sm T 84 3)), (3, .int (g_sm T 75 3)), (10, .int (nI (cnt T 24))), (11, .int (nI 0)), (0, .ref (z.o))]) hx hb dL_areSums_491 hl (k := 7) rfl (q_inc i 1 (i + 1) (by omega)) (by decide) rfl (fun ls hl => ?_)
          refine lv_goto (tgt := 294) hx hb dL_areSums_494 (by decide) ?_
          exact ih (i + 1) _ _ _ (by omega) hP hS (lv_sub hl [0, 7, 6, 5, 4, 3, 2, 8, 9, 10, 11, 12, 1, 13] rfl)
      exact LC 8 0 _ _ _ (by omega) hP hS (lv_sub hl [0, 4, 8, 5, 6, 7, 9, 1, 2, 3, 10, 11, 12, 13] rfl)
    | succ n ih =>
      intro i H locs ls hi hP hS hl
      refine lv_iload hx hb dL_areSums_36 (lv_at hl 0 rfl) ?_
      refine lv_iconst (v := nI 3) hx hb dL_areSums_38 (by decide) ?_
      refine q_geN (tgt := 291) hx hb (by omega) (by omega) dL_areSums_39 (by decide) (fun c98 => absurd c98 (by omega)) (fun c98 => ?_)
      have h8 := hI.hN8 (k := i) (by omega)
      refine lv_aload_n hx hb dL_areSums_42 rfl (lv_at hl 13 rfl) ?_
      refine lv_iload hx hb dL_areSums_43 (lv_at hl 0 rfl) ?_
      refine lv_iconst (v := nI 1) hx hb dL_areSums_45 (by decide) ?_
      refine q_ciK (BH := fun _ => True) (va_runV (rm := { frames := 2, cells := 0, slots := 0, locals := 44 }) (As := [.int (nI i), .int (nI 1)]) (rest := []) ⟨hx, hb, hml, hown, hts⟩ (m2_pot_ok l D z ol sn 0 T S Y G 0 P ch B hI i (by omega) 1 (by omega)) (cwV 2 hts gL_areSums_X2_pot rfl rfl rfl (by decide +kernel) ⟨Nat.le_of_ble_eq_true rfl, Nat.le_of_ble_eq_true rfl⟩) (q_pV (ci := 2) (q0 := 0) hP hK rfl rfl) rfl rfl hl.1 rfl (lv_room (Nat.le_of_ble_eq_true rfl)) dL_areSums_46 ⟨Nat.le_of_ble_eq_true rfl, Nat.le_of_ble_eq_true rfl⟩) (fun t h => trivial) hS (fun q h => h.elim) (fun x99 H locs e99 _ hk hS => ?_)
      have hP := k_kp hP hk
      have e99 : x99 = (T (75 + i)) := e99
      subst e99
      refine lv_istore (lv' := [(14, .int (T (75 + i))), (13, .int (nI i)), (1, .int (g_sm T 81 i)), (2, .int (g_sm T 84 i)), (3, .int (g_sm T 75 i)), (4, .int (nI 0)), (5, .int (nI 0)), (6, .int (nI 0)), (7, .int (nI 0)), (8, .int (nI 0)), (9, .int (nI 0)), (10, .int (nI (cnt T (8 * i)))), (11, .int (nI 0)), (12, .int (nI 1)), (0, .ref (z.o))]) hx hb dL_areSums_49 hl (by decide) rfl (fun ls hl => ?_)
      refine lv_iload_n hx hb dL_areSums_51 rfl (lv_at hl 4 rfl) ?_
      refine lv_iload hx hb dL_areSums_52 (lv_at hl 0 rfl) ?_
      refine lv_iadd hx hb dL_areSums_54 ?_
      refine lv_istore_n (lv' := [(3, .int ((g_sm T 75 i) + (T (75 + i)))), (14, .int (T (75 + i))), (13, .int (nI i)), (1, .int (g_sm T 81 i)), (2, .int (g_sm T 84 i)), (4, .int (nI 0)), (5, .int (nI 0)), (6, .int (nI 0)), (7, .int (nI 0)), (8, .int (nI 0)), (9, .int (nI 0)), (10, .int (nI (cnt T (8 * i)))), (11, .int (nI 0)), (12, .int (nI 1)), (0, .ref (z.o))]) hx hb dL_areSums_55 rfl hl (by decide) rfl (fun ls hl => ?_)
      refine lv_iload_n hx hb dL_areSums_56 rfl (lv_at hl 3 rfl) ?_
      refine lv_aload_n hx hb dL_areSums_57 rfl (lv_at hl 14 rfl) ?_
      refine lv_iload hx hb dL_areSums_58 (lv_at hl 2 rfl) ?_
      refine lv_bipush (v := nI 6) hx hb dL_areSums_60 (by decide) ?_
      refine q_ciK (BH := fun _ => True) (va_runV (rm := { frames := 2, cells := 0, slots := 0, locals := 44 }) (As := [.int (nI i), .int (nI 6)]) (rest := [.int (g_sm T 81 i)]) ⟨hx, hb, hml, hown, hts⟩ (m2_pot_ok l D z ol sn 0 T S Y G 0 P ch B hI i (by omega) 6 (by omega)) (cwV 2 hts gL_areSums_X2_pot rfl rfl rfl (by decide +kernel) ⟨Nat.le_of_ble_eq_true rfl, Nat.le_of_ble_eq_true rfl⟩) (q_pV (ci := 2) (q0 := 0) hP hK rfl rfl) rfl rfl hl.1 rfl (lv_room (Nat.le_of_ble_eq_true rfl)) dL_areSums_62 ⟨Nat.le_of_ble_eq_true rfl, Nat.le_of_ble_eq_true rfl⟩) (fun t h => trivial) hS (fun q h => h.elim) (fun x100 H locs e100 _ hk hS => ?_)
      have hP := k_kp hP hk
      have e100 : x100 = (T (81 + i)) := e100
      subst e100
      refine lv_iadd hx hb dL_areSums_65 ?_
      refine lv_istore_n (lv' := [(1, .int ((g_sm T 81 i) + (T (81 + i)))), (3, .int ((g_sm T 75 i) + (T (75 + i)))), (14, .int (T (75 + i))), (13, .int (nI i)), (2, .int (g_sm T 84 i)), (4, .int (nI 0)), (5, .int (nI 0)), (6, .int (nI 0)), (7, .int (nI 0)), (8, .int (nI 0)), (9, .int (nI 0)), (10, .int (nI (cnt T (8 * i)))), (11, .int (nI 0)), (12, .int (nI 1)), (0, .ref (z.o))]) hx hb dL_areSums_66 rfl hl (by decide) rfl (fun ls hl => ?_)
      refine lv_iload_n hx hb dL_areSums_67 rfl (lv_at hl 4 rfl) ?_
      refine lv_aload_n hx hb dL_areSums_68 rfl (lv_at hl 14 rfl) ?_
      refine lv_iload hx hb dL_areSums_69 (lv_at hl 3 rfl) ?_
      refine lv_bipush (v := nI 7) hx hb dL_areSums_71 (by decide) ?_
      refine q_ciK (BH := fun _ => True) (va_runV (rm := { frames := 2, cells := 0, slots := 0, locals := 44 }) (As := [.int (nI i), .int (nI 7)]) (rest := [.int (g_sm T 84 i)]) ⟨hx, hb, hml, hown, hts⟩ (m2_pot_ok l D z ol sn 0 T S Y G 0 P ch B hI i (by omega) 7 (by omega)) (cwV 2 hts gL_areSums_X2_pot rfl rfl rfl (by decide +kernel) ⟨Nat.le_of_ble_eq_true rfl, Nat.le_of_ble_eq_true rfl⟩) (q_pV (ci := 2) (q0 := 0) hP hK rfl rfl) rfl rfl hl.1 rfl (lv_room (Nat.le_of_ble_eq_true rfl)) dL_areSums_73 ⟨Nat.le_of_ble_eq_true rfl, Nat.le_of_ble_eq_true rfl⟩) (fun t h => trivial) hS (fun q h => h.elim) (fun x101 H locs e101 _ hk hS => ?_)
      have hP := k_kp hP hk
      have e101 : x101 = (T (84 + i)) := e101
      subst e101
      refine lv_iadd hx hb dL_areSums_76 ?_
      refine lv_istore_n (lv' := [(2, .int ((g_sm T 84 i) + (T (84 + i)))), (1, .int ((g_sm T 81 i) + (T (81 + i)))), (3, .int ((g_sm T 75 i) + (T (75 + i)))), (14, .int (T (75 + i))), (13, .int (nI i)), (4, .int (nI 0)), (5, .int (nI 0)), (6, .int (nI 0)), (7, .int (nI 0)), (8, .int (nI 0)), (9, .int (nI 0)), (10, .int (nI (cnt T (8 * i)))), (11, .int (nI 0)), (12, .int (nI 1)), (0, .ref (z.o))]) hx hb dL_areSums_77 rfl hl (by decide) rfl (fun ls hl => ?_)
      refine lv_iload hx hb dL_areSums_78 (lv_at hl 13 rfl) ?_
      refine lv_if_eq (tgt := 186) hx hb dL_areSums_80 (by decide) (fun c102 => absurd c102 (by decide)) (fun c102 => ?_)
      refine lv_iload hx hb dL_areSums_83 (lv_at hl 3 rfl) ?_
      refine lv_if_lt (tgt := 186) hx hb dL_areSums_85 (by decide) (fun c103 => absurd c103 (fun z => by have := hI.2.2.2.2.2.2.2.1 i (by omega); rw [t_lt, t_0] at z; omega)) (fun c103 => ?_)
      refine lv_iload hx hb dL_areSums_88 (lv_at hl 3 rfl) ?_
      refine lv_sipush (v := nI 200) hx hb dL_areSums_90 (by decide) ?_
      refine lv_icmp_gt (tgt := 186) hx hb dL_areSums_93 (by decide) (fun c104 => absurd c104 (fun z => by have := hI.2.2.2.2.2.2.2.1 i (by omega); rw [t_lt, t_nI (n := 200) (by omega)] at z; omega)) (fun c104 => ?_)
      refine lv_aload_n hx hb dL_areSums_96 rfl (lv_at hl 14 rfl) ?_
      refine lv_iload hx hb dL_areSums_97 (lv_at hl 4 rfl) ?_
      refine lv_iconst (v := nI 2) hx hb dL_areSums_99 (by decide) ?_
      refine q_ciK (BH := fun _ => True) (va_runV (rm := { frames := 2, cells := 0, slots := 0, locals := 44 }) (As := [.int (nI i), .int (nI 2)]) (rest := []) ⟨hx, hb, hml, hown, hts⟩ (m2_pot_ok l D z ol sn 0 T S Y G 0 P ch B hI i (by omega) 2 (by omega)) (cwV 2 hts gL_areSums_X2_pot rfl rfl rfl (by decide +kernel) ⟨Nat.le_of_ble_eq_true rfl, Nat.le_of_ble_eq_true rfl⟩) (q_pV (ci := 2) (q0 := 0) hP hK rfl rfl) rfl rfl hl.1 rfl (lv_room (Nat.le_of_ble_eq_true rfl)) dL_areSums_100 ⟨Nat.le_of_ble_eq_true rfl, Nat.le_of_ble_eq_true rfl⟩) (fun t h => trivial) hS (fun q h => h.elim) (fun x105 H locs e105 _ hk hS => ?_)
      have hP := k_kp hP hk
      have e105 : x105 = (T (78 + i)) := e105
      subst e105
      refine lv_if_lt (tgt := 186) hx hb dL_areSums_103 (by decide) (fun c106 => absurd c106 (fun z => by have := hI.2.2.2.2.2.2.2.2.1 i (by omega); rw [t_lt, t_0] at z; omega)) (fun c106 => ?_)
      refine lv_aload_n hx hb dL_areSums_106 rfl (lv_at hl 14 rfl) ?_
      refine lv_iload hx hb dL_areSums_107 (lv_at hl 4 rfl) ?_
      refine lv_iconst (v := nI 2) hx hb dL_areSums_109 (by decide) ?_
      refine q_ciK (BH := fun _ => True) (va_runV (rm := { frames := 2, cells := 0, slots := 0, locals := 44 }) (As := [.int (nI i), .int (nI 2)]) (rest := []) ⟨hx, hb, hml, hown, hts⟩ (m2_pot_ok l D z ol sn 0 T S Y G 0 P ch B hI i (by omega) 2 (by omega)) (cwV 2 hts gL_areSums_X2_pot rfl rfl rfl (by decide +kernel) ⟨Nat.le_of_ble_eq_true rfl, Nat.le_of_ble_eq_true rfl⟩) (q_pV (ci := 2) (q0 := 0) hP hK rfl rfl) rfl rfl hl.1 rfl (lv_room (Nat.le_of_ble_eq_true rfl)) dL_areSums_110 ⟨Nat.le_of_ble_eq_true rfl, Nat.le_of_ble_eq_true rfl⟩) (fun t h => trivial) hS (fun q h => h.elim) (fun x107 H locs e107 _ hk hS => ?_)
      have hP := k_kp hP hk
      have e107 : x107 = (T (78 + i)) := e107
      subst e107
      refine lv_sipush (v := nI 200) hx hb dL_areSums_113 (by decide) ?_
      refine lv_icmp_gt (tgt := 186) hx hb dL_areSums_116 (by decide) (fun c108 => absurd c108 (fun z => by have := hI.2.2.2.2.2.2.2.2.1 i (by omega); rw [t_lt, t_nI (n := 200) (by omega)] at z; omega)) (fun c108 => ?_)
      refine lv_aload_n hx hb dL_areSums_119 rfl (lv_at hl 14 rfl) ?_
      refine lv_iload hx hb dL_areSums_120 (lv_at hl 4 rfl) ?_
      refine lv_iconst (v := nI 3) hx hb dL_areSums_122 (by decide) ?_
      refine q_ciK (BH := fun _ => True) (va_runV (rm := { frames := 2, cells := 0, slots := 0, locals := 44 }) (As := [.int (nI i), .int (nI 3)]) (rest := []) ⟨hx, hb, hml, hown, hts⟩ (m2_pot_ok l D z ol sn 0 T S Y G 0 P ch B hI i (by omega) 3 (by omega)) (cwV 2 hts gL_areSums_X2_pot rfl rfl rfl (by decide +kernel) ⟨Nat.le_of_ble_eq_true rfl, Nat.le_of_ble_eq_true rfl⟩) (q_pV (ci := 2) (q0 := 0) hP hK rfl rfl) rfl rfl hl.1 rfl (lv_room (Nat.le_of_ble_eq_true rfl)) dL_areSums_123 ⟨Nat.le_of_ble_eq_true rfl, Nat.le_of_ble_eq_true rfl⟩) (fun t h => trivial) hS (fun q h => h.elim) (fun x109 H locs e109 _ hk hS => ?_)
      have hP := k_kp hP hk
      have e109 : x109 = (g_wt T i) := e109
      subst e109
      refine lv_iload hx hb dL_areSums_126 (lv_at hl 3 rfl) ?_
      refine lv_iload hx hb dL_areSums_128 (lv_at hl 3 rfl) ?_
      refine lv_bipush (v := nI 20) hx hb dL_areSums_130 (by decide) ?_
      refine lv_irem hx hb dL_areSums_132 (by decide) ?_
      refine lv_isub hx hb dL_areSums_133 ?_
      refine lv_icmp_ne (tgt := 186) hx hb dL_areSums_134 (by decide) (fun c110 => absurd c110 (fun z => z rfl)) (fun c110 => ?_)
      refine lv_aload_n hx hb dL_areSums_137 rfl (lv_at hl 14 rfl) ?_
      refine lv_aload_n hx hb dL_areSums_138 rfl (lv_at hl 14 rfl) ?_
      refine lv_iload hx hb dL_areSums_139 (lv_at hl 4 rfl) ?_
      refine lv_iconst (v := nI 0) hx hb dL_areSums_141 (by decide) ?_
      refine q_ciK (BH := fun _ => True) (va_runV (rm := { frames := 2, cells := 0, slots := 0, locals := 44 }) (As := [.int (nI i), .int (nI 0)]) (rest := [.ref (z.o)]) ⟨hx, hb, hml, hown, hts⟩ (m2_pot_ok l D z ol sn 0 T S Y G 0 P ch B hI i (by omega) 0 (by omega)) (cwV 2 hts gL_areSums_X2_pot rfl rfl rfl (by decide +kernel) ⟨Nat.le_of_ble_eq_true rfl, Nat.le_of_ble_eq_true rfl⟩) (q_pV (ci := 2) (q0 := 0) hP hK rfl rfl) rfl rfl hl.1 rfl (lv_room (Nat.le_of_ble_eq_true rfl)) dL_areSums_142 ⟨Nat.le_of_ble_eq_true rfl, Nat.le_of_ble_eq_true rfl⟩) (fun t h => trivial) hS (fun q h => h.elim) (fun x111 H locs e111 _ hk hS => ?_)
      have hP := k_kp hP hk
      have e111 : x111 = (nI ((hN T i))) := (show _ = T (72 + i) from e111).trans (hI.ok1 (by omega)).1
      subst e111
      refine lv_bipush (v := nI 9) hx hb dL_areSums_145 (by decide) ?_
      refine q_ciK (BH := fun _ => True) (va_runV (rm := { frames := 1, cells := 0, slots := 0, locals := 23 }) (As := [.int (nI ((hN T i))), .int (nI 9)]) (rest := []) ⟨hx, hb, hml, hown, hts⟩ (m2_guest_ok l D z ol sn 0 T S Y G 0 P ch B hI ((hN T i)) (by omega) 9 (by omega)) (cwV 2 hts gL_areSums_X2_guest rfl rfl rfl (by decide +kernel) ⟨Nat.le_of_ble_eq_true rfl, Nat.le_of_ble_eq_true rfl⟩) (q_pV (ci := 2) (q0 := 0) hP hK rfl rfl) rfl rfl hl.1 rfl (lv_room (Nat.le_of_ble_eq_true rfl)) dL_areSums_147 ⟨Nat.le_of_ble_eq_true rfl, Nat.le_of_ble_eq_true rfl⟩) (fun t h => trivial) hS (fun q h => h.elim) (fun x112 H locs e112 _ hk hS => ?_)
      have hP := k_kp hP hk
      have e112 : x112 = (g_mk T ((hN T i)) 3) := e112
      subst e112
      refine lv_iload hx hb dL_areSums_150 (lv_at hl 4 rfl) ?_
      refine lv_ishr hx hb dL_areSums_152 ?_
      refine lv_iconst (v := nI 1) hx hb dL_areSums_153 (by decide) ?_
      refine lv_iand hx hb dL_areSums_154 ?_
      refine lv_iconst (v := nI 1) hx hb dL_areSums_155 (by decide) ?_
      refine lv_icmp_ne (tgt := 186) hx hb dL_areSums_156 (by decide) (fun c113 => absurd c113 (fun z => z (mk_bit (by omega) (hI.ok1 (by omega)).1))) (fun c113 => ?_)
      refine lv_aload_n hx hb dL_areSums_159 rfl (lv_at hl 14 rfl) ?_
      refine lv_iload hx hb dL_areSums_160 (lv_at hl 4 rfl) ?_
      refine lv_iconst (v := nI 4) hx hb dL_areSums_162 (by decide) ?_
      refine q_ciK (BH := fun _ => True) (va_runV (rm := { frames := 2, cells := 0, slots := 0, locals := 44 }) (As := [.int (nI i), .int (nI 4)]) (rest := []) ⟨hx, hb, hml, hown, hts⟩ (m2_pot_ok l D z ol sn 0 T S Y G 0 P ch B hI i (by omega) 4 (by omega)) (cwV 2 hts gL_areSums_X2_pot rfl rfl rfl (by decide +kernel) ⟨Nat.le_of_ble_eq_true rfl, Nat.le_of_ble_eq_true rfl⟩) (q_pV (ci := 2) (q0 := 0) hP hK rfl rfl) rfl rfl hl.1 rfl (lv_room (Nat.le_of_ble_eq_true rfl)) dL_areSums_163 ⟨Nat.le_of_ble_eq_true rfl, Nat.le_of_ble_eq_true rfl⟩) (fun t h => trivial) hS (fun q h => h.elim) (fun x114 H locs e114 _ hk hS => ?_)
      have hP := k_kp hP hk
      have e114 : x114 = (g_gs T i) := e114
      subst e114
      refine lv_sipush (v := nI 200) hx hb dL_areSums_166 (by decide) ?_
      refine lv_icmp_gt (tgt := 186) hx hb dL_areSums_169 (by decide) (fun c115 => absurd c115 (fun z => by have := hI.gs (k := i) (by omega); rw [t_lt, t_nI (n := 200) (by omega)] at z; omega)) (fun c115 => ?_)
      refine lv_aload_n hx hb dL_areSums_172 rfl (lv_at hl 14 rfl) ?_
      refine lv_iload hx hb dL_areSums_173 (lv_at hl 4 rfl) ?_
      refine lv_iconst (v := nI 4) hx hb dL_areSums_175 (by decide) ?_
      refine q_ciK (BH := fun _ => True) (va_runV (rm := { frames := 2, cells := 0, slots := 0, locals := 44 }) (As := [.int (nI i), .int (nI 4)]) (rest := []) ⟨hx, hb, hml, hown, hts⟩ (m2_pot_ok l D z ol sn 0 T S Y G 0 P ch B hI i (by omega) 4 (by omega)) (cwV 2 hts gL_areSums_X2_pot rfl rfl rfl (by decide +kernel) ⟨Nat.le_of_ble_eq_true rfl, Nat.le_of_ble_eq_true rfl⟩) (q_pV (ci := 2) (q0 := 0) hP hK rfl rfl) rfl rfl hl.1 rfl (lv_room (Nat.le_of_ble_eq_true rfl)) dL_areSums_176 ⟨Nat.le_of_ble_eq_true rfl, Nat.le_of_ble_eq_true rfl⟩) (fun t h => trivial) hS (fun q h => h.elim) (fun x116 H locs e116 _ hk hS => ?_)
      have hP := k_kp hP hk
      have e116 : x116 = (g_gs T i) := e116
      subst e116
      refine lv_if_lt (tgt := 186) hx hb dL_areSums_179 (by decide) (fun c117 => absurd c117 (fun z => by have := hI.gs (k := i) (by omega); rw [t_lt, t_0] at z; omega)) (fun c117 => ?_)
      refine lv_iconst (v := nI 1) hx hb dL_areSums_182 (by decide) ?_
      refine lv_goto (tgt := 187) hx hb dL_areSums_183 (by decide) ?_
      refine lv_istore (lv' := [(12, .int (nI 1)), (2, .int ((g_sm T 84 i) + (T (84 + i)))), (1, .int ((g_sm T 81 i) + (T (81 + i)))), (3, .int ((g_sm T 75 i) + (T (75 + i)))), (14, .int (T (75 + i))), (13, .int (nI i)), (4, .int (nI 0)), (5, .int (nI 0)), (6, .int (nI 0)), (7, .int (nI 0)), (8, .int (nI 0)), (9, .int (nI 0)), (10, .int (nI (cnt T (8 * i)))), (11, .int (nI 0)), (0, .ref (z.o))]) hx hb dL_areSums_187 hl (by decide) rfl (fun ls hl => ?_)
      refine lv_iconst (v := nI 0) hx hb dL_areSums_189 (by decide) ?_
      refine lv_istore (lv' := [(15, .int (nI 0)), (12, .int (nI 1)), (2, .int ((g_sm T 84 i) + (T (84 + i)))), (1, .int ((g_sm T 81 i) + (T (81 + i)))), (3, .int ((g_sm T 75 i) + (T (75 + i)))), (14, .int (T (75 + i))), (13, .int (nI i)), (4, .int (nI 0)), (5, .int (nI 0)), (6, .int (nI 0)), (7, .int (nI 0)), (8, .int (nI 0)), (9, .int (nI 0)), (10, .int (nI (cnt T (8 * i)))), (11, .int (nI 0)), (0, .ref (z.o))]) hx hb dL_areSums_190 hl (by decide) rfl (fun ls hl => ?_)
      have LB : ∀ (n j : Nat) (H : Heap) (locs : List Loc) (ls : Array Slot), j + n = 8 → va_P D vwCl (wX z ol sn 0 T S Y G 0 P ch) H → va_S (fun _ => False) s.heap H locs → lv_has ls 16 [(15, .int (nI j)), (10, .int (nI (cnt T (8 * i + j)))), (12, .int (nI 1)), (2, .int ((g_sm T 84 i) + (T (84 + i)))), (1, .int ((g_sm T 81 i) + (T (81 + i)))), (3, .int ((g_sm T 75 i) + (T (75 + i)))), (13, .int (nI i)), (4, .int (nI 0)), (5, .int (nI 0)), (6, .int (nI 0)), (7, .int (nI 0)), (8, .int (nI 0)), (9, .int (nI 0)), (11, .int (nI 0)), (0, .ref (z.o))] → W p l e { frames := 4, cells := 0, slots := 0, locals := 86 } s m args below meth c H locs 0 0 Q (F0 m 192 ls []) := by
        intro n
        induction n with
        | zero =>
          intro j H locs ls hi hP hS hl
          obtain rfl : j = 8 := by omega
          refine lv_iload hx hb dL_areSums_192 (lv_at hl 0 rfl) ?_
          refine lv_bipush (v := nI 8) hx hb dL_areSums_194 (by decide) ?_
          refine q_geN (tgt := 285) hx hb (by omega) (by omega) dL_areSums_196 (by decide) (fun c118 => ?_) (fun c118 => absurd c118 (by omega))
          refine lv_iinc (v := (nI (i + 1))) (lv' := [(13, .int (nI (i + 1))), (15, .int (nI 8)), (10, .int (nI (cnt T (8 * i + 8)))), (12, .int (nI 1)), (2, .int ((g_sm T 84 i) + (T (84 + i)))), (1, .int ((g_sm T 81 i) + (T (81 + i)))), (3, .int ((g_sm T 75 i) + (T (75 + i)))), (4, .int (nI 0)), (5, .int (nI 0)), (6, .int (nI 0)), (7, .int (nI 0)), (8, .int (nI 0)), (9, .int (nI 0)), (11, .int (nI 0)), (0, .ref (z.o))]) hx hb dL_areSums_285 hl (k := 6) rfl (q_inc i 1 (i + 1) (by omega)) (by decide) rfl (fun ls hl => ?_)
          refine lv_goto (tgt := 36) hx hb dL_areSums_288 (by decide) ?_
          rw [show 8 * i + 8 = 8 * (i + 1) from by omega] at hl
          exact ih (i + 1) _ _ _ (by omega) hP hS (lv_sub hl [0, 5, 4, 6, 7, 8, 9, 10, 11, 12, 2, 13, 3, 14] rfl)
        | succ n ih =>
          intro j H locs ls hi hP hS hl
          refine lv_iload hx hb dL_areSums_192 (lv_at hl 0 rfl) ?_
          refine lv_bipush (v := nI 8) hx hb dL_areSums_194 (by decide) ?_
          refine q_geN (tgt := 285) hx hb (by omega) (by omega) dL_areSums_196 (by decide) (fun c119 => absurd c119 (by omega)) (fun c119 => ?_)
          refine lv_iload hx hb dL_areSums_199 (lv_at hl 1 rfl) ?_
          refine lv_aload_n hx hb dL_areSums_201 rfl (lv_at hl 14 rfl) ?_
          refine lv_iload hx hb dL_areSums_202 (lv_at hl 6 rfl) ?_
          refine lv_iload hx hb dL_areSums_204 (lv_at hl 0 rfl) ?_
          refine q_ciK (BH := fun _ => True) (va_runV (rm := { frames := 1, cells := 0, slots := 0, locals := 20 }) (As := [.int (nI i), .int (nI j)]) (rest := [.int (nI (cnt T (8 * i + j)))]) ⟨hx, hb, hml, hown, hts⟩ (m2_told_ok l D z ol sn 0 T S Y G 0 P ch B hI i (by omega) j (by omega)) (cwV 2 hts gL_areSums_X2_told rfl rfl rfl (by decide +kernel) ⟨Nat.le_of_ble_eq_true rfl, Nat.le_of_ble_eq_true rfl⟩) (q_pV (ci := 2) (q0 := 0) hP hK rfl rfl) rfl rfl hl.1 rfl (lv_room (Nat.le_of_ble_eq_true rfl)) dL_areSums_206 ⟨Nat.le_of_ble_eq_true rfl, Nat.le_of_ble_eq_true rfl⟩) (fun t h => trivial) hS (fun q h => h.elim) (fun x120 H locs e120 _ hk hS => ?_)
          have hP := k_kp hP hk
          have e120 : x120 = (T (87 + 8 * i + j)) := e120
          subst e120
          refine lv_if_lt (tgt := 216) hx hb dL_areSums_209 (by decide) (fun c121 => ?_) (fun c121 => ?_)
          ·
            refine lv_iconst (v := nI 0) hx hb dL_areSums_216 (by decide) ?_
            refine lv_iadd hx hb dL_areSums_217 ?_
            rw [ct_0 hj6 (by omega) (by omega) c121]
            refine lv_istore (lv' := [(10, .int (nI (cnt T (8 * i + (j + 1))))), (15, .int (nI j)), (12, .int (nI 1)), (2, .int ((g_sm T 84 i) + (T (84 + i)))), (1, .int ((g_sm T 81 i) + (T (81 + i)))), (3, .int ((g_sm T 75 i) + (T (75 + i)))), (13, .int (nI i)), (4, .int (nI 0)), (5, .int (nI 0)), (6, .int (nI 0)), (7, .int (nI 0)), (8, .int (nI 0)), (9, .int (nI 0)), (11, .int (nI 0)), (0, .ref (z.o))]) hx hb dL_areSums_218 hl (by decide) rfl (fun ls hl => ?_)
            refine lv_iload hx hb dL_areSums_220 (lv_at hl 2 rfl) ?_
            refine lv_if_eq (tgt := 276) hx hb dL_areSums_222 (by decide) (fun c122 => absurd c122 (by decide)) (fun c122 => ?_)
            refine lv_aload_n hx hb dL_areSums_225 rfl (lv_at hl 14 rfl) ?_
            refine lv_iload hx hb dL_areSums_226 (lv_at hl 6 rfl) ?_
            refine lv_iload hx hb dL_areSums_228 (lv_at hl 1 rfl) ?_
            refine q_ciK (BH := fun _ => True) (va_runV (rm := { frames := 1, cells := 0, slots := 0, locals := 20 }) (As := [.int (nI i), .int (nI j)]) (rest := []) ⟨hx, hb, hml, hown, hts⟩ (m2_told_ok l D z ol sn 0 T S Y G 0 P ch B hI i (by omega) j (by omega)) (cwV 2 hts gL_areSums_X2_told rfl rfl rfl (by decide +kernel) ⟨Nat.le_of_ble_eq_true rfl, Nat.le_of_ble_eq_true rfl⟩) (q_pV (ci := 2) (q0 := 0) hP hK rfl rfl) rfl rfl hl.1 rfl (lv_room (Nat.le_of_ble_eq_true rfl)) dL_areSums_230 ⟨Nat.le_of_ble_eq_true rfl, Nat.le_of_ble_eq_true rfl⟩) (fun t h => trivial) hS (fun q h => h.elim) (fun x123 H locs e123 _ hk hS => ?_)
            have hP := k_kp hP hk
            have e123 : x123 = (T (87 + 8 * i + j)) := e123
            subst e123
            refine lv_sipush (v := nI 200) hx hb dL_areSums_233 (by decide) ?_
            refine lv_icmp_gt (tgt := 276) hx hb dL_areSums_236 (by decide) (fun c124 => absurd c124 (fun z => by have := hj6 (8 * i + j) (by omega); rw [← Nat.add_assoc] at this; rw [t_lt, t_nI (n := 200) (by omega)] at z; omega)) (fun c124 => ?_)
            refine lv_aload_n hx hb dL_areSums_239 rfl (lv_at hl 14 rfl) ?_
            refine lv_iload hx hb dL_areSums_240 (lv_at hl 6 rfl) ?_
            refine lv_bipush (v := nI 7) hx hb dL_areSums_242 (by decide) ?_
            refine q_ciK (BH := fun _ => True) (va_runV (rm := { frames := 2, cells := 0, slots := 0, locals := 44 }) (As := [.int (nI i), .int (nI 7)]) (rest := []) ⟨hx, hb, hml, hown, hts⟩ (m2_pot_ok l D z ol sn 0 T S Y G 0 P ch B hI i (by omega) 7 (by omega)) (cwV 2 hts gL_areSums_X2_pot rfl rfl rfl (by decide +kernel) ⟨Nat.le_of_ble_eq_true rfl, Nat.le_of_ble_eq_true rfl⟩) (q_pV (ci := 2) (q0 := 0) hP hK rfl rfl) rfl rfl hl.1 rfl (lv_room (Nat.le_of_ble_eq_true rfl)) dL_areSums_244 ⟨Nat.le_of_ble_eq_true rfl, Nat.le_of_ble_eq_true rfl⟩) (fun t h => trivial) hS (fun q h => h.elim) (fun x125 H locs e125 _ hk hS => ?_)
            have hP := k_kp hP hk
            have e125 : x125 = (T (84 + i)) := e125
            subst e125
            refine lv_if_gt (tgt := 272) hx hb dL_areSums_247 (by decide) (fun c126 => ?_) (fun c126 => ?_)
            ·
              refine lv_iconst (v := nI 1) hx hb dL_areSums_272 (by decide) ?_
              refine lv_goto (tgt := 277) hx hb dL_areSums_273 (by decide) ?_
              refine lv_istore (lv' := [(12, .int (nI 1)), (10, .int (nI (cnt T (8 * i + (j + 1))))), (15, .int (nI j)), (2, .int ((g_sm T 84 i) + (T (84 + i)))), (1, .int ((g_sm T 81 i) + (T (81 + i)))), (3, .int ((g_sm T 75 i) + (T (75 + i)))), (13, .int (nI i)), (4, .int (nI 0)), (5, .int (nI 0)), (6, .int (nI 0)), (7, .int (nI 0)), (8, .int (nI 0)), (9, .int (nI 0)), (11, .int (nI 0)), (0, .ref (z.o))]) hx hb dL_areSums_277 hl (by decide) rfl (fun ls hl => ?_)
              refine lv_iinc (v := (nI (j + 1))) (lv' := [(15, .int (nI (j + 1))), (12, .int (nI 1)), (10, .int (nI (cnt T (8 * i + (j + 1))))), (2, .int ((g_sm T 84 i) + (T (84 + i)))), (1, .int ((g_sm T 81 i) + (T (81 + i)))), (3, .int ((g_sm T 75 i) + (T (75 + i)))), (13, .int (nI i)), (4, .int (nI 0)), (5, .int (nI 0)), (6, .int (nI 0)), (7, .int (nI 0)), (8, .int (nI 0)), (9, .int (nI 0)), (11, .int (nI 0)), (0, .ref (z.o))]) hx hb dL_areSums_279 hl (k := 2) rfl (q_inc j 1 (j + 1) (by omega)) (by decide) rfl (fun ls hl => ?_)
              refine lv_goto (tgt := 192) hx hb dL_areSums_282 (by decide) ?_
              exact ih (j + 1) _ _ _ (by omega) hP hS (lv_sub hl [0, 2, 1, 3, 4, 5, 6, 7, 8, 9, 10, 11, 12, 13, 14] rfl)
            ·
              refine lv_aload_n hx hb dL_areSums_250 rfl (lv_at hl 14 rfl) ?_
              refine lv_iload hx hb dL_areSums_251 (lv_at hl 6 rfl) ?_
              refine lv_iload hx hb dL_areSums_253 (lv_at hl 1 rfl) ?_
              refine q_ciK (BH := fun _ => True) (va_runV (rm := { frames := 1, cells := 0, slots := 0, locals := 20 }) (As := [.int (nI i), .int (nI j)]) (rest := []) ⟨hx, hb, hml, hown, hts⟩ (m2_told_ok l D z ol sn 0 T S Y G 0 P ch B hI i (by omega) j (by omega)) (cwV 2 hts gL_areSums_X2_told rfl rfl rfl (by decide +kernel) ⟨Nat.le_of_ble_eq_true rfl, Nat.le_of_ble_eq_true rfl⟩) (q_pV (ci := 2) (q0 := 0) hP hK rfl rfl) rfl rfl hl.1 rfl (lv_room (Nat.le_of_ble_eq_true rfl)) dL_areSums_255 ⟨Nat.le_of_ble_eq_true rfl, Nat.le_of_ble_eq_true rfl⟩) (fun t h => trivial) hS (fun q h => h.elim) (fun x127 H locs e127 _ hk hS => ?_)
              have hP := k_kp hP hk
              have e127 : x127 = (T (87 + 8 * i + j)) := e127
              subst e127
              refine lv_iconst (v := (-1)) hx hb dL_areSums_258 (by decide) ?_
              refine lv_icmp_ne (tgt := 276) hx hb dL_areSums_259 (by decide) (fun c128 => absurd c128 (fun z => z (((hj7 i (by omega)).2.2 (js_0 (hj7 i (by omega)).1 c126)).2 j (by omega)))) (fun c128 => ?_)
              refine lv_aload_n hx hb dL_areSums_262 rfl (lv_at hl 14 rfl) ?_
              refine lv_iload hx hb dL_areSums_263 (lv_at hl 6 rfl) ?_
              refine lv_iconst (v := nI 2) hx hb dL_areSums_265 (by decide) ?_
              refine q_ciK (BH := fun _ => True) (va_runV (rm := { frames := 2, cells := 0, slots := 0, locals := 44 }) (As := [.int (nI i), .int (nI 2)]) (rest := []) ⟨hx, hb, hml, hown, hts⟩ (m2_pot_ok l D z ol sn 0 T S Y G 0 P ch B hI i (by omega) 2 (by omega)) (cwV 2 hts gL_areSums_X2_pot rfl rfl rfl (by decide +kernel) ⟨Nat.le_of_ble_eq_true rfl, Nat.le_of_ble_eq_true rfl⟩) (q_pV (ci := 2) (q0 := 0) hP hK rfl rfl) rfl rfl hl.1 rfl (lv_room (Nat.le_of_ble_eq_true rfl)) dL_areSums_266 ⟨Nat.le_of_ble_eq_true rfl, Nat.le_of_ble_eq_true rfl⟩) (fun t h => trivial) hS (fun q h => h.elim) (fun x129 H locs e129 _ hk hS => ?_)
              have hP := k_kp hP hk
              have e129 : x129 = (T (78 + i)) := e129
              subst e129
              refine lv_if_ne (tgt := 276) hx hb dL_areSums_269 (by decide) (fun c130 => absurd c130 (fun z => z ((hj7 i (by omega)).2.2 (js_0 (hj7 i (by omega)).1 c126)).1)) (fun c130 => ?_)
              refine lv_iconst (v := nI 1) hx hb dL_areSums_272 (by decide) ?_
              refine lv_goto (tgt := 277) hx hb dL_areSums_273 (by decide) ?_
              refine lv_istore (lv' := [(12, .int (nI 1)), (10, .int (nI (cnt T (8 * i + (j + 1))))), (15, .int (nI j)), (2, .int ((g_sm T 84 i) + (T (84 + i)))), (1, .int ((g_sm T 81 i) + (T (81 + i)))), (3, .int ((g_sm T 75 i) + (T (75 + i)))), (13, .int (nI i)), (4, .int (nI 0)), (5, .int (nI 0)), (6, .int (nI 0)), (7, .int (nI 0)), (8, .int (nI 0)), (9, .int (nI 0)), (11, .int (nI 0)), (0, .ref (z.o))]) hx hb dL_areSums_277 hl (by decide) rfl (fun ls hl => ?_)
              refine lv_iinc (v := (nI (j + 1))) (lv' := [(15, .int (nI (j + 1))), (12, .int (nI 1)), (10, .int (nI (cnt T (8 * i + (j + 1))))), (2, .int ((g_sm T 84 i) + (T (84 + i)))), (1, .int ((g_sm T 81 i) + (T (81 + i)))), (3, .int ((g_sm T 75 i) + (T (75 + i)))), (13, .int (nI i)), (4, .int (nI 0)), (5, .int (nI 0)), (6, .int (nI 0)), (7, .int (nI 0)), (8, .int (nI 0)), (9, .int (nI 0)), (11, .int (nI 0)), (0, .ref (z.o))]) hx hb dL_areSums_279 hl (k := 2) rfl (q_inc j 1 (j + 1) (by omega)) (by decide) rfl (fun ls hl => ?_)
              refine lv_goto (tgt := 192) hx hb dL_areSums_282 (by decide) ?_
              exact ih (j + 1) _ _ _ (by omega) hP hS (lv_sub hl [0, 2, 1, 3, 4, 5, 6, 7, 8, 9, 10, 11, 12, 13, 14] rfl)
          ·
            refine lv_iconst (v := nI 1) hx hb dL_areSums_212 (by decide) ?_
            refine lv_goto (tgt := 217) hx hb dL_areSums_213 (by decide) ?_
            refine lv_iadd hx hb dL_areSums_217 ?_
            rw [ct_1 c121]
            refine lv_istore (lv' := [(10, .int (nI (cnt T (8 * i + (j + 1))))), (15, .int (nI j)), (12, .int (nI 1)), (2, .int ((g_sm T 84 i) + (T (84 + i)))), (1, .int ((g_sm T 81 i) + (T (81 + i)))), (3, .int ((g_sm T 75 i) + (T (75 + i)))), (13, .int (nI i)), (4, .int (nI 0)), (5, .int (nI 0)), (6, .int (nI 0)), (7, .int (nI 0)), (8, .int (nI 0)), (9, .int (nI 0)), (11, .int (nI 0)), (0, .ref (z.o))]) hx hb dL_areSums_218 hl (by decide) rfl (fun ls hl => ?_)
            refine lv_iload hx hb dL_areSums_220 (lv_at hl 2 rfl) ?_
            refine lv_if_eq (tgt := 276) hx hb dL_areSums_222 (by decide) (fun c131 => absurd c131 (by decide)) (fun c131 => ?_)
            refine lv_aload_n hx hb dL_areSums_225 rfl (lv_at hl 14 rfl) ?_
            refine lv_iload hx hb dL_areSums_226 (lv_at hl 6 rfl) ?_
            refine lv_iload hx hb dL_areSums_228 (lv_at hl 1 rfl) ?_
            refine q_ciK (BH := fun _ => True) (va_runV (rm := { frames := 1, cells := 0, slots := 0, locals := 20 }) (As := [.int (nI i), .int (nI j)]) (rest := []) ⟨hx, hb, hml, hown, hts⟩ (m2_told_ok l D z ol sn 0 T S Y G 0 P ch B hI i (by omega) j (by omega)) (cwV 2 hts gL_areSums_X2_told rfl rfl rfl (by decide +kernel) ⟨Nat.le_of_ble_eq_true rfl, Nat.le_of_ble_eq_true rfl⟩) (q_pV (ci := 2) (q0 := 0) hP hK rfl rfl) rfl rfl hl.1 rfl (lv_room (Nat.le_of_ble_eq_true rfl)) dL_areSums_230 ⟨Nat.le_of_ble_eq_true rfl, Nat.le_of_ble_eq_true rfl⟩) (fun t h => trivial) hS (fun q h => h.elim) (fun x132 H locs e132 _ hk hS => ?_)
            have hP := k_kp hP hk
            have e132 : x132 = (T (87 + 8 * i + j)) := e132
            subst e132
            refine lv_sipush (v := nI 200) hx hb dL_areSums_233 (by decide) ?_
            refine lv_icmp_gt (tgt := 276) hx hb dL_areSums_236 (by decide) (fun c133 => absurd c133 (fun z => by have := hj6 (8 * i + j) (by omega); rw [← Nat.add_assoc] at this; rw [t_lt, t_nI (n := 200) (by omega)] at z; omega)) (fun c133 => ?_)
            refine lv_aload_n hx hb dL_areSums_239 rfl (lv_at hl 14 rfl) ?_
            refine lv_iload hx hb dL_areSums_240 (lv_at hl 6 rfl) ?_
            refine lv_bipush (v := nI 7) hx hb dL_areSums_242 (by decide) ?_
            refine q_ciK (BH := fun _ => True) (va_runV (rm := { frames := 2, cells := 0, slots := 0, locals := 44 }) (As := [.int (nI i), .int (nI 7)]) (rest := []) ⟨hx, hb, hml, hown, hts⟩ (m2_pot_ok l D z ol sn 0 T S Y G 0 P ch B hI i (by omega) 7 (by omega)) (cwV 2 hts gL_areSums_X2_pot rfl rfl rfl (by decide +kernel) ⟨Nat.le_of_ble_eq_true rfl, Nat.le_of_ble_eq_true rfl⟩) (q_pV (ci := 2) (q0 := 0) hP hK rfl rfl) rfl rfl hl.1 rfl (lv_room (Nat.le_of_ble_eq_true rfl)) dL_areSums_244 ⟨Nat.le_of_ble_eq_true rfl, Nat.le_of_ble_eq_true rfl⟩) (fun t h => trivial) hS (fun q h => h.elim) (fun x134 H locs e134 _ hk hS => ?_)
            have hP := k_kp hP hk
            have e134 : x134 = (T (84 + i)) := e134
            subst e134
            refine lv_if_gt (tgt := 272) hx hb dL_areSums_247 (by decide) (fun c135 => ?_) (fun c135 => ?_)
            ·
              refine lv_iconst (v := nI 1) hx hb dL_areSums_272 (by decide) ?_
              refine lv_goto (tgt := 277) hx hb dL_areSums_273 (by decide) ?_
              refine lv_istore (lv' := [(12, .int (nI 1)), (10, .int (nI (cnt T (8 * i + (j + 1))))), (15, .int (nI j)), (2, .int ((g_sm T 84 i) + (T (84 + i)))), (1, .int ((g_sm T 81 i) + (T (81 + i)))), (3, .int ((g_sm T 75 i) + (T (75 + i)))), (13, .int (nI i)), (4, .int (nI 0)), (5, .int (nI 0)), (6, .int (nI 0)), (7, .int (nI 0)), (8, .int (nI 0)), (9, .int (nI 0)), (11, .int (nI 0)), (0, .ref (z.o))]) hx hb dL_areSums_277 hl (by decide) rfl (fun ls hl => ?_)
              refine lv_iinc (v := (nI (j + 1))) (lv' := [(15, .int (nI (j + 1))), (12, .int (nI 1)), (10, .int (nI (cnt T (8 * i + (j + 1))))), (2, .int ((g_sm T 84 i) + (T (84 + i)))), (1, .int ((g_sm T 81 i) + (T (81 + i)))), (3, .int ((g_sm T 75 i) + (T (75 + i)))), (13, .int (nI i)), (4, .int (nI 0)), (5, .int (nI 0)), (6, .int (nI 0)), (7, .int (nI 0)), (8, .int (nI 0)), (9, .int (nI 0)), (11, .int (nI 0)), (0, .ref (z.o))]) hx hb dL_areSums_279 hl (k := 2) rfl (q_inc j 1 (j + 1) (by omega)) (by decide) rfl (fun ls hl => ?_)
              refine lv_goto (tgt := 192) hx hb dL_areSums_282 (by decide) ?_
              exact ih (j + 1) _ _ _ (by omega) hP hS (lv_sub hl [0, 2, 1, 3, 4, 5, 6, 7, 8, 9, 10, 11, 12, 13, 14] rfl)
            ·
              refine lv_aload_n hx hb dL_areSums_250 rfl (lv_at hl 14 rfl) ?_
              refine lv_iload hx hb dL_areSums_251 (lv_at hl 6 rfl) ?_
              refine lv_iload hx hb dL_areSums_253 (lv_at hl 1 rfl) ?_
              refine q_ciK (BH := fun _ => True) (va_runV (rm := { frames := 1, cells := 0, slots := 0, locals := 20 }) (As := [.int (nI i), .int (nI j)]) (rest := []) ⟨hx, hb, hml, hown, hts⟩ (m2_told_ok l D z ol sn 0 T S Y G 0 P ch B hI i (by omega) j (by omega)) (cwV 2 hts gL_areSums_X2_told rfl rfl rfl (by decide +kernel) ⟨Nat.le_of_ble_eq_true rfl, Nat.le_of_ble_eq_true rfl⟩) (q_pV (ci := 2) (q0 := 0) hP hK rfl rfl) rfl rfl hl.1 rfl (lv_room (Nat.le_of_ble_eq_true rfl)) dL_areSums_255 ⟨Nat.le_of_ble_eq_true rfl, Nat.le_of_ble_eq_true rfl⟩) (fun t h => trivial) hS (fun q h => h.elim) (fun x136 H locs e136 _ hk hS => ?_)
              have hP := k_kp hP hk
              have e136 : x136 = (T (87 + 8 * i + j)) := e136
              subst e136
              refine lv_iconst (v := (-1)) hx hb dL_areSums_258 (by decide) ?_
              refine lv_icmp_ne (tgt := 276) hx hb dL_areSums_259 (by decide) (fun c137 => absurd c137 (fun z => z (((hj7 i (by omega)).2.2 (js_0 (hj7 i (by omega)).1 c135)).2 j (by omega)))) (fun c137 => ?_)
              refine lv_aload_n hx hb dL_areSums_262 rfl (lv_at hl 14 rfl) ?_
              refine lv_iload hx hb dL_areSums_263 (lv_at hl 6 rfl) ?_
              refine lv_iconst (v := nI 2) hx hb dL_areSums_265 (by decide) ?_
              refine q_ciK (BH := fun _ => True) (va_runV (rm := { frames := 2, cells := 0, slots := 0, locals := 44 }) (As := [.int (nI i), .int (nI 2)]) (rest := []) ⟨hx, hb, hml, hown, hts⟩ (m2_pot_ok l D z ol sn 0 T S Y G 0 P ch B hI i (by omega) 2 (by omega)) (cwV 2 hts gL_areSums_X2_pot rfl rfl rfl (by decide +kernel) ⟨Nat.le_of_ble_eq_true rfl, Nat.le_of_ble_eq_true rfl⟩) (q_pV (ci := 2) (q0 := 0) hP hK rfl rfl) rfl rfl hl.1 rfl (lv_room (Nat.le_of_ble_eq_true rfl)) dL_areSums_266 ⟨Nat.le_of_ble_eq_true rfl, Nat.le_of_ble_eq_true rfl⟩) (fun t h => trivial) hS (fun q h => h.elim) (fun x138 H locs e138 _ hk hS => ?_)
              have hP := k_kp hP hk
              have e138 : x138 = (T (78 + i)) := e138
              subst e138
              refine lv_if_ne (tgt := 276) hx hb dL_areSums_269 (by decide) (fun c139 => absurd c139 (fun z => z ((hj7 i (by omega)).2.2 (js_0 (hj7 i (by omega)).1 c135)).1)) (fun c139 => ?_)
              refine lv_iconst (v := nI 1) hx hb dL_areSums_272 (by decide) ?_
              refine lv_goto (tgt := 277) hx hb dL_areSums_273 (by decide) ?_
              refine lv_istore (lv' := [(12, .int (nI 1)), (10, .int (nI (cnt T (8 * i + (j + 1))))), (15, .int (nI j)), (2, .int ((g_sm T 84 i) + (T (84 + i)))), (1, .int ((g_sm T 81 i) + (T (81 + i)))), (3, .int ((g_sm T 75 i) + (T (75 + i)))), (13, .int (nI i)), (4, .int (nI 0)), (5, .int (nI 0)), (6, .int (nI 0)), (7, .int (nI 0)), (8, .int (nI 0)), (9, .int (nI 0)), (11, .int (nI 0)), (0, .ref (z.o))]) hx hb dL_areSums_277 hl (by decide) rfl (fun ls hl => ?_)
              refine lv_iinc (v := (nI (j + 1))) (lv' := [(15, .int (nI (j + 1))), (12, .int (nI 1)), (10, .int (nI (cnt T (8 * i + (j + 1))))), (2, .int ((g_sm T 84 i) + (T (84 + i)))), (1, .int ((g_sm T 81 i) + (T (81 + i)))), (3, .int ((g_sm T 75 i) + (T (75 + i)))), (13, .int (nI i)), (4, .int (nI 0)), (5, .int (nI 0)), (6, .int (nI 0)), (7, .int (nI 0)), (8, .int (nI 0)), (9, .int (nI 0)), (11, .int (nI 0)), (0, .ref (z.o))]) hx hb dL_areSums_279 hl (k := 2) rfl (q_inc j 1 (j + 1) (by omega)) (by decide) rfl (fun ls hl => ?_)
              refine lv_goto (tgt := 192) hx hb dL_areSums_282 (by decide) ?_
              exact ih (j + 1) _ _ _ (by omega) hP hS (lv_sub hl [0, 2, 1, 3, 4, 5, 6, 7, 8, 9, 10, 11, 12, 13, 14] rfl)
      exact LB 8 0 _ _ _ (by omega) hP hS (lv_sub hl [0, 13, 1, 2, 3, 4, 6, 7, 8, 9, 10, 11, 12, 14, 15] rfl)
  exact LA 3 0 _ _ _ (by omega) hP hS (lv_sub hl [0, 12, 11, 10, 9, 8, 7, 6, 5, 4, 3, 2, 1, 13] rfl)
