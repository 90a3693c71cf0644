set_option maxHeartbeats 8000000 in
set_option maxRecDepth 100000 in
theorem L_isHandSo_1z (l : Launch) (D : va_G) (z : Ad) (hDX : va_D (fun _ => True) (wX z 0 0 0 f00 f00 f00 (fun _ => f00) 0 (0, 0, 0, 0) (fun _ => 0))) (cI cS : ClassId) (ez : tyX z = [(cI, .int), (cS, .object RX1)]) (sn : Nat) (hsn : sn ≤ 6) (T : Nat → Int32) (B : Nat) (hI : Inv B T) (hB2 : B + 33600 < 2000000000) (n : Nat) (hn3 : n < 3) (hf : T (75 + n) = 0) : k_L l yL_isHandSo wsL_isHandSo { frames := 6, cells := 0, slots := 0, locals := 140 } [.ref z.o, .int (nI n), .int (nI 1)] D cI cS (OS z D sn T) (nI 1) (fun H => ∃ sn', sn' ≤ 6 ∧ OS z D sn' T H) (AX z) := by
  refine k_goL (cc := cL_isHandSo) (maxL := 8) (ty := .boolean) (lv0 := [(0, .ref z.o), (1, .int (nI n)), (2, .int (nI 1))]) (by decide) rfl (Nat.le_of_ble_eq_true rfl) rfl (by first | rfl | decide) ?_
  intro p e s m args below meth c Q ls hx hb hml hts hown hC hK hl hret
  obtain ⟨ol, S, Y, G, P, ch, hol, hP⟩ := hC
  rw [← ez] at hK
  have hD := q_D2 (ws' := wX z ol sn 0 T S Y G 0 P ch) hDX rfl
  have hS : va_S (AX z) s.heap s.heap [] := va_S.rf
  have h8 := hI.hN8 hn3
  refine lv_aload_n hx hb dL_isHandSo_0 rfl (lv_at hl 0 rfl) ?_
  refine lv_iload_n hx hb dL_isHandSo_1 rfl (lv_at hl 1 rfl) ?_
  refine lv_iconst (v := nI 0) hx hb dL_isHandSo_2 (by decide) ?_
  refine q_ciK (BH := fun _ => True) (va_runV (rm := { frames := 2, cells := 0, slots := 0, locals := 44 }) (As := [.int (nI n), .int (nI 0)]) (rest := []) ⟨hx, hb, hml, hown, hts⟩ (m2_pot_ok l D z ol sn 0 T S Y G 0 P ch B hI n (by omega) 0 (by omega)) (cwV 2 hts gL_isHandSo_X2_pot rfl rfl rfl (by decide +kernel) ⟨Nat.le_of_ble_eq_true rfl, Nat.le_of_ble_eq_true rfl⟩) (q_pV (ci := 2) (q0 := 0) hP hK rfl rfl) rfl rfl hl.1 rfl (lv_room (Nat.le_of_ble_eq_true rfl)) dL_isHandSo_3 ⟨Nat.le_of_ble_eq_true rfl, Nat.le_of_ble_eq_true rfl⟩) (fun t h => trivial) hS (fun q h => h.elim) (fun x1 H locs e1 _ hk hS => ?_)
  have hP := k_kp hP hk
  have e1 : x1 = (nI ((hN T n))) := (show _ = T (72 + n) from e1).trans (hI.ok1 hn3).1
  subst e1
  refine lv_istore_n (lv' := [(3, .int (nI ((hN T n)))), (0, .ref (z.o)), (1, .int (nI n)), (2, .int (nI 1))]) hx hb dL_isHandSo_6 rfl hl (by decide) rfl (fun ls hl => ?_)
  refine lv_aload_n hx hb dL_isHandSo_7 rfl (lv_at hl 1 rfl) ?_
  refine lv_iload_n hx hb dL_isHandSo_8 rfl (lv_at hl 2 rfl) ?_
  refine lv_iconst (v := nI 4) hx hb dL_isHandSo_9 (by decide) ?_
  refine q_ciK (BH := fun _ => True) (va_runV (rm := { frames := 2, cells := 0, slots := 0, locals := 44 }) (As := [.int (nI n), .int (nI 4)]) (rest := []) ⟨hx, hb, hml, hown, hts⟩ (m2_pot_ok l D z ol sn 0 T S Y G 0 P ch B hI n (by omega) 4 (by omega)) (cwV 2 hts gL_isHandSo_X2_pot rfl rfl rfl (by decide +kernel) ⟨Nat.le_of_ble_eq_true rfl, Nat.le_of_ble_eq_true rfl⟩) (q_pV (ci := 2) (q0 := 0) hP hK rfl rfl) rfl rfl hl.1 rfl (lv_room (Nat.le_of_ble_eq_true rfl)) dL_isHandSo_10 ⟨Nat.le_of_ble_eq_true rfl, Nat.le_of_ble_eq_true rfl⟩) (fun t h => trivial) hS (fun q h => h.elim) (fun x2 H locs e2 _ hk hS => ?_)
  have hP := k_kp hP hk
  have e2 : x2 = (g_gs T n) := e2
  subst e2
  refine lv_aload_n hx hb dL_isHandSo_13 rfl (lv_at hl 1 rfl) ?_
  refine lv_iload_n hx hb dL_isHandSo_14 rfl (lv_at hl 0 rfl) ?_
  refine lv_iconst (v := nI 4) hx hb dL_isHandSo_15 (by decide) ?_
  refine q_ciK (BH := fun _ => True) (va_runV (rm := { frames := 1, cells := 0, slots := 0, locals := 23 }) (As := [.int (nI ((hN T n))), .int (nI 4)]) (rest := [.int (g_gs T n)]) ⟨hx, hb, hml, hown, hts⟩ (m2_guest_ok l D z ol sn 0 T S Y G 0 P ch B hI ((hN T n)) (by omega) 4 (by omega)) (cwV 2 hts gL_isHandSo_X2_guest rfl rfl rfl (by decide +kernel) ⟨Nat.le_of_ble_eq_true rfl, Nat.le_of_ble_eq_true rfl⟩) (q_pV (ci := 2) (q0 := 0) hP hK rfl rfl) rfl rfl hl.1 rfl (lv_room (Nat.le_of_ble_eq_true rfl)) dL_isHandSo_16 ⟨Nat.le_of_ble_eq_true rfl, Nat.le_of_ble_eq_true rfl⟩) (fun t h => trivial) hS (fun q h => h.elim) (fun x3 H locs e3 _ hk hS => ?_)
  have hP := k_kp hP hk
  have e3 : x3 = (T (32 + ((hN T n)))) := e3
  subst e3
  refine lv_iadd hx hb dL_isHandSo_19 ?_
  refine lv_istore (lv' := [(4, .int ((g_gs T n) + (T (32 + ((hN T n)))))), (3, .int (nI ((hN T n)))), (0, .ref (z.o)), (1, .int (nI n)), (2, .int (nI 1))]) hx hb dL_isHandSo_20 hl (by decide) rfl (fun ls hl => ?_)
  refine lv_iload hx hb dL_isHandSo_22 (lv_at hl 0 rfl) ?_
  have J47 : W p l e { frames := 6, cells := 0, slots := 0, locals := 140 } s m args below meth c H locs 0 0 Q (F0 m 47 ls [.int (g_wh T n)]) := by
    refine lv_istore (lv' := [(4, .int (g_wh T n)), (3, .int (nI ((hN T n)))), (0, .ref (z.o)), (1, .int (nI n)), (2, .int (nI 1))]) hx hb dL_isHandSo_47 hl (by decide) rfl (fun ls hl => ?_)
    refine lv_aload_n hx hb dL_isHandSo_49 rfl (lv_at hl 2 rfl) ?_
    refine lv_iload_n hx hb dL_isHandSo_50 rfl (lv_at hl 3 rfl) ?_
    refine lv_bipush (v := nI 7) hx hb dL_isHandSo_51 (by decide) ?_
    refine q_ciK (BH := fun _ => True) (va_runV (rm := { frames := 2, cells := 0, slots := 0, locals := 44 }) (As := [.int (nI n), .int (nI 7)]) (rest := []) ⟨hx, hb, hml, hown, hts⟩ (m2_pot_ok l D z ol sn 0 T S Y G 0 P ch B hI n (by omega) 7 (by omega)) (cwV 2 hts gL_isHandSo_X2_pot rfl rfl rfl (by decide +kernel) ⟨Nat.le_of_ble_eq_true rfl, Nat.le_of_ble_eq_true rfl⟩) (q_pV (ci := 2) (q0 := 0) hP hK rfl rfl) rfl rfl hl.1 rfl (lv_room (Nat.le_of_ble_eq_true rfl)) dL_isHandSo_53 ⟨Nat.le_of_ble_eq_true rfl, Nat.le_of_ble_eq_true rfl⟩) (fun t h => trivial) hS (fun q h => h.elim) (fun x4 H locs e4 _ hk hS => ?_)
    have hP := k_kp hP hk
    have e4 : x4 = (T (84 + n)) := e4
    subst e4
    refine lv_istore (lv' := [(5, .int (T (84 + n))), (4, .int (g_wh T n)), (3, .int (nI ((hN T n)))), (0, .ref (z.o)), (1, .int (nI n)), (2, .int (nI 1))]) hx hb dL_isHandSo_56 hl (by decide) rfl (fun ls hl => ?_)
    refine lv_aload_n hx hb dL_isHandSo_58 rfl (lv_at hl 3 rfl) ?_
    refine lv_iload_n hx hb dL_isHandSo_59 rfl (lv_at hl 4 rfl) ?_
    refine q_ciK (BH := fun H => ∃ Y2 : Nat → Int32, va_P D vwCl (wX z ol sn 0 T S Y2 G 0 P ch) H) (va_runV (rm := { frames := 5, cells := 0, slots := 0, locals := 118 }) (As := [.int (nI n)]) (rest := []) ⟨hx, hb, hml, hown, hts⟩ (m2_emptyIn_ok l D z ol sn 0 T S Y G 0 P ch B hI n hn3 hB2 hD) (cwV 1 hts gL_isHandSo_X2_emptyIn rfl rfl rfl (by decide +kernel) ⟨Nat.le_of_ble_eq_true rfl, Nat.le_of_ble_eq_true rfl⟩) (q_pV (ci := 2) (q0 := 0) hP hK rfl rfl) rfl rfl hl.1 rfl (lv_room (Nat.le_of_ble_eq_true rfl)) dL_isHandSo_60 ⟨Nat.le_of_ble_eq_true rfl, Nat.le_of_ble_eq_true rfl⟩) (fun t h => h) hS (fun q h => h) (fun x5 H locs e5 hP hk hS => ?_)
    obtain ⟨Y, hP⟩ := hP
    have hD := q_D2 (ws' := wX z ol sn 0 T S Y G 0 P ch) hDX rfl
    have e5 : x5 = g_ei 21 0 T n := e5
    subst e5
    refine lv_istore (lv' := [(6, .int (g_ei 21 0 T n)), (5, .int (T (84 + n))), (4, .int (g_wh T n)), (3, .int (nI ((hN T n)))), (0, .ref (z.o)), (1, .int (nI n)), (2, .int (nI 1))]) hx hb dL_isHandSo_63 hl (by decide) rfl (fun ls hl => ?_)
    refine lv_iload hx hb dL_isHandSo_65 (lv_at hl 0 rfl) ?_
    refine lv_if_ne (tgt := 74) hx hb dL_isHandSo_67 (by decide) (fun c6 => absurd c6 (fun z => z (ei_0 hf))) (fun c6 => ?_)
    refine lv_iconst (v := nI 1) hx hb dL_isHandSo_70 (by decide) ?_
    refine lv_goto (tgt := 75) hx hb dL_isHandSo_71 (by decide) ?_
    refine lv_aload_n hx hb dL_isHandSo_75 rfl (lv_at hl 4 rfl) ?_
    refine lv_iload_n hx hb dL_isHandSo_76 rfl (lv_at hl 5 rfl) ?_
    refine lv_iconst (v := nI 1) hx hb dL_isHandSo_77 (by decide) ?_
    refine q_ciK (BH := fun _ => True) (va_runV (rm := { frames := 2, cells := 0, slots := 0, locals := 44 }) (As := [.int (nI n), .int (nI 1)]) (rest := [.int (nI 1)]) ⟨hx, hb, hml, hown, hts⟩ (m2_pot_ok l D z ol sn 0 T S Y G 0 P ch B hI n (by omega) 1 (by omega)) (cwV 2 hts gL_isHandSo_X2_pot rfl rfl rfl (by decide +kernel) ⟨Nat.le_of_ble_eq_true rfl, Nat.le_of_ble_eq_true rfl⟩) (q_pV (ci := 2) (q0 := 0) hP hK rfl rfl) rfl rfl hl.1 rfl (lv_room (Nat.le_of_ble_eq_true rfl)) dL_isHandSo_78 ⟨Nat.le_of_ble_eq_true rfl, Nat.le_of_ble_eq_true rfl⟩) (fun t h => trivial) hS (fun q h => h.elim) (fun x7 H locs e7 _ hk hS => ?_)
    have hP := k_kp hP hk
    have e7 : x7 = (T (75 + n)) := e7
    subst e7
    refine lv_if_ne (tgt := 88) hx hb dL_isHandSo_81 (by decide) (fun c8 => absurd c8 (fun z => z (hf))) (fun c8 => ?_)
    refine lv_iconst (v := nI 1) hx hb dL_isHandSo_84 (by decide) ?_
    refine lv_goto (tgt := 89) hx hb dL_isHandSo_85 (by decide) ?_
    refine q_neN (tgt := 164) hx hb (by omega) (by omega) dL_isHandSo_89 (by decide) (fun c9 => absurd c9 (by decide)) (fun c9 => ?_)
    refine lv_iload hx hb dL_isHandSo_92 (lv_at hl 0 rfl) ?_
    refine lv_bipush (v := nI 20) hx hb dL_isHandSo_94 (by decide) ?_
    refine lv_icmp_gt (tgt := 164) hx hb dL_isHandSo_96 (by decide) (fun c10 => absurd c10 (Int32.not_lt.mpr ei_le)) (fun c10 => ?_)
    refine lv_aload_n hx hb dL_isHandSo_99 rfl (lv_at hl 4 rfl) ?_
    refine lv_iload_n hx hb dL_isHandSo_100 rfl (lv_at hl 5 rfl) ?_
    refine lv_iload_n hx hb dL_isHandSo_101 rfl (lv_at hl 6 rfl) ?_
    refine q_ciK (BH := fun H => va_P D vwCl (wX z (so ol sn) (svn sn) 0 (g_hand T n 1) S Y (updG G (sr ol sn) T) 0 P ch) H) (va_runV (rm := { frames := 3, cells := 0, slots := 0, locals := 101 }) (As := [.int (nI n), .int (nI 1)]) (rest := []) ⟨hx, hb, hml, hown, hts⟩ (m2_hand_ok1 l D z ol sn 0 hol hsn T S Y G 0 P ch B hI n hn3 hD) (cwV 2 hts gL_isHandSo_X2_hand rfl rfl rfl (by decide +kernel) ⟨Nat.le_of_ble_eq_true rfl, Nat.le_of_ble_eq_true rfl⟩) (q_pV (ci := 2) (q0 := 0) hP hK rfl rfl) rfl rfl hl.1 rfl (lv_room (Nat.le_of_ble_eq_true rfl)) dL_isHandSo_102 ⟨Nat.le_of_ble_eq_true rfl, Nat.le_of_ble_eq_true rfl⟩) (fun t h => h) hS (fun q h => h) (fun x11 H locs e11 hP hk5 hS => ?_)
    have e11 : x11 = nI ((hN T n + 1) % 8) := e11
    subst e11
    obtain ⟨ol, S, Y, G, P, ch, hol, hG, hP⟩ := OU.of hol hsn hP
    have hD := q_D2 (ws' := wX z ol (1 + pn sn) 0 (g_hand T n 1) S Y G 0 P ch) hDX rfl
    have hI1 := hand_inv (d := 1) hI hn3
    have h8p := hI1.hN8 hn3
    refine lv_iload_n hx hb dL_isHandSo_105 rfl (lv_at hl 3 rfl) ?_
    refine lv_iload_n hx hb dL_isHandSo_106 rfl (lv_at hl 6 rfl) ?_
    refine lv_iconst (v := nI 1) hx hb dL_isHandSo_107 (by decide) ?_
    refine q_neN (tgt := 115) hx hb (by omega) (by omega) dL_isHandSo_108 (by decide) (fun c12 => absurd c12 (by decide)) (fun c12 => ?_)
    refine lv_iconst (v := nI 1) hx hb dL_isHandSo_111 (by decide) ?_
    refine lv_goto (tgt := 117) hx hb dL_isHandSo_112 (by decide) ?_
    refine q_addN hx hb (1 + (hN T n)) (by omega) dL_isHandSo_117 ?_
    refine lv_bipush (v := nI 8) hx hb dL_isHandSo_118 (by decide) ?_
    refine q_remN hx hb ((1 + (hN T n)) % 8) rfl (by omega) (by omega) (by omega) dL_isHandSo_120 ?_
    refine q_neN (tgt := 164) hx hb (by omega) (by omega) dL_isHandSo_121 (by decide) (fun c13 => absurd c13 (fun z => z (by omega))) (fun c13 => ?_)
    refine lv_aload_n hx hb dL_isHandSo_124 rfl (lv_at hl 4 rfl) ?_
    refine lv_iload_n hx hb dL_isHandSo_125 rfl (lv_at hl 5 rfl) ?_
    refine lv_iconst (v := nI 2) hx hb dL_isHandSo_126 (by decide) ?_
    refine q_ciK (BH := fun _ => True) (va_runV (rm := { frames := 2, cells := 0, slots := 0, locals := 44 }) (As := [.int (nI n), .int (nI 2)]) (rest := []) ⟨hx, hb, hml, hown, hts⟩ (m2_pot_ok l D z ol (1 + pn sn) 0 (g_hand T n 1) S Y G 0 P ch B hI1 n (by omega) 2 (by omega)) (cwV 2 hts gL_isHandSo_X2_pot rfl rfl rfl (by decide +kernel) ⟨Nat.le_of_ble_eq_true rfl, Nat.le_of_ble_eq_true rfl⟩) (q_pV (ci := 2) (q0 := 0) hP hK rfl rfl) rfl rfl hl.1 rfl (lv_room (Nat.le_of_ble_eq_true rfl)) dL_isHandSo_127 ⟨Nat.le_of_ble_eq_true rfl, Nat.le_of_ble_eq_true rfl⟩) (fun t h => trivial) hS (fun q h => h.elim) (fun x14 H locs e14 _ hk hS => ?_)
    have hP := k_kp hP hk
    have e14 : x14 = ((g_hand T n 1) (78 + n)) := e14
    subst e14
    refine lv_iload hx hb dL_isHandSo_130 (lv_at hl 2 rfl) ?_
    refine lv_icmp_ne (tgt := 164) hx hb dL_isHandSo_132 (by decide) (fun c15 => absurd c15 (fun z => z (hand_wh))) (fun c15 => ?_)
    refine lv_aload_n hx hb dL_isHandSo_135 rfl (lv_at hl 4 rfl) ?_
    refine lv_iload_n hx hb dL_isHandSo_136 rfl (lv_at hl 5 rfl) ?_
    refine lv_iload_n hx hb dL_isHandSo_137 rfl (lv_at hl 3 rfl) ?_
    refine q_ciK (BH := fun _ => True) (va_runV (rm := { frames := 1, cells := 0, slots := 0, locals := 20 }) (As := [.int (nI n), .int (nI ((hN T n)))]) (rest := []) ⟨hx, hb, hml, hown, hts⟩ (m2_told_ok l D z ol (1 + pn sn) 0 (g_hand T n 1) S Y G 0 P ch B hI1 n (by omega) ((hN T n)) (by omega)) (cwV 2 hts gL_isHandSo_X2_told rfl rfl rfl (by decide +kernel) ⟨Nat.le_of_ble_eq_true rfl, Nat.le_of_ble_eq_true rfl⟩) (q_pV (ci := 2) (q0 := 0) hP hK rfl rfl) rfl rfl hl.1 rfl (lv_room (Nat.le_of_ble_eq_true rfl)) dL_isHandSo_138 ⟨Nat.le_of_ble_eq_true rfl, Nat.le_of_ble_eq_true rfl⟩) (fun t h => trivial) hS (fun q h => h.elim) (fun x16 H locs e16 _ hk hS => ?_)
    have hP := k_kp hP hk
    have e16 : x16 = ((g_hand T n 1) (87 + 8 * n + ((hN T n)))) := e16
    subst e16
    refine lv_iload hx hb dL_isHandSo_141 (lv_at hl 2 rfl) ?_
    refine lv_icmp_ne (tgt := 164) hx hb dL_isHandSo_143 (by decide) (fun c17 => absurd c17 (fun z => z (hand_to hn3 h8))) (fun c17 => ?_)
    refine lv_aload_n hx hb dL_isHandSo_146 rfl (lv_at hl 4 rfl) ?_
    refine lv_iload_n hx hb dL_isHandSo_147 rfl (lv_at hl 5 rfl) ?_
    refine lv_bipush (v := nI 7) hx hb dL_isHandSo_148 (by decide) ?_
    refine q_ciK (BH := fun _ => True) (va_runV (rm := { frames := 2, cells := 0, slots := 0, locals := 44 }) (As := [.int (nI n), .int (nI 7)]) (rest := []) ⟨hx, hb, hml, hown, hts⟩ (m2_pot_ok l D z ol (1 + pn sn) 0 (g_hand T n 1) S Y G 0 P ch B hI1 n (by omega) 7 (by omega)) (cwV 2 hts gL_isHandSo_X2_pot rfl rfl rfl (by decide +kernel) ⟨Nat.le_of_ble_eq_true rfl, Nat.le_of_ble_eq_true rfl⟩) (q_pV (ci := 2) (q0 := 0) hP hK rfl rfl) rfl rfl hl.1 rfl (lv_room (Nat.le_of_ble_eq_true rfl)) dL_isHandSo_150 ⟨Nat.le_of_ble_eq_true rfl, Nat.le_of_ble_eq_true rfl⟩) (fun t h => trivial) hS (fun q h => h.elim) (fun x18 H locs e18 _ hk hS => ?_)
    have hP := k_kp hP hk
    have e18 : x18 = ((g_hand T n 1) (84 + n)) := e18
    subst e18
    refine lv_iload hx hb dL_isHandSo_153 (lv_at hl 1 rfl) ?_
    refine lv_iconst (v := nI 1) hx hb dL_isHandSo_155 (by decide) ?_
    refine lv_iadd hx hb dL_isHandSo_156 ?_
    refine lv_icmp_ne (tgt := 164) hx hb dL_isHandSo_157 (by decide) (fun c19 => absurd c19 (fun z => z (hand_cn hn3))) (fun c19 => ?_)
    refine lv_iconst (v := nI 1) hx hb dL_isHandSo_160 (by decide) ?_
    refine lv_goto (tgt := 165) hx hb dL_isHandSo_161 (by decide) ?_
    refine lv_istore (lv' := [(7, .int (nI 1)), (6, .int (g_ei 21 0 T n)), (5, .int (T (84 + n))), (4, .int (g_wh T n)), (3, .int (nI ((hN T n)))), (0, .ref (z.o)), (1, .int (nI n)), (2, .int (nI 1))]) hx hb dL_isHandSo_165 hl (by decide) rfl (fun ls hl => ?_)
    refine lv_iload hx hb dL_isHandSo_167 (lv_at hl 0 rfl) ?_
    refine lv_if_eq (tgt := 205) hx hb dL_isHandSo_169 (by decide) (fun c20 => absurd c20 (by decide)) (fun c20 => ?_)
    refine lv_aload_n hx hb dL_isHandSo_172 rfl (lv_at hl 5 rfl) ?_
    refine q_ciK (BH := fun H => va_P D vwCl (wX z ol (pn sn) 0 (G ((ol + pn sn) % 6)) S Y G 0 P ch) H) (va_runV (rm := { frames := 2, cells := 0, slots := 0, locals := 81 }) (As := []) (rest := []) ⟨hx, hb, hml, hown, hts⟩ (m2_undo_ok l D z ol (pn sn) 0 (g_hand T n 1) S Y G 0 P ch hol (pn_lt hsn) hD) (cwV 0 hts gL_isHandSo_X2_undo rfl rfl rfl (by decide +kernel) ⟨Nat.le_of_ble_eq_true rfl, Nat.le_of_ble_eq_true rfl⟩) (q_pV (ci := 2) (q0 := 0) hP hK rfl rfl) rfl rfl hl.1 rfl (lv_room (Nat.le_of_ble_eq_true rfl)) dL_isHandSo_173 ⟨Nat.le_of_ble_eq_true rfl, Nat.le_of_ble_eq_true rfl⟩) (fun t h => h) hS (fun q h => h) (fun x21 H locs e21 hP hk hS => ?_)
    rw [hG] at hP
    have e21 : x21 = nI (pn sn) := e21
    subst e21
    refine lv_if_lt (tgt := 205) hx hb dL_isHandSo_176 (by decide) (fun c22 => absurd c22 (nI_pos (by have := pn_lt hsn; omega))) (fun c22 => ?_)
    refine lv_aload_n hx hb dL_isHandSo_179 rfl (lv_at hl 5 rfl) ?_
    refine lv_iload_n hx hb dL_isHandSo_180 rfl (lv_at hl 6 rfl) ?_
    refine lv_iconst (v := nI 0) hx hb dL_isHandSo_181 (by decide) ?_
    refine q_ciK (BH := fun _ => True) (va_runV (rm := { frames := 2, cells := 0, slots := 0, locals := 44 }) (As := [.int (nI n), .int (nI 0)]) (rest := []) ⟨hx, hb, hml, hown, hts⟩ (m2_pot_ok l D z ol (pn sn) 0 T S Y G 0 P ch B hI n (by omega) 0 (by omega)) (cwV 2 hts gL_isHandSo_X2_pot rfl rfl rfl (by decide +kernel) ⟨Nat.le_of_ble_eq_true rfl, Nat.le_of_ble_eq_true rfl⟩) (q_pV (ci := 2) (q0 := 0) hP hK rfl rfl) rfl rfl hl.1 rfl (lv_room (Nat.le_of_ble_eq_true rfl)) dL_isHandSo_182 ⟨Nat.le_of_ble_eq_true rfl, Nat.le_of_ble_eq_true rfl⟩) (fun t h => trivial) hS (fun q h => h.elim) (fun x23 H locs e23 _ hk hS => ?_)
    have hP := k_kp hP hk
    have e23 : x23 = (nI ((hN T n))) := (show _ = T (72 + n) from e23).trans (hI.ok1 hn3).1
    subst e23
    refine lv_iload_n hx hb dL_isHandSo_185 rfl (lv_at hl 4 rfl) ?_
    refine q_neN (tgt := 205) hx hb (by omega) (by omega) dL_isHandSo_186 (by decide) (fun c24 => absurd c24 (fun z => z rfl)) (fun c24 => ?_)
    refine lv_aload_n hx hb dL_isHandSo_189 rfl (lv_at hl 5 rfl) ?_
    refine lv_iload_n hx hb dL_isHandSo_190 rfl (lv_at hl 6 rfl) ?_
    refine lv_bipush (v := nI 7) hx hb dL_isHandSo_191 (by decide) ?_
    refine q_ciK (BH := fun _ => True) (va_runV (rm := { frames := 2, cells := 0, slots := 0, locals := 44 }) (As := [.int (nI n), .int (nI 7)]) (rest := []) ⟨hx, hb, hml, hown, hts⟩ (m2_pot_ok l D z ol (pn sn) 0 T S Y G 0 P ch B hI n (by omega) 7 (by omega)) (cwV 2 hts gL_isHandSo_X2_pot rfl rfl rfl (by decide +kernel) ⟨Nat.le_of_ble_eq_true rfl, Nat.le_of_ble_eq_true rfl⟩) (q_pV (ci := 2) (q0 := 0) hP hK rfl rfl) rfl rfl hl.1 rfl (lv_room (Nat.le_of_ble_eq_true rfl)) dL_isHandSo_193 ⟨Nat.le_of_ble_eq_true rfl, Nat.le_of_ble_eq_true rfl⟩) (fun t h => trivial) hS (fun q h => h.elim) (fun x25 H locs e25 _ hk hS => ?_)
    have hP := k_kp hP hk
    have e25 : x25 = (T (84 + n)) := e25
    subst e25
    refine lv_iload hx hb dL_isHandSo_196 (lv_at hl 2 rfl) ?_
    refine lv_icmp_ne (tgt := 205) hx hb dL_isHandSo_198 (by decide) (fun c26 => absurd c26 (fun z => z (rfl))) (fun c26 => ?_)
    refine lv_iconst (v := nI 1) hx hb dL_isHandSo_201 (by decide) ?_
    refine lv_goto (tgt := 206) hx hb dL_isHandSo_202 (by decide) ?_
    exact hret _ _ _ _ ⟨pn sn, Nat.le_of_lt (pn_lt hsn), ol, S, Y, G, P, ch, hol, hP⟩ hS dL_isHandSo_206
  refine lv_if_ge (tgt := 31) hx hb dL_isHandSo_24 (by decide) (fun c27 => ?_) (fun c27 => ?_)
  ·
    refine lv_iload hx hb dL_isHandSo_31 (lv_at hl 0 rfl) ?_
    refine lv_sipush (v := nI 200) hx hb dL_isHandSo_33 (by decide) ?_
    refine lv_icmp_le (tgt := 45) hx hb dL_isHandSo_36 (by decide) (fun c28 => ?_) (fun c28 => ?_)
    ·
      refine lv_iload hx hb dL_isHandSo_45 (lv_at hl 0 rfl) ?_
      rw [wh_1 (Int32.not_lt.mpr c27) c28] at J47
      exact J47
    ·
      refine lv_sipush (v := nI 200) hx hb dL_isHandSo_39 (by decide) ?_
      refine lv_goto (tgt := 47) hx hb dL_isHandSo_42 (by decide) ?_
      rw [wh_2 c28] at J47
      exact J47
  ·
    refine lv_iconst (v := nI 0) hx hb dL_isHandSo_27 (by decide) ?_
    refine lv_goto (tgt := 47) hx hb dL_isHandSo_28 (by decide) ?_
    rw [wh_0 (Int32.not_le.mp c27)] at J47
    exact J47
set_option maxHeartbeats 8000000 in
set_option maxRecDepth 100000 in
theorem L_isHandSo_1n (l : Launch) (D : va_G) (z : Ad) (hDX : va_D (fun _ => True) (wX z 0 0 0 f00 f00 f00 (fun _ => f00) 0 (0, 0, 0, 0) (fun _ => 0))) (cI cS : ClassId) (ez : tyX z = [(cI, .int), (cS, .object RX1)]) (sn : Nat) (hsn : sn ≤ 6) (T : Nat → Int32) (B : Nat) (hI : Inv B T) (hB2 : B + 33600 < 2000000000) (n : Nat) (hn3 : n < 3) (hf : ¬ T (75 + n) = 0) : k_L l yL_isHandSo wsL_isHandSo { frames := 6, cells := 0, slots := 0, locals := 140 } [.ref z.o, .int (nI n), .int (nI 1)] D cI cS (OS z D sn T) (nI 1) (fun H => ∃ sn', sn' ≤ 6 ∧ OS z D sn' T H) (AX z) := by
  refine k_goL (cc := cL_isHandSo) (maxL := 8) (ty := .boolean) (lv0 := [(0, .ref z.o), (1, .int (nI n)), (2, .int (nI 1))]) (by decide) rfl (Nat.le_of_ble_eq_true rfl) rfl (by first | rfl | decide) ?_
  intro p e s m args below meth c Q ls hx hb hml hts hown hC hK hl hret
  obtain ⟨ol, S, Y, G, P, ch, hol, hP⟩ := hC
  rw [← ez] at hK
  have hD := q_D2 (ws' := wX z ol sn 0 T S Y G 0 P ch) hDX rfl
  have hS : va_S (AX z) s.heap s.heap [] := va_S.rf
  have h8 := hI.hN8 hn3
  refine lv_aload_n hx hb dL_isHandSo_0 rfl (lv_at hl 0 rfl) ?_
  refine lv_iload_n hx hb dL_isHandSo_1 rfl (lv_at hl 1 rfl) ?_
  refine lv_iconst (v := nI 0) hx hb dL_isHandSo_2 (by decide) ?_
  refine q_ciK (BH := fun _ => True) (va_runV (rm := { frames := 2, cells := 0, slots := 0, locals := 44 }) (As := [.int (nI n), .int (nI 0)]) (rest := []) ⟨hx, hb, hml, hown, hts⟩ (m2_pot_ok l D z ol sn 0 T S Y G 0 P ch B hI n (by omega) 0 (by omega)) (cwV 2 hts gL_isHandSo_X2_pot rfl rfl rfl (by decide +kernel) ⟨Nat.le_of_ble_eq_true rfl, Nat.le_of_ble_eq_true rfl⟩) (q_pV (ci := 2) (q0 := 0) hP hK rfl rfl) rfl rfl hl.1 rfl (lv_room (Nat.le_of_ble_eq_true rfl)) dL_isHandSo_3 ⟨Nat.le_of_ble_eq_true rfl, Nat.le_of_ble_eq_true rfl⟩) (fun t h => trivial) hS (fun q h => h.elim) (fun x1 H locs e1 _ hk hS => ?_)
  have hP := k_kp hP hk
  have e1 : x1 = (nI ((hN T n))) := (show _ = T (72 + n) from e1).trans (hI.ok1 hn3).1
  subst e1
  refine lv_istore_n (lv' := [(3, .int (nI ((hN T n)))), (0, .ref (z.o)), (1, .int (nI n)), (2, .int (nI 1))]) hx hb dL_isHandSo_6 rfl hl (by decide) rfl (fun ls hl => ?_)
  refine lv_aload_n hx hb dL_isHandSo_7 rfl (lv_at hl 1 rfl) ?_
  refine lv_iload_n hx hb dL_isHandSo_8 rfl (lv_at hl 2 rfl) ?_
  refine lv_iconst (v := nI 4) hx hb dL_isHandSo_9 (by decide) ?_
  refine q_ciK (BH := fun _ => True) (va_runV (rm := { frames := 2, cells := 0, slots := 0, locals := 44 }) (As := [.int (nI n), .int (nI 4)]) (rest := []) ⟨hx, hb, hml, hown, hts⟩ (m2_pot_ok l D z ol sn 0 T S Y G 0 P ch B hI n (by omega) 4 (by omega)) (cwV 2 hts gL_isHandSo_X2_pot rfl rfl rfl (by decide +kernel) ⟨Nat.le_of_ble_eq_true rfl, Nat.le_of_ble_eq_true rfl⟩) (q_pV (ci := 2) (q0 := 0) hP hK rfl rfl) rfl rfl hl.1 rfl (lv_room (Nat.le_of_ble_eq_true rfl)) dL_isHandSo_10 ⟨Nat.le_of_ble_eq_true rfl, Nat.le_of_ble_eq_true rfl⟩) (fun t h => trivial) hS (fun q h => h.elim) (fun x2 H locs e2 _ hk hS => ?_)
  have hP := k_kp hP hk
  have e2 : x2 = (g_gs T n) := e2
  subst e2
  refine lv_aload_n hx hb dL_isHandSo_13 rfl (lv_at hl 1 rfl) ?_
  refine lv_iload_n hx hb dL_isHandSo_14 rfl (lv_at hl 0 rfl) ?_
  refine lv_iconst (v := nI 4) hx hb dL_isHandSo_15 (by decide) ?_
  refine q_ciK (BH := fun _ => True) (va_runV (rm := { frames := 1, cells := 0, slots := 0, locals := 23 }) (As := [.int (nI ((hN T n))), .int (nI 4)]) (rest := [.int (g_gs T n)]) ⟨hx, hb, hml, hown, hts⟩ (m2_guest_ok l D z ol sn 0 T S Y G 0 P ch B hI ((hN T n)) (by omega) 4 (by omega)) (cwV 2 hts gL_isHandSo_X2_guest rfl rfl rfl (by decide +kernel) ⟨Nat.le_of_ble_eq_true rfl, Nat.le_of_ble_eq_true rfl⟩) (q_pV (ci := 2) (q0 := 0) hP hK rfl rfl) rfl rfl hl.1 rfl (lv_room (Nat.le_of_ble_eq_true rfl)) dL_isHandSo_16 ⟨Nat.le_of_ble_eq_true rfl, Nat.le_of_ble_eq_true rfl⟩) (fun t h => trivial) hS (fun q h => h.elim) (fun x3 H locs e3 _ hk hS => ?_)
  have hP := k_kp hP hk
  have e3 : x3 = (T (32 + ((hN T n)))) := e3
  subst e3
  refine lv_iadd hx hb dL_isHandSo_19 ?_
  refine lv_istore (lv' := [(4, .int ((g_gs T n) + (T (32 + ((hN T n)))))), (3, .int (nI ((hN T n)))), (0, .ref (z.o)), (1, .int (nI n)), (2, .int (nI 1))]) hx hb dL_isHandSo_20 hl (by decide) rfl (fun ls hl => ?_)
  refine lv_iload hx hb dL_isHandSo_22 (lv_at hl 0 rfl) ?_
  have J47 : W p l e { frames := 6, cells := 0, slots := 0, locals := 140 } s m args below meth c H locs 0 0 Q (F0 m 47 ls [.int (g_wh T n)]) := by
    refine lv_istore (lv' := [(4, .int (g_wh T n)), (3, .int (nI ((hN T n)))), (0, .ref (z.o)), (1, .int (nI n)), (2, .int (nI 1))]) hx hb dL_isHandSo_47 hl (by decide) rfl (fun ls hl => ?_)
    refine lv_aload_n hx hb dL_isHandSo_49 rfl (lv_at hl 2 rfl) ?_
    refine lv_iload_n hx hb dL_isHandSo_50 rfl (lv_at hl 3 rfl) ?_
    refine lv_bipush (v := nI 7) hx hb dL_isHandSo_51 (by decide) ?_
    refine q_ciK (BH := fun _ => True) (va_runV (rm := { frames := 2, cells := 0, slots := 0, locals := 44 }) (As := [.int (nI n), .int (nI 7)]) (rest := []) ⟨hx, hb, hml, hown, hts⟩ (m2_pot_ok l D z ol sn 0 T S Y G 0 P ch B hI n (by omega) 7 (by omega)) (cwV 2 hts gL_isHandSo_X2_pot rfl rfl rfl (by decide +kernel) ⟨Nat.le_of_ble_eq_true rfl, Nat.le_of_ble_eq_true rfl⟩) (q_pV (ci := 2) (q0 := 0) hP hK rfl rfl) rfl rfl hl.1 rfl (lv_room (Nat.le_of_ble_eq_true rfl)) dL_isHandSo_53 ⟨Nat.le_of_ble_eq_true rfl, Nat.le_of_ble_eq_true rfl⟩) (fun t h => trivial) hS (fun q h => h.elim) (fun x4 H locs e4 _ hk hS => ?_)
    have hP := k_kp hP hk
    have e4 : x4 = (T (84 + n)) := e4
    subst e4
    refine lv_istore (lv' := [(5, .int (T (84 + n))), (4, .int (g_wh T n)), (3, .int (nI ((hN T n)))), (0, .ref (z.o)), (1, .int (nI n)), (2, .int (nI 1))]) hx hb dL_isHandSo_56 hl (by decide) rfl (fun ls hl => ?_)
    refine lv_aload_n hx hb dL_isHandSo_58 rfl (lv_at hl 3 rfl) ?_
    refine lv_iload_n hx hb dL_isHandSo_59 rfl (lv_at hl 4 rfl) ?_
    refine q_ciK (BH := fun H => ∃ Y2 : Nat → Int32, va_P D vwCl (wX z ol sn 0 T S Y2 G 0 P ch) H) (va_runV (rm := { frames := 5, cells := 0, slots := 0, locals := 118 }) (As := [.int (nI n)]) (rest := []) ⟨hx, hb, hml, hown, hts⟩ (m2_emptyIn_ok l D z ol sn 0 T S Y G 0 P ch B hI n hn3 hB2 hD) (cwV 1 hts gL_isHandSo_X2_emptyIn rfl rfl rfl (by decide +kernel) ⟨Nat.le_of_ble_eq_true rfl, Nat.le_of_ble_eq_true rfl⟩) (q_pV (ci := 2) (q0 := 0) hP hK rfl rfl) rfl rfl hl.1 rfl (lv_room (Nat.le_of_ble_eq_true rfl)) dL_isHandSo_60 ⟨Nat.le_of_ble_eq_true rfl, Nat.le_of_ble_eq_true rfl⟩) (fun t h => h) hS (fun q h => h) (fun x5 H locs e5 hP hk hS => ?_)
    obtain ⟨Y, hP⟩ := hP
    have hD := q_D2 (ws' := wX z ol sn 0 T S Y G 0 P ch) hDX rfl
    have e5 : x5 = g_ei 21 0 T n := e5
    subst e5
    refine lv_istore (lv' := [(6, .int (g_ei 21 0 T n)), (5, .int (T (84 + n))), (4, .int (g_wh T n)), (3, .int (nI ((hN T n)))), (0, .ref (z.o)), (1, .int (nI n)), (2, .int (nI 1))]) hx hb dL_isHandSo_63 hl (by decide) rfl (fun ls hl => ?_)
    refine lv_iload hx hb dL_isHandSo_65 (lv_at hl 0 rfl) ?_
    refine lv_if_ne (tgt := 74) hx hb dL_isHandSo_67 (by decide) (fun c6 => ?_) (fun c6 => absurd c6 (fun z => ei_n hf z))
    refine lv_iconst (v := nI 0) hx hb dL_isHandSo_74 (by decide) ?_
    refine lv_aload_n hx hb dL_isHandSo_75 rfl (lv_at hl 4 rfl) ?_
    refine lv_iload_n hx hb dL_isHandSo_76 rfl (lv_at hl 5 rfl) ?_
    refine lv_iconst (v := nI 1) hx hb dL_isHandSo_77 (by decide) ?_
    refine q_ciK (BH := fun _ => True) (va_runV (rm := { frames := 2, cells := 0, slots := 0, locals := 44 }) (As := [.int (nI n), .int (nI 1)]) (rest := [.int (nI 0)]) ⟨hx, hb, hml, hown, hts⟩ (m2_pot_ok l D z ol sn 0 T S Y G 0 P ch B hI n (by omega) 1 (by omega)) (cwV 2 hts gL_isHandSo_X2_pot rfl rfl rfl (by decide +kernel) ⟨Nat.le_of_ble_eq_true rfl, Nat.le_of_ble_eq_true rfl⟩) (q_pV (ci := 2) (q0 := 0) hP hK rfl rfl) rfl rfl hl.1 rfl (lv_room (Nat.le_of_ble_eq_true rfl)) dL_isHandSo_78 ⟨Nat.le_of_ble_eq_true rfl, Nat.le_of_ble_eq_true rfl⟩) (fun t h => trivial) hS (fun q h => h.elim) (fun x7 H locs e7 _ hk hS => ?_)
    have hP := k_kp hP hk
    have e7 : x7 = (T (75 + n)) := e7
    subst e7
    refine lv_if_ne (tgt := 88) hx hb dL_isHandSo_81 (by decide) (fun c8 => ?_) (fun c8 => absurd c8 (fun z => hf z))
    refine lv_iconst (v := nI 0) hx hb dL_isHandSo_88 (by decide) ?_
    refine q_neN (tgt := 164) hx hb (by omega) (by omega) dL_isHandSo_89 (by decide) (fun c9 => absurd c9 (by decide)) (fun c9 => ?_)
    refine lv_iload hx hb dL_isHandSo_92 (lv_at hl 0 rfl) ?_
    refine lv_bipush (v := nI 20) hx hb dL_isHandSo_94 (by decide) ?_
    refine lv_icmp_gt (tgt := 164) hx hb dL_isHandSo_96 (by decide) (fun c10 => absurd c10 (Int32.not_lt.mpr ei_le)) (fun c10 => ?_)
    refine lv_aload_n hx hb dL_isHandSo_99 rfl (lv_at hl 4 rfl) ?_
    refine lv_iload_n hx hb dL_isHandSo_100 rfl (lv_at hl 5 rfl) ?_
    refine lv_iload_n hx hb dL_isHandSo_101 rfl (lv_at hl 6 rfl) ?_
    refine q_ciK (BH := fun H => va_P D vwCl (wX z (so ol sn) (svn sn) 0 (g_hand T n 1) S Y (updG G (sr ol sn) T) 0 P ch) H) (va_runV (rm := { frames := 3, cells := 0, slots := 0, locals := 101 }) (As := [.int (nI n), .int (nI 1)]) (rest := []) ⟨hx, hb, hml, hown, hts⟩ (m2_hand_ok1 l D z ol sn 0 hol hsn T S Y G 0 P ch B hI n hn3 hD) (cwV 2 hts gL_isHandSo_X2_hand rfl rfl rfl (by decide +kernel) ⟨Nat.le_of_ble_eq_true rfl, Nat.le_of_ble_eq_true rfl⟩) (q_pV (ci := 2) (q0 := 0) hP hK rfl rfl) rfl rfl hl.1 rfl (lv_room (Nat.le_of_ble_eq_true rfl)) dL_isHandSo_102 ⟨Nat.le_of_ble_eq_true rfl, Nat.le_of_ble_eq_true rfl⟩) (fun t h => h) hS (fun q h => h) (fun x11 H locs e11 hP hk5 hS => ?_)
    have e11 : x11 = nI ((hN T n + 1) % 8) := e11
    subst e11
    obtain ⟨ol, S, Y, G, P, ch, hol, hG, hP⟩ := OU.of hol hsn hP
    have hD := q_D2 (ws' := wX z ol (1 + pn sn) 0 (g_hand T n 1) S Y G 0 P ch) hDX rfl
    have hI1 := hand_inv (d := 1) hI hn3
    have h8p := hI1.hN8 hn3
    refine lv_iload_n hx hb dL_isHandSo_105 rfl (lv_at hl 3 rfl) ?_
    refine lv_iload_n hx hb dL_isHandSo_106 rfl (lv_at hl 6 rfl) ?_
    refine lv_iconst (v := nI 1) hx hb dL_isHandSo_107 (by decide) ?_
    refine q_neN (tgt := 115) hx hb (by omega) (by omega) dL_isHandSo_108 (by decide) (fun c12 => absurd c12 (by decide)) (fun c12 => ?_)
    refine lv_iconst (v := nI 1) hx hb dL_isHandSo_111 (by decide) ?_
    refine lv_goto (tgt := 117) hx hb dL_isHandSo_112 (by decide) ?_
    refine q_addN hx hb (1 + (hN T n)) (by omega) dL_isHandSo_117 ?_
    refine lv_bipush (v := nI 8) hx hb dL_isHandSo_118 (by decide) ?_
    refine q_remN hx hb ((1 + (hN T n)) % 8) rfl (by omega) (by omega) (by omega) dL_isHandSo_120 ?_
    refine q_neN (tgt := 164) hx hb (by omega) (by omega) dL_isHandSo_121 (by decide) (fun c13 => absurd c13 (fun z => z (by omega))) (fun c13 => ?_)
    refine lv_aload_n hx hb dL_isHandSo_124 rfl (lv_at hl 4 rfl) ?_
    refine lv_iload_n hx hb dL_isHandSo_125 rfl (lv_at hl 5 rfl) ?_
    refine lv_iconst (v := nI 2) hx hb dL_isHandSo_126 (by decide) ?_
    refine q_ciK (BH := fun _ => True) (va_runV (rm := { frames := 2, cells := 0, slots := 0, locals := 44 }) (As := [.int (nI n), .int (nI 2)]) (rest := []) ⟨hx, hb, hml, hown, hts⟩ (m2_pot_ok l D z ol (1 + pn sn) 0 (g_hand T n 1) S Y G 0 P ch B hI1 n (by omega) 2 (by omega)) (cwV 2 hts gL_isHandSo_X2_pot rfl rfl rfl (by decide +kernel) ⟨Nat.le_of_ble_eq_true rfl, Nat.le_of_ble_eq_true rfl⟩) (q_pV (ci := 2) (q0 := 0) hP hK rfl rfl) rfl rfl hl.1 rfl (lv_room (Nat.le_of_ble_eq_true rfl)) dL_isHandSo_127 ⟨Nat.le_of_ble_eq_true rfl, Nat.le_of_ble_eq_true rfl⟩) (fun t h => trivial) hS (fun q h => h.elim) (fun x14 H locs e14 _ hk hS => ?_)
    have hP := k_kp hP hk
    have e14 : x14 = ((g_hand T n 1) (78 + n)) := e14
    subst e14
    refine lv_iload hx hb dL_isHandSo_130 (lv_at hl 2 rfl) ?_
    refine lv_icmp_ne (tgt := 164) hx hb dL_isHandSo_132 (by decide) (fun c15 => absurd c15 (fun z => z (hand_wh))) (fun c15 => ?_)
    refine lv_aload_n hx hb dL_isHandSo_135 rfl (lv_at hl 4 rfl) ?_
    refine lv_iload_n hx hb dL_isHandSo_136 rfl (lv_at hl 5 rfl) ?_
    refine lv_iload_n hx hb dL_isHandSo_137 rfl (lv_at hl 3 rfl) ?_
    refine q_ciK (BH := fun _ => True) (va_runV (rm := { frames := 1, cells := 0, slots := 0, locals := 20 }) (As := [.int (nI n), .int (nI ((hN T n)))]) (rest := []) ⟨hx, hb, hml, hown, hts⟩ (m2_told_ok l D z ol (1 + pn sn) 0 (g_hand T n 1) S Y G 0 P ch B hI1 n (by omega) ((hN T n)) (by omega)) (cwV 2 hts gL_isHandSo_X2_told rfl rfl rfl (by decide +kernel) ⟨Nat.le_of_ble_eq_true rfl, Nat.le_of_ble_eq_true rfl⟩) (q_pV (ci := 2) (q0 := 0) hP hK rfl rfl) rfl rfl hl.1 rfl (lv_room (Nat.le_of_ble_eq_true rfl)) dL_isHandSo_138 ⟨Nat.le_of_ble_eq_true rfl, Nat.le_of_ble_eq_true rfl⟩) (fun t h => trivial) hS (fun q h => h.elim) (fun x16 H locs e16 _ hk hS => ?_)
    have hP := k_kp hP hk
    have e16 : x16 = ((g_hand T n 1) (87 + 8 * n + ((hN T n)))) := e16
    subst e16
    refine lv_iload hx hb dL_isHandSo_141 (lv_at hl 2 rfl) ?_
    refine lv_icmp_ne (tgt := 164) hx hb dL_isHandSo_143 (by decide) (fun c17 => absurd c17 (fun z => z (hand_to hn3 h8))) (fun c17 => ?_)
    refine lv_aload_n hx hb dL_isHandSo_146 rfl (lv_at hl 4 rfl) ?_
    refine lv_iload_n hx hb dL_isHandSo_147 rfl (lv_at hl 5 rfl) ?_
    refine lv_bipush (v := nI 7) hx hb dL_isHandSo_148 (by decide) ?_
    refine q_ciK (BH := fun _ => True) (va_runV (rm := { frames := 2, cells := 0, slots := 0, locals := 44 }) (As := [.int (nI n), .int (nI 7)]) (rest := []) ⟨hx, hb, hml, hown, hts⟩ (m2_pot_ok l D z ol (1 + pn sn) 0 (g_hand T n 1) S Y G 0 P ch B hI1 n (by omega) 7 (by omega)) (cwV 2 hts gL_isHandSo_X2_pot rfl rfl rfl (by decide +kernel) ⟨Nat.le_of_ble_eq_true rfl, Nat.le_of_ble_eq_true rfl⟩) (q_pV (ci := 2) (q0 := 0) hP hK rfl rfl) rfl rfl hl.1 rfl (lv_room (Nat.le_of_ble_eq_true rfl)) dL_isHandSo_150 ⟨Nat.le_of_ble_eq_true rfl, Nat.le_of_ble_eq_true rfl⟩) (fun t h => trivial) hS (fun q h => h.elim) (fun x18 H locs e18 _ hk hS => ?_)
    have hP := k_kp hP hk
    have e18 : x18 = ((g_hand T n 1) (84 + n)) := e18
    subst e18
    refine lv_iload hx hb dL_isHandSo_153 (lv_at hl 1 rfl) ?_
    refine lv_iconst (v := nI 1) hx hb dL_isHandSo_155 (by decide) ?_
    refine lv_iadd hx hb dL_isHandSo_156 ?_
    refine lv_icmp_ne (tgt := 164) hx hb dL_isHandSo_157 (by decide) (fun c19 => absurd c19 (fun z => z (hand_cn hn3))) (fun c19 => ?_)
    refine lv_iconst (v := nI 1) hx hb dL_isHandSo_160 (by decide) ?_
    refine lv_goto (tgt := 165) hx hb dL_isHandSo_161 (by decide) ?_
    refine lv_istore (lv' := [(7, .int (nI 1)), (6, .int (g_ei 21 0 T n)), (5, .int (T (84 + n))), (4, .int (g_wh T n)), (3, .int (nI ((hN T n)))), (0, .ref (z.o)), (1, .int (nI n)), (2, .int (nI 1))]) hx hb dL_isHandSo_165 hl (by decide) rfl (fun ls hl => ?_)
    refine lv_iload hx hb dL_isHandSo_167 (lv_at hl 0 rfl) ?_
    refine lv_if_eq (tgt := 205) hx hb dL_isHandSo_169 (by decide) (fun c20 => absurd c20 (by decide)) (fun c20 => ?_)
    refine lv_aload_n hx hb dL_isHandSo_172 rfl (lv_at hl 5 rfl) ?_
    refine q_ciK (BH := fun H => va_P D vwCl (wX z ol (pn sn) 0 (G ((ol + pn sn) % 6)) S Y G 0 P ch) H) (va_runV (rm := { frames := 2, cells := 0, slots := 0, locals := 81 }) (As := []) (rest := []) ⟨hx, hb, hml, hown, hts⟩ (m2_undo_ok l D z ol (pn sn) 0 (g_hand T n 1) S Y G 0 P ch hol (pn_lt hsn) hD) (cwV 0 hts gL_isHandSo_X2_undo rfl rfl rfl (by decide +kernel) ⟨Nat.le_of_ble_eq_true rfl, Nat.le_of_ble_eq_true rfl⟩) (q_pV (ci := 2) (q0 := 0) hP hK rfl rfl) rfl rfl hl.1 rfl (lv_room (Nat.le_of_ble_eq_true rfl)) dL_isHandSo_173 ⟨Nat.le_of_ble_eq_true rfl, Nat.le_of_ble_eq_true rfl⟩) (fun t h => h) hS (fun q h => h) (fun x21 H locs e21 hP hk hS => ?_)
    rw [hG] at hP
    have e21 : x21 = nI (pn sn) := e21
    subst e21
    refine lv_if_lt (tgt := 205) hx hb dL_isHandSo_176 (by decide) (fun c22 => absurd c22 (nI_pos (by have := pn_lt hsn; omega))) (fun c22 => ?_)
    refine lv_aload_n hx hb dL_isHandSo_179 rfl (lv_at hl 5 rfl) ?_
    refine lv_iload_n hx hb dL_isHandSo_180 rfl (lv_at hl 6 rfl) ?_
    refine lv_iconst (v := nI 0) hx hb dL_isHandSo_181 (by decide) ?_
    refine q_ciK (BH := fun _ => True) (va_runV (rm := { frames := 2, cells := 0, slots := 0, locals := 44 }) (As := [.int (nI n), .int (nI 0)]) (rest := []) ⟨hx, hb, hml, hown, hts⟩ (m2_pot_ok l D z ol (pn sn) 0 T S Y G 0 P ch B hI n (by omega) 0 (by omega)) (cwV 2 hts gL_isHandSo_X2_pot rfl rfl rfl (by decide +kernel) ⟨Nat.le_of_ble_eq_true rfl, Nat.le_of_ble_eq_true rfl⟩) (q_pV (ci := 2) (q0 := 0) hP hK rfl rfl) rfl rfl hl.1 rfl (lv_room (Nat.le_of_ble_eq_true rfl)) dL_isHandSo_182 ⟨Nat.le_of_ble_eq_true rfl, Nat.le_of_ble_eq_true rfl⟩) (fun t h => trivial) hS (fun q h => h.elim) (fun x23 H locs e23 _ hk hS => ?_)
    have hP := k_kp hP hk
    have e23 : x23 = (nI ((hN T n))) := (show _ = T (72 + n) from e23).trans (hI.ok1 hn3).1
    subst e23
    refine lv_iload_n hx hb dL_isHandSo_185 rfl (lv_at hl 4 rfl) ?_
    refine q_neN (tgt := 205) hx hb (by omega) (by omega) dL_isHandSo_186 (by decide) (fun c24 => absurd c24 (fun z => z rfl)) (fun c24 => ?_)
    refine lv_aload_n hx hb dL_isHandSo_189 rfl (lv_at hl 5 rfl) ?_
    refine lv_iload_n hx hb dL_isHandSo_190 rfl (lv_at hl 6 rfl) ?_
    refine lv_bipush (v := nI 7) hx hb dL_isHandSo_191 (by decide) ?_
    refine q_ciK (BH := fun _ => True) (va_runV (rm := { frames := 2, cells := 0, slots := 0, locals := 44 }) (As := [.int (nI n), .int (nI 7)]) (rest := []) ⟨hx, hb, hml, hown, hts⟩ (m2_pot_ok l D z ol (pn sn) 0 T S Y G 0 P ch B hI n (by omega) 7 (by omega)) (cwV 2 hts gL_isHandSo_X2_pot rfl rfl rfl (by decide +kernel) ⟨Nat.le_of_ble_eq_true rfl, Nat.le_of_ble_eq_true rfl⟩) (q_pV (ci := 2) (q0 := 0) hP hK rfl rfl) rfl rfl hl.1 rfl (lv_room (Nat.le_of_ble_eq_true rfl)) dL_isHandSo_193 ⟨Nat.le_of_ble_eq_true rfl, Nat.le_of_ble_eq_true rfl⟩) (fun t h => trivial) hS (fun q h => h.elim) (fun x25 H locs e25 _ hk hS => ?_)
    have hP := k_kp hP hk
    have e25 : x25 = (T (84 + n)) := e25
    subst e25
    refine lv_iload hx hb dL_isHandSo_196 (lv_at hl 2 rfl) ?_
    refine lv_icmp_ne (tgt := 205) hx hb dL_isHandSo_198 (by decide) (fun c26 => absurd c26 (fun z => z (rfl))) (fun c26 => ?_)
    refine lv_iconst (v := nI 1) hx hb dL_isHandSo_201 (by decide) ?_
    refine lv_goto (tgt := 206) hx hb dL_isHandSo_202 (by decide) ?_
    exact hret _ _ _ _ ⟨pn sn, Nat.le_of_lt (pn_lt hsn), ol, S, Y, G, P, ch, hol, hP⟩ hS dL_isHandSo_206
  refine lv_if_ge (tgt := 31) hx hb dL_isHandSo_24 (by decide) (fun c27 => ?_) (fun c27 => ?_)
  ·
    refine lv_iload hx hb dL_isHandSo_31 (lv_at hl 0 rfl) ?_
    refine lv_sipush (v := nI 200) hx hb dL_isHandSo_33 (by decide) ?_
    refine lv_icmp_le (tgt := 45) hx hb dL_isHandSo_36 (by decide) (fun c28 => ?_) (fun c28 => ?_)
    ·
      refine lv_iload hx hb dL_isHandSo_45 (lv_at hl 0 rfl) ?_
      rw [wh_1 (Int32.not_lt.mpr c27) c28] at J47
      exact J47
    ·
      refine lv_sipush (v := nI 200) hx hb dL_isHandSo_39 (by decide) ?_
      refine lv_goto (tgt := 47) hx hb dL_isHandSo_42 (by decide) ?_
      rw [wh_2 c28] at J47
      exact J47
  ·
    refine lv_iconst (v := nI 0) hx hb dL_isHandSo_27 (by decide) ?_
    refine lv_goto (tgt := 47) hx hb dL_isHandSo_28 (by decide) ?_
    rw [wh_0 (Int32.not_le.mp c27)] at J47
    exact J47
set_option maxHeartbeats 8000000 in
set_option maxRecDepth 100000 in
theorem L_isHandSo_0z (l : Launch) (D : va_G) (z : Ad) (hDX : va_D (fun _ => True) (wX z 0 0 0 f00 f00 f00 (fun _ => f00) 0 (0, 0, 0, 0) (fun _ => 0))) (cI cS : ClassId) (ez : tyX z = [(cI, .int), (cS, .object RX1)]) (sn : Nat) (hsn : sn ≤ 6) (T : Nat → Int32) (B : Nat) (hI : Inv B T) (hB2 : B + 33600 < 2000000000) (n : Nat) (hn3 : n < 3) (hf : T (75 + n) = 0) : k_L l yL_isHandSo wsL_isHandSo { frames := 6, cells := 0, slots := 0, locals := 140 } [.ref z.o, .int (nI n), .int (nI 0)] D cI cS (OS z D sn T) (nI 1) (fun H => ∃ sn', sn' ≤ 6 ∧ OS z D sn' T H) (AX z) := by
  refine k_goL (cc := cL_isHandSo) (maxL := 8) (ty := .boolean) (lv0 := [(0, .ref z.o), (1, .int (nI n)), (2, .int (nI 0))]) (by decide) rfl (Nat.le_of_ble_eq_true rfl) rfl (by first | rfl | decide) ?_
  intro p e s m args below meth c Q ls hx hb hml hts hown hC hK hl hret
  obtain ⟨ol, S, Y, G, P, ch, hol, hP⟩ := hC
  rw [← ez] at hK
  have hD := q_D2 (ws' := wX z ol sn 0 T S Y G 0 P ch) hDX rfl
  have hS : va_S (AX z) s.heap s.heap [] := va_S.rf
  have h8 := hI.hN8 hn3
  refine lv_aload_n hx hb dL_isHandSo_0 rfl (lv_at hl 0 rfl) ?_
  refine lv_iload_n hx hb dL_isHandSo_1 rfl (lv_at hl 1 rfl) ?_
  refine lv_iconst (v := nI 0) hx hb dL_isHandSo_2 (by decide) ?_
  refine q_ciK (BH := fun _ => True) (va_runV (rm := { frames := 2, cells := 0, slots := 0, locals := 44 }) (As := [.int (nI n), .int (nI 0)]) (rest := []) ⟨hx, hb, hml, hown, hts⟩ (m2_pot_ok l D z ol sn 0 T S Y G 0 P ch B hI n (by omega) 0 (by omega)) (cwV 2 hts gL_isHandSo_X2_pot rfl rfl rfl (by decide +kernel) ⟨Nat.le_of_ble_eq_true rfl, Nat.le_of_ble_eq_true rfl⟩) (q_pV (ci := 2) (q0 := 0) hP hK rfl rfl) rfl rfl hl.1 rfl (lv_room (Nat.le_of_ble_eq_true rfl)) dL_isHandSo_3 ⟨Nat.le_of_ble_eq_true rfl, Nat.le_of_ble_eq_true rfl⟩) (fun t h => trivial) hS (fun q h => h.elim) (fun x1 H locs e1 _ hk hS => ?_)
  have hP := k_kp hP hk
  have e1 : x1 = (nI ((hN T n))) := (show _ = T (72 + n) from e1).trans (hI.ok1 hn3).1
  subst e1
  refine lv_istore_n (lv' := [(3, .int (nI ((hN T n)))), (0, .ref (z.o)), (1, .int (nI n)), (2, .int (nI 0))]) hx hb dL_isHandSo_6 rfl hl (by decide) rfl (fun ls hl => ?_)
  refine lv_aload_n hx hb dL_isHandSo_7 rfl (lv_at hl 1 rfl) ?_
  refine lv_iload_n hx hb dL_isHandSo_8 rfl (lv_at hl 2 rfl) ?_
  refine lv_iconst (v := nI 4) hx hb dL_isHandSo_9 (by decide) ?_
  refine q_ciK (BH := fun _ => True) (va_runV (rm := { frames := 2, cells := 0, slots := 0, locals := 44 }) (As := [.int (nI n), .int (nI 4)]) (rest := []) ⟨hx, hb, hml, hown, hts⟩ (m2_pot_ok l D z ol sn 0 T S Y G 0 P ch B hI n (by omega) 4 (by omega)) (cwV 2 hts gL_isHandSo_X2_pot rfl rfl rfl (by decide +kernel) ⟨Nat.le_of_ble_eq_true rfl, Nat.le_of_ble_eq_true rfl⟩) (q_pV (ci := 2) (q0 := 0) hP hK rfl rfl) rfl rfl hl.1 rfl (lv_room (Nat.le_of_ble_eq_true rfl)) dL_isHandSo_10 ⟨Nat.le_of_ble_eq_true rfl, Nat.le_of_ble_eq_true rfl⟩) (fun t h => trivial) hS (fun q h => h.elim) (fun x2 H locs e2 _ hk hS => ?_)
  have hP := k_kp hP hk
  have e2 : x2 = (g_gs T n) := e2
  subst e2
  refine lv_aload_n hx hb dL_isHandSo_13 rfl (lv_at hl 1 rfl) ?_
  refine lv_iload_n hx hb dL_isHandSo_14 rfl (lv_at hl 0 rfl) ?_
  refine lv_iconst (v := nI 4) hx hb dL_isHandSo_15 (by decide) ?_
  refine q_ciK (BH := fun _ => True) (va_runV (rm := { frames := 1, cells := 0, slots := 0, locals := 23 }) (As := [.int (nI ((hN T n))), .int (nI 4)]) (rest := [.int (g_gs T n)]) ⟨hx, hb, hml, hown, hts⟩ (m2_guest_ok l D z ol sn 0 T S Y G 0 P ch B hI ((hN T n)) (by omega) 4 (by omega)) (cwV 2 hts gL_isHandSo_X2_guest rfl rfl rfl (by decide +kernel) ⟨Nat.le_of_ble_eq_true rfl, Nat.le_of_ble_eq_true rfl⟩) (q_pV (ci := 2) (q0 := 0) hP hK rfl rfl) rfl rfl hl.1 rfl (lv_room (Nat.le_of_ble_eq_true rfl)) dL_isHandSo_16 ⟨Nat.le_of_ble_eq_true rfl, Nat.le_of_ble_eq_true rfl⟩) (fun t h => trivial) hS (fun q h => h.elim) (fun x3 H locs e3 _ hk hS => ?_)
  have hP := k_kp hP hk
  have e3 : x3 = (T (32 + ((hN T n)))) := e3
  subst e3
  refine lv_iadd hx hb dL_isHandSo_19 ?_
  refine lv_istore (lv' := [(4, .int ((g_gs T n) + (T (32 + ((hN T n)))))), (3, .int (nI ((hN T n)))), (0, .ref (z.o)), (1, .int (nI n)), (2, .int (nI 0))]) hx hb dL_isHandSo_20 hl (by decide) rfl (fun ls hl => ?_)
  refine lv_iload hx hb dL_isHandSo_22 (lv_at hl 0 rfl) ?_
  have J47 : W p l e { frames := 6, cells := 0, slots := 0, locals := 140 } s m args below meth c H locs 0 0 Q (F0 m 47 ls [.int (g_wh T n)]) := by
    refine lv_istore (lv' := [(4, .int (g_wh T n)), (3, .int (nI ((hN T n)))), (0, .ref (z.o)), (1, .int (nI n)), (2, .int (nI 0))]) hx hb dL_isHandSo_47 hl (by decide) rfl (fun ls hl => ?_)
    refine lv_aload_n hx hb dL_isHandSo_49 rfl (lv_at hl 2 rfl) ?_
    refine lv_iload_n hx hb dL_isHandSo_50 rfl (lv_at hl 3 rfl) ?_
    refine lv_bipush (v := nI 7) hx hb dL_isHandSo_51 (by decide) ?_
    refine q_ciK (BH := fun _ => True) (va_runV (rm := { frames := 2, cells := 0, slots := 0, locals := 44 }) (As := [.int (nI n), .int (nI 7)]) (rest := []) ⟨hx, hb, hml, hown, hts⟩ (m2_pot_ok l D z ol sn 0 T S Y G 0 P ch B hI n (by omega) 7 (by omega)) (cwV 2 hts gL_isHandSo_X2_pot rfl rfl rfl (by decide +kernel) ⟨Nat.le_of_ble_eq_true rfl, Nat.le_of_ble_eq_true rfl⟩) (q_pV (ci := 2) (q0 := 0) hP hK rfl rfl) rfl rfl hl.1 rfl (lv_room (Nat.le_of_ble_eq_true rfl)) dL_isHandSo_53 ⟨Nat.le_of_ble_eq_true rfl, Nat.le_of_ble_eq_true rfl⟩) (fun t h => trivial) hS (fun q h => h.elim) (fun x4 H locs e4 _ hk hS => ?_)
    have hP := k_kp hP hk
    have e4 : x4 = (T (84 + n)) := e4
    subst e4
    refine lv_istore (lv' := [(5, .int (T (84 + n))), (4, .int (g_wh T n)), (3, .int (nI ((hN T n)))), (0, .ref (z.o)), (1, .int (nI n)), (2, .int (nI 0))]) hx hb dL_isHandSo_56 hl (by decide) rfl (fun ls hl => ?_)
    refine lv_aload_n hx hb dL_isHandSo_58 rfl (lv_at hl 3 rfl) ?_
    refine lv_iload_n hx hb dL_isHandSo_59 rfl (lv_at hl 4 rfl) ?_
    refine q_ciK (BH := fun H => ∃ Y2 : Nat → Int32, va_P D vwCl (wX z ol sn 0 T S Y2 G 0 P ch) H) (va_runV (rm := { frames := 5, cells := 0, slots := 0, locals := 118 }) (As := [.int (nI n)]) (rest := []) ⟨hx, hb, hml, hown, hts⟩ (m2_emptyIn_ok l D z ol sn 0 T S Y G 0 P ch B hI n hn3 hB2 hD) (cwV 1 hts gL_isHandSo_X2_emptyIn rfl rfl rfl (by decide +kernel) ⟨Nat.le_of_ble_eq_true rfl, Nat.le_of_ble_eq_true rfl⟩) (q_pV (ci := 2) (q0 := 0) hP hK rfl rfl) rfl rfl hl.1 rfl (lv_room (Nat.le_of_ble_eq_true rfl)) dL_isHandSo_60 ⟨Nat.le_of_ble_eq_true rfl, Nat.le_of_ble_eq_true rfl⟩) (fun t h => h) hS (fun q h => h) (fun x5 H locs e5 hP hk hS => ?_)
    obtain ⟨Y, hP⟩ := hP
    have hD := q_D2 (ws' := wX z ol sn 0 T S Y G 0 P ch) hDX rfl
    have e5 : x5 = g_ei 21 0 T n := e5
    subst e5
    refine lv_istore (lv' := [(6, .int (g_ei 21 0 T n)), (5, .int (T (84 + n))), (4, .int (g_wh T n)), (3, .int (nI ((hN T n)))), (0, .ref (z.o)), (1, .int (nI n)), (2, .int (nI 0))]) hx hb dL_isHandSo_63 hl (by decide) rfl (fun ls hl => ?_)
    refine lv_iload hx hb dL_isHandSo_65 (lv_at hl 0 rfl) ?_
    refine lv_if_ne (tgt := 74) hx hb dL_isHandSo_67 (by decide) (fun c6 => absurd c6 (fun z => z (ei_0 hf))) (fun c6 => ?_)
    refine lv_iconst (v := nI 1) hx hb dL_isHandSo_70 (by decide) ?_
    refine lv_goto (tgt := 75) hx hb dL_isHandSo_71 (by decide) ?_
    refine lv_aload_n hx hb dL_isHandSo_75 rfl (lv_at hl 4 rfl) ?_
    refine lv_iload_n hx hb dL_isHandSo_76 rfl (lv_at hl 5 rfl) ?_
    refine lv_iconst (v := nI 1) hx hb dL_isHandSo_77 (by decide) ?_
    refine q_ciK (BH := fun _ => True) (va_runV (rm := { frames := 2, cells := 0, slots := 0, locals := 44 }) (As := [.int (nI n), .int (nI 1)]) (rest := [.int (nI 1)]) ⟨hx, hb, hml, hown, hts⟩ (m2_pot_ok l D z ol sn 0 T S Y G 0 P ch B hI n (by omega) 1 (by omega)) (cwV 2 hts gL_isHandSo_X2_pot rfl rfl rfl (by decide +kernel) ⟨Nat.le_of_ble_eq_true rfl, Nat.le_of_ble_eq_true rfl⟩) (q_pV (ci := 2) (q0 := 0) hP hK rfl rfl) rfl rfl hl.1 rfl (lv_room (Nat.le_of_ble_eq_true rfl)) dL_isHandSo_78 ⟨Nat.le_of_ble_eq_true rfl, Nat.le_of_ble_eq_true rfl⟩) (fun t h => trivial) hS (fun q h => h.elim) (fun x7 H locs e7 _ hk hS => ?_)
    have hP := k_kp hP hk
    have e7 : x7 = (T (75 + n)) := e7
    subst e7
    refine lv_if_ne (tgt := 88) hx hb dL_isHandSo_81 (by decide) (fun c8 => absurd c8 (fun z => z (hf))) (fun c8 => ?_)
    refine lv_iconst (v := nI 1) hx hb dL_isHandSo_84 (by decide) ?_
    refine lv_goto (tgt := 89) hx hb dL_isHandSo_85 (by decide) ?_
    refine q_neN (tgt := 164) hx hb (by omega) (by omega) dL_isHandSo_89 (by decide) (fun c9 => absurd c9 (by decide)) (fun c9 => ?_)
    refine lv_iload hx hb dL_isHandSo_92 (lv_at hl 0 rfl) ?_
    refine lv_bipush (v := nI 20) hx hb dL_isHandSo_94 (by decide) ?_
    refine lv_icmp_gt (tgt := 164) hx hb dL_isHandSo_96 (by decide) (fun c10 => absurd c10 (Int32.not_lt.mpr ei_le)) (fun c10 => ?_)
    refine lv_aload_n hx hb dL_isHandSo_99 rfl (lv_at hl 4 rfl) ?_
    refine lv_iload_n hx hb dL_isHandSo_100 rfl (lv_at hl 5 rfl) ?_
    refine lv_iload_n hx hb dL_isHandSo_101 rfl (lv_at hl 6 rfl) ?_
    refine q_ciK (BH := fun H => va_P D vwCl (wX z (so ol sn) (svn sn) 0 (g_hand T n 7) S Y (updG G (sr ol sn) T) 0 P ch) H) (va_runV (rm := { frames := 3, cells := 0, slots := 0, locals := 101 }) (As := [.int (nI n), .int (nI 0)]) (rest := []) ⟨hx, hb, hml, hown, hts⟩ (m2_hand_ok0 l D z ol sn 0 hol hsn T S Y G 0 P ch B hI n hn3 hD) (cwV 2 hts gL_isHandSo_X2_hand rfl rfl rfl (by decide +kernel) ⟨Nat.le_of_ble_eq_true rfl, Nat.le_of_ble_eq_true rfl⟩) (q_pV (ci := 2) (q0 := 0) hP hK rfl rfl) rfl rfl hl.1 rfl (lv_room (Nat.le_of_ble_eq_true rfl)) dL_isHandSo_102 ⟨Nat.le_of_ble_eq_true rfl, Nat.le_of_ble_eq_true rfl⟩) (fun t h => h) hS (fun q h => h) (fun x11 H locs e11 hP hk5 hS => ?_)
    have e11 : x11 = nI ((hN T n + 7) % 8) := e11
    subst e11
    obtain ⟨ol, S, Y, G, P, ch, hol, hG, hP⟩ := OU.of hol hsn hP
    have hD := q_D2 (ws' := wX z ol (1 + pn sn) 0 (g_hand T n 7) S Y G 0 P ch) hDX rfl
    have hI1 := hand_inv (d := 7) hI hn3
    have h8p := hI1.hN8 hn3
    refine lv_iload_n hx hb dL_isHandSo_105 rfl (lv_at hl 3 rfl) ?_
    refine lv_iload_n hx hb dL_isHandSo_106 rfl (lv_at hl 6 rfl) ?_
    refine lv_iconst (v := nI 1) hx hb dL_isHandSo_107 (by decide) ?_
    refine q_neN (tgt := 115) hx hb (by omega) (by omega) dL_isHandSo_108 (by decide) (fun c12 => ?_) (fun c12 => absurd c12 (by decide))
    refine lv_bipush (v := nI 7) hx hb dL_isHandSo_115 (by decide) ?_
    refine q_addN hx hb (7 + (hN T n)) (by omega) dL_isHandSo_117 ?_
    refine lv_bipush (v := nI 8) hx hb dL_isHandSo_118 (by decide) ?_
    refine q_remN hx hb ((7 + (hN T n)) % 8) rfl (by omega) (by omega) (by omega) dL_isHandSo_120 ?_
    refine q_neN (tgt := 164) hx hb (by omega) (by omega) dL_isHandSo_121 (by decide) (fun c13 => absurd c13 (fun z => z (by omega))) (fun c13 => ?_)
    refine lv_aload_n hx hb dL_isHandSo_124 rfl (lv_at hl 4 rfl) ?_
    refine lv_iload_n hx hb dL_isHandSo_125 rfl (lv_at hl 5 rfl) ?_
    refine lv_iconst (v := nI 2) hx hb dL_isHandSo_126 (by decide) ?_
    refine q_ciK (BH := fun _ => True) (va_runV (rm := { frames := 2, cells := 0, slots := 0, locals := 44 }) (As := [.int (nI n), .int (nI 2)]) (rest := []) ⟨hx, hb, hml, hown, hts⟩ (m2_pot_ok l D z ol (1 + pn sn) 0 (g_hand T n 7) S Y G 0 P ch B hI1 n (by omega) 2 (by omega)) (cwV 2 hts gL_isHandSo_X2_pot rfl rfl rfl (by decide +kernel) ⟨Nat.le_of_ble_eq_true rfl, Nat.le_of_ble_eq_true rfl⟩) (q_pV (ci := 2) (q0 := 0) hP hK rfl rfl) rfl rfl hl.1 rfl (lv_room (Nat.le_of_ble_eq_true rfl)) dL_isHandSo_127 ⟨Nat.le_of_ble_eq_true rfl, Nat.le_of_ble_eq_true rfl⟩) (fun t h => trivial) hS (fun q h => h.elim) (fun x14 H locs e14 _ hk hS => ?_)
    have hP := k_kp hP hk
    have e14 : x14 = ((g_hand T n 7) (78 + n)) := e14
    subst e14
    refine lv_iload hx hb dL_isHandSo_130 (lv_at hl 2 rfl) ?_
    refine lv_icmp_ne (tgt := 164) hx hb dL_isHandSo_132 (by decide) (fun c15 => absurd c15 (fun z => z (hand_wh))) (fun c15 => ?_)
    refine lv_aload_n hx hb dL_isHandSo_135 rfl (lv_at hl 4 rfl) ?_
    refine lv_iload_n hx hb dL_isHandSo_136 rfl (lv_at hl 5 rfl) ?_
    refine lv_iload_n hx hb dL_isHandSo_137 rfl (lv_at hl 3 rfl) ?_
    refine q_ciK (BH := fun _ => True) (va_runV (rm := { frames := 1, cells := 0, slots := 0, locals := 20 }) (As := [.int (nI n), .int (nI ((hN T n)))]) (rest := []) ⟨hx, hb, hml, hown, hts⟩ (m2_told_ok l D z ol (1 + pn sn) 0 (g_hand T n 7) S Y G 0 P ch B hI1 n (by omega) ((hN T n)) (by omega)) (cwV 2 hts gL_isHandSo_X2_told rfl rfl rfl (by decide +kernel) ⟨Nat.le_of_ble_eq_true rfl, Nat.le_of_ble_eq_true rfl⟩) (q_pV (ci := 2) (q0 := 0) hP hK rfl rfl) rfl rfl hl.1 rfl (lv_room (Nat.le_of_ble_eq_true rfl)) dL_isHandSo_138 ⟨Nat.le_of_ble_eq_true rfl, Nat.le_of_ble_eq_true rfl⟩) (fun t h => trivial) hS (fun q h => h.elim) (fun x16 H locs e16 _ hk hS => ?_)
    have hP := k_kp hP hk
    have e16 : x16 = ((g_hand T n 7) (87 + 8 * n + ((hN T n)))) := e16
    subst e16
    refine lv_iload hx hb dL_isHandSo_141 (lv_at hl 2 rfl) ?_
    refine lv_icmp_ne (tgt := 164) hx hb dL_isHandSo_143 (by decide) (fun c17 => absurd c17 (fun z => z (hand_to hn3 h8))) (fun c17 => ?_)
    refine lv_aload_n hx hb dL_isHandSo_146 rfl (lv_at hl 4 rfl) ?_
    refine lv_iload_n hx hb dL_isHandSo_147 rfl (lv_at hl 5 rfl) ?_
    refine lv_bipush (v := nI 7) hx hb dL_isHandSo_148 (by decide) ?_
    refine q_ciK (BH := fun _ => True) (va_runV (rm := { frames := 2, cells := 0, slots := 0, locals := 44 }) (As := [.int (nI n), .int (nI 7)]) (rest := []) ⟨hx, hb, hml, hown, hts⟩ (m2_pot_ok l D z ol (1 + pn sn) 0 (g_hand T n 7) S Y G 0 P ch B hI1 n (by omega) 7 (by omega)) (cwV 2 hts gL_isHandSo_X2_pot rfl rfl rfl (by decide +kernel) ⟨Nat.le_of_ble_eq_true rfl, Nat.le_of_ble_eq_true rfl⟩) (q_pV (ci := 2) (q0 := 0) hP hK rfl rfl) rfl rfl hl.1 rfl (lv_room (Nat.le_of_ble_eq_true rfl)) dL_isHandSo_150 ⟨Nat.le_of_ble_eq_true rfl, Nat.le_of_ble_eq_true rfl⟩) (fun t h => trivial) hS (fun q h => h.elim) (fun x18 H locs e18 _ hk hS => ?_)
    have hP := k_kp hP hk
    have e18 : x18 = ((g_hand T n 7) (84 + n)) := e18
    subst e18
    refine lv_iload hx hb dL_isHandSo_153 (lv_at hl 1 rfl) ?_
    refine lv_iconst (v := nI 1) hx hb dL_isHandSo_155 (by decide) ?_
    refine lv_iadd hx hb dL_isHandSo_156 ?_
    refine lv_icmp_ne (tgt := 164) hx hb dL_isHandSo_157 (by decide) (fun c19 => absurd c19 (fun z => z (hand_cn hn3))) (fun c19 => ?_)
    refine lv_iconst (v := nI 1) hx hb dL_isHandSo_160 (by decide) ?_
    refine lv_goto (tgt := 165) hx hb dL_isHandSo_161 (by decide) ?_
    refine lv_istore (lv' := [(7, .int (nI 1)), (6, .int (g_ei 21 0 T n)), (5, .int (T (84 + n))), (4, .int (g_wh T n)), (3, .int (nI ((hN T n)))), (0, .ref (z.o)), (1, .int (nI n)), (2, .int (nI 0))]) hx hb dL_isHandSo_165 hl (by decide) rfl (fun ls hl => ?_)
    refine lv_iload hx hb dL_isHandSo_167 (lv_at hl 0 rfl) ?_
    refine lv_if_eq (tgt := 205) hx hb dL_isHandSo_169 (by decide) (fun c20 => absurd c20 (by decide)) (fun c20 => ?_)
    refine lv_aload_n hx hb dL_isHandSo_172 rfl (lv_at hl 5 rfl) ?_
    refine q_ciK (BH := fun H => va_P D vwCl (wX z ol (pn sn) 0 (G ((ol + pn sn) % 6)) S Y G 0 P ch) H) (va_runV (rm := { frames := 2, cells := 0, slots := 0, locals := 81 }) (As := []) (rest := []) ⟨hx, hb, hml, hown, hts⟩ (m2_undo_ok l D z ol (pn sn) 0 (g_hand T n 7) S Y G 0 P ch hol (pn_lt hsn) hD) (cwV 0 hts gL_isHandSo_X2_undo rfl rfl rfl (by decide +kernel) ⟨Nat.le_of_ble_eq_true rfl, Nat.le_of_ble_eq_true rfl⟩) (q_pV (ci := 2) (q0 := 0) hP hK rfl rfl) rfl rfl hl.1 rfl (lv_room (Nat.le_of_ble_eq_true rfl)) dL_isHandSo_173 ⟨Nat.le_of_ble_eq_true rfl, Nat.le_of_ble_eq_true rfl⟩) (fun t h => h) hS (fun q h => h) (fun x21 H locs e21 hP hk hS => ?_)
    rw [hG] at hP
    have e21 : x21 = nI (pn sn) := e21
    subst e21
    refine lv_if_lt (tgt := 205) hx hb dL_isHandSo_176 (by decide) (fun c22 => absurd c22 (nI_pos (by have := pn_lt hsn; omega))) (fun c22 => ?_)
    refine lv_aload_n hx hb dL_isHandSo_179 rfl (lv_at hl 5 rfl) ?_
    refine lv_iload_n hx hb dL_isHandSo_180 rfl (lv_at hl 6 rfl) ?_
    refine lv_iconst (v := nI 0) hx hb dL_isHandSo_181 (by decide) ?_
    refine q_ciK (BH := fun _ => True) (va_runV (rm := { frames := 2, cells := 0, slots := 0, locals := 44 }) (As := [.int (nI n), .int (nI 0)]) (rest := []) ⟨hx, hb, hml, hown, hts⟩ (m2_pot_ok l D z ol (pn sn) 0 T S Y G 0 P ch B hI n (by omega) 0 (by omega)) (cwV 2 hts gL_isHandSo_X2_pot rfl rfl rfl (by decide +kernel) ⟨Nat.le_of_ble_eq_true rfl, Nat.le_of_ble_eq_true rfl⟩) (q_pV (ci := 2) (q0 := 0) hP hK rfl rfl) rfl rfl hl.1 rfl (lv_room (Nat.le_of_ble_eq_true rfl)) dL_isHandSo_182 ⟨Nat.le_of_ble_eq_true rfl, Nat.le_of_ble_eq_true rfl⟩) (fun t h => trivial) hS (fun q h => h.elim) (fun x23 H locs e23 _ hk hS => ?_)
    have hP := k_kp hP hk
    have e23 : x23 = (nI ((hN T n))) := (show _ = T (72 + n) from e23).trans (hI.ok1 hn3).1
    subst e23
    refine lv_iload_n hx hb dL_isHandSo_185 rfl (lv_at hl 4 rfl) ?_
    refine q_neN (tgt := 205) hx hb (by omega) (by omega) dL_isHandSo_186 (by decide) (fun c24 => absurd c24 (fun z => z rfl)) (fun c24 => ?_)
    refine lv_aload_n hx hb dL_isHandSo_189 rfl (lv_at hl 5 rfl) ?_
    refine lv_iload_n hx hb dL_isHandSo_190 rfl (lv_at hl 6 rfl) ?_
    refine lv_bipush (v := nI 7) hx hb dL_isHandSo_191 (by decide) ?_
    refine q_ciK (BH := fun _ => True) (va_runV (rm := { frames := 2, cells := 0, slots := 0, locals := 44 }) (As := [.int (nI n), .int (nI 7)]) (rest := []) ⟨hx, hb, hml, hown, hts⟩ (m2_pot_ok l D z ol (pn sn) 0 T S Y G 0 P ch B hI n (by omega) 7 (by omega)) (cwV 2 hts gL_isHandSo_X2_pot rfl rfl rfl (by decide +kernel) ⟨Nat.le_of_ble_eq_true rfl, Nat.le_of_ble_eq_true rfl⟩) (q_pV (ci := 2) (q0 := 0) hP hK rfl rfl) rfl rfl hl.1 rfl (lv_room (Nat.le_of_ble_eq_true rfl)) dL_isHandSo_193 ⟨Nat.le_of_ble_eq_true rfl, Nat.le_of_ble_eq_true rfl⟩) (fun t h => trivial) hS (fun q h => h.elim) (fun x25 H locs e25 _ hk hS => ?_)
    have hP := k_kp hP hk
    have e25 : x25 = (T (84 + n)) := e25
    subst e25
    refine lv_iload hx hb dL_isHandSo_196 (lv_at hl 2 rfl) ?_
    refine lv_icmp_ne (tgt := 205) hx hb dL_isHandSo_198 (by decide) (fun c26 => absurd c26 (fun z => z (rfl))) (fun c26 => ?_)
    refine lv_iconst (v := nI 1) hx hb dL_isHandSo_201 (by decide) ?_
    refine lv_goto (tgt := 206) hx hb dL_isHandSo_202 (by decide) ?_
    exact hret _ _ _ _ ⟨pn sn, Nat.le_of_lt (pn_lt hsn), ol, S, Y, G, P, ch, hol, hP⟩ hS dL_isHandSo_206
  refine lv_if_ge (tgt := 31) hx hb dL_isHandSo_24 (by decide) (fun c27 => ?_) (fun c27 => ?_)
  ·
    refine lv_iload hx hb dL_isHandSo_31 (lv_at hl 0 rfl) ?_
    refine lv_sipush (v := nI 200) hx hb dL_isHandSo_33 (by decide) ?_
    refine lv_icmp_le (tgt := 45) hx hb dL_isHandSo_36 (by decide) (fun c28 => ?_) (fun c28 => ?_)
    ·
      refine lv_iload hx hb dL_isHandSo_45 (lv_at hl 0 rfl) ?_
      rw [wh_1 (Int32.not_lt.mpr c27) c28] at J47
      exact J47
    ·
      refine lv_sipush (v := nI 200) hx hb dL_isHandSo_39 (by decide) ?_
      refine lv_goto (tgt := 47) hx hb dL_isHandSo_42 (by decide) ?_
      rw [wh_2 c28] at J47
      exact J47
  ·
    refine lv_iconst (v := nI 0) hx hb dL_isHandSo_27 (by decide) ?_
    refine lv_goto (tgt := 47) hx hb dL_isHandSo_28 (by decide) ?_
    rw [wh_0 (Int32.not_le.mp c27)] at J47
    exact J47
set_option maxHeartbeats 8000000 in
set_option maxRecDepth 100000 in
theorem L_isHandSo_0n (l : Launch) (D : va_G) (z : Ad) (hDX : va_D (fun _ => True) (wX z 0 0 0 f00 f00 f00 (fun _ => f00) 0 (0, 0, 0, 0) (fun _ => 0))) (cI cS : ClassId) (ez : tyX z = [(cI, .int), (cS, .object RX1)]) (sn : Nat) (hsn : sn ≤ 6) (T : Nat → Int32) (B : Nat) (hI : Inv B T) (hB2 : B + 33600 < 2000000000) (n : Nat) (hn3 : n < 3) (hf : ¬ T (75 + n) = 0) : k_L l yL_isHandSo wsL_isHandSo { frames := 6, cells := 0, slots := 0, locals := 140 } [.ref z.o, .int (nI n), .int (nI 0)] D cI cS (OS z D sn T) (nI 1) (fun H => ∃ sn', sn' ≤ 6 ∧ OS z D sn' T H) (AX z) := by
  refine k_goL (cc := cL_isHandSo) (maxL := 8) (ty := .boolean) (lv0 := [(0, .ref z.o), (1, .int (nI n)), (2, .int (nI 0))]) (by decide) rfl (Nat.le_of_ble_eq_true rfl) rfl (by first | rfl | decide) ?_
  intro p e s m args below meth c Q ls hx hb hml hts hown hC hK hl hret
  obtain ⟨ol, S, Y, G, P, ch, hol, hP⟩ := hC
  rw [← ez] at hK
  have hD := q_D2 (ws' := wX z ol sn 0 T S Y G 0 P ch) hDX rfl
  have hS : va_S (AX z) s.heap s.heap [] := va_S.rf
  have h8 := hI.hN8 hn3
  refine lv_aload_n hx hb dL_isHandSo_0 rfl (lv_at hl 0 rfl) ?_
  refine lv_iload_n hx hb dL_isHandSo_1 rfl (lv_at hl 1 rfl) ?_
  refine lv_iconst (v := nI 0) hx hb dL_isHandSo_2 (by decide) ?_
  refine q_ciK (BH := fun _ => True) (va_runV (rm := { frames := 2, cells := 0, slots := 0, locals := 44 }) (As := [.int (nI n), .int (nI 0)]) (rest := []) ⟨hx, hb, hml, hown, hts⟩ (m2_pot_ok l D z ol sn 0 T S Y G 0 P ch B hI n (by omega) 0 (by omega)) (cwV 2 hts gL_isHandSo_X2_pot rfl rfl rfl (by decide +kernel) ⟨Nat.le_of_ble_eq_true rfl, Nat.le_of_ble_eq_true rfl⟩) (q_pV (ci := 2) (q0 := 0) hP hK rfl rfl) rfl rfl hl.1 rfl (lv_room (Nat.le_of_ble_eq_true rfl)) dL_isHandSo_3 ⟨Nat.le_of_ble_eq_true rfl, Nat.le_of_ble_eq_true rfl⟩) (fun t h => trivial) hS (fun q h => h.elim) (fun x1 H locs e1 _ hk hS => ?_)
  have hP := k_kp hP hk
  have e1 : x1 = (nI ((hN T n))) := (show _ = T (72 + n) from e1).trans (hI.ok1 hn3).1
  subst e1
  refine lv_istore_n (lv' := [(3, .int (nI ((hN T n)))), (0, .ref (z.o)), (1, .int (nI n)), (2, .int (nI 0))]) hx hb dL_isHandSo_6 rfl hl (by decide) rfl (fun ls hl => ?_)
  refine lv_aload_n hx hb dL_isHandSo_7 rfl (lv_at hl 1 rfl) ?_
  refine lv_iload_n hx hb dL_isHandSo_8 rfl (lv_at hl 2 rfl) ?_
  refine lv_iconst (v := nI 4) hx hb dL_isHandSo_9 (by decide) ?_
  refine q_ciK (BH := fun _ => True) (va_runV (rm := { frames := 2, cells := 0, slots := 0, locals := 44 }) (As := [.int (nI n), .int (nI 4)]) (rest := []) ⟨hx, hb, hml, hown, hts⟩ (m2_pot_ok l D z ol sn 0 T S Y G 0 P ch B hI n (by omega) 4 (by omega)) (cwV 2 hts gL_isHandSo_X2_pot rfl rfl rfl (by decide +kernel) ⟨Nat.le_of_ble_eq_true rfl, Nat.le_of_ble_eq_true rfl⟩) (q_pV (ci := 2) (q0 := 0) hP hK rfl rfl) rfl rfl hl.1 rfl (lv_room (Nat.le_of_ble_eq_true rfl)) dL_isHandSo_10 ⟨Nat.le_of_ble_eq_true rfl, Nat.le_of_ble_eq_true rfl⟩) (fun t h => trivial) hS (fun q h => h.elim) (fun x2 H locs e2 _ hk hS => ?_)
  have hP := k_kp hP hk
  have e2 : x2 = (g_gs T n) := e2
  subst e2
  refine lv_aload_n hx hb dL_isHandSo_13 rfl (lv_at hl 1 rfl) ?_
  refine lv_iload_n hx hb dL_isHandSo_14 rfl (lv_at hl 0 rfl) ?_
  refine lv_iconst (v := nI 4) hx hb dL_isHandSo_15 (by decide) ?_
  refine q_ciK (BH := fun _ => True) (va_runV (rm := { frames := 1, cells := 0, slots := 0, locals := 23 }) (As := [.int (nI ((hN T n))), .int (nI 4)]) (rest := [.int (g_gs T n)]) ⟨hx, hb, hml, hown, hts⟩ (m2_guest_ok l D z ol sn 0 T S Y G 0 P ch B hI ((hN T n)) (by omega) 4 (by omega)) (cwV 2 hts gL_isHandSo_X2_guest rfl rfl rfl (by decide +kernel) ⟨Nat.le_of_ble_eq_true rfl, Nat.le_of_ble_eq_true rfl⟩) (q_pV (ci := 2) (q0 := 0) hP hK rfl rfl) rfl rfl hl.1 rfl (lv_room (Nat.le_of_ble_eq_true rfl)) dL_isHandSo_16 ⟨Nat.le_of_ble_eq_true rfl, Nat.le_of_ble_eq_true rfl⟩) (fun t h => trivial) hS (fun q h => h.elim) (fun x3 H locs e3 _ hk hS => ?_)
  have hP := k_kp hP hk
  have e3 : x3 = (T (32 + ((hN T n)))) := e3
  subst e3
  refine lv_iadd hx hb dL_isHandSo_19 ?_
  refine lv_istore (lv' := [(4, .int ((g_gs T n) + (T (32 + ((hN T n)))))), (3, .int (nI ((hN T n)))), (0, .ref (z.o)), (1, .int (nI n)), (2, .int (nI 0))]) hx hb dL_isHandSo_20 hl (by decide) rfl (fun ls hl => ?_)
  refine lv_iload hx hb dL_isHandSo_22 (lv_at hl 0 rfl) ?_
  have J47 : W p l e { frames := 6, cells := 0, slots := 0, locals := 140 } s m args below meth c H locs 0 0 Q (F0 m 47 ls [.int (g_wh T n)]) := by
    refine lv_istore (lv' := [(4, .int (g_wh T n)), (3, .int (nI ((hN T n)))), (0, .ref (z.o)), (1, .int (nI n)), (2, .int (nI 0))]) hx hb dL_isHandSo_47 hl (by decide) rfl (fun ls hl => ?_)
    refine lv_aload_n hx hb dL_isHandSo_49 rfl (lv_at hl 2 rfl) ?_
    refine lv_iload_n hx hb dL_isHandSo_50 rfl (lv_at hl 3 rfl) ?_
    refine lv_bipush (v := nI 7) hx hb dL_isHandSo_51 (by decide) ?_
    refine q_ciK (BH := fun _ => True) (va_runV (rm := { frames := 2, cells := 0, slots := 0, locals := 44 }) (As := [.int (nI n), .int (nI 7)]) (rest := []) ⟨hx, hb, hml, hown, hts⟩ (m2_pot_ok l D z ol sn 0 T S Y G 0 P ch B hI n (by omega) 7 (by omega)) (cwV 2 hts gL_isHandSo_X2_pot rfl rfl rfl (by decide +kernel) ⟨Nat.le_of_ble_eq_true rfl, Nat.le_of_ble_eq_true rfl⟩) (q_pV (ci := 2) (q0 := 0) hP hK rfl rfl) rfl rfl hl.1 rfl (lv_room (Nat.le_of_ble_eq_true rfl)) dL_isHandSo_53 ⟨Nat.le_of_ble_eq_true rfl, Nat.le_of_ble_eq_true rfl⟩) (fun t h => trivial) hS (fun q h => h.elim) (fun x4 H locs e4 _ hk hS => ?_)
    have hP := k_kp hP hk
    have e4 : x4 = (T (84 + n)) := e4
    subst e4
    refine lv_istore (lv' := [(5, .int (T (84 + n))), (4, .int (g_wh T n)), (3, .int (nI ((hN T n)))), (0, .ref (z.o)), (1, .int (nI n)), (2, .int (nI 0))]) hx hb dL_isHandSo_56 hl (by decide) rfl (fun ls hl => ?_)
    refine lv_aload_n hx hb dL_isHandSo_58 rfl (lv_at hl 3 rfl) ?_
    refine lv_iload_n hx hb dL_isHandSo_59 rfl (lv_at hl 4 rfl) ?_
    refine q_ciK (BH := fun H => ∃ Y2 : Nat → Int32, va_P D vwCl (wX z ol sn 0 T S Y2 G 0 P ch) H) (va_runV (rm := { frames := 5, cells := 0, slots := 0, locals := 118 }) (As := [.int (nI n)]) (rest := []) ⟨hx, hb, hml, hown, hts⟩ (m2_emptyIn_ok l D z ol sn 0 T S Y G 0 P ch B hI n hn3 hB2 hD) (cwV 1 hts gL_isHandSo_X2_emptyIn rfl rfl rfl (by decide +kernel) ⟨Nat.le_of_ble_eq_true rfl, Nat.le_of_ble_eq_true rfl⟩) (q_pV (ci := 2) (q0 := 0) hP hK rfl rfl) rfl rfl hl.1 rfl (lv_room (Nat.le_of_ble_eq_true rfl)) dL_isHandSo_60 ⟨Nat.le_of_ble_eq_true rfl, Nat.le_of_ble_eq_true rfl⟩) (fun t h => h) hS (fun q h => h) (fun x5 H locs e5 hP hk hS => ?_)
    obtain ⟨Y, hP⟩ := hP
    have hD := q_D2 (ws' := wX z ol sn 0 T S Y G 0 P ch) hDX rfl
    have e5 : x5 = g_ei 21 0 T n := e5
    subst e5
    refine lv_istore (lv' := [(6, .int (g_ei 21 0 T n)), (5, .int (T (84 + n))), (4, .int (g_wh T n)), (3, .int (nI ((hN T n)))), (0, .ref (z.o)), (1, .int (nI n)), (2, .int (nI 0))]) hx hb dL_isHandSo_63 hl (by decide) rfl (fun ls hl => ?_)
    refine lv_iload hx hb dL_isHandSo_65 (lv_at hl 0 rfl) ?_
    refine lv_if_ne (tgt := 74) hx hb dL_isHandSo_67 (by decide) (fun c6 => ?_) (fun c6 => absurd c6 (fun z => ei_n hf z))
    refine lv_iconst (v := nI 0) hx hb dL_isHandSo_74 (by decide) ?_
    refine lv_aload_n hx hb dL_isHandSo_75 rfl (lv_at hl 4 rfl) ?_
    refine lv_iload_n hx hb dL_isHandSo_76 rfl (lv_at hl 5 rfl) ?_
    refine lv_iconst (v := nI 1) hx hb dL_isHandSo_77 (by decide) ?_
    refine q_ciK (BH := fun _ => True) (va_runV (rm := { frames := 2, cells := 0, slots := 0, locals := 44 }) (As := [.int (nI n), .int (nI 1)]) (rest := [.int (nI 0)]) ⟨hx, hb, hml, hown, hts⟩ (m2_pot_ok l D z ol sn 0 T S Y G 0 P ch B hI n (by omega) 1 (by omega)) (cwV 2 hts gL_isHandSo_X2_pot rfl rfl rfl (by decide +kernel) ⟨Nat.le_of_ble_eq_true rfl, Nat.le_of_ble_eq_true rfl⟩) (q_pV (ci := 2) (q0 := 0) hP hK rfl rfl) rfl rfl hl.1 rfl (lv_room (Nat.le_of_ble_eq_true rfl)) dL_isHandSo_78 ⟨Nat.le_of_ble_eq_true rfl, Nat.le_of_ble_eq_true rfl⟩) (fun t h => trivial) hS (fun q h => h.elim) (fun x7 H locs e7 _ hk hS => ?_)
    have hP := k_kp hP hk
    have e7 : x7 = (T (75 + n)) := e7
    subst e7
    refine lv_if_ne (tgt := 88) hx hb dL_isHandSo_81 (by decide) (fun c8 => ?_) (fun c8 => absurd c8 (fun z => hf z))
    refine lv_iconst (v := nI 0) hx hb dL_isHandSo_88 (by decide) ?_
    refine q_neN (tgt := 164) hx hb (by omega) (by omega) dL_isHandSo_89 (by decide) (fun c9 => absurd c9 (by decide)) (fun c9 => ?_)
    refine lv_iload hx hb dL_isHandSo_92 (lv_at hl 0 rfl) ?_
    refine lv_bipush (v := nI 20) hx hb dL_isHandSo_94 (by decide) ?_
    refine lv_icmp_gt (tgt := 164) hx hb dL_isHandSo_96 (by decide) (fun c10 => absurd c10 (Int32.not_lt.mpr ei_le)) (fun c10 => ?_)
    refine lv_aload_n hx hb dL_isHandSo_99 rfl (lv_at hl 4 rfl) ?_
    refine lv_iload_n hx hb dL_isHandSo_100 rfl (lv_at hl 5 rfl) ?_
    refine lv_iload_n hx hb dL_isHandSo_101 rfl (lv_at hl 6 rfl) ?_
    refine q_ciK (BH := fun H => va_P D vwCl (wX z (so ol sn) (svn sn) 0 (g_hand T n 7) S Y (updG G (sr ol sn) T) 0 P ch) H) (va_runV (rm := { frames := 3, cells := 0, slots := 0, locals := 101 }) (As := [.int (nI n), .int (nI 0)]) (rest := []) ⟨hx, hb, hml, hown, hts⟩ (m2_hand_ok0 l D z ol sn 0 hol hsn T S Y G 0 P ch B hI n hn3 hD) (cwV 2 hts gL_isHandSo_X2_hand rfl rfl rfl (by decide +kernel) ⟨Nat.le_of_ble_eq_true rfl, Nat.le_of_ble_eq_true rfl⟩) (q_pV (ci := 2) (q0 := 0) hP hK rfl rfl) rfl rfl hl.1 rfl (lv_room (Nat.le_of_ble_eq_true rfl)) dL_isHandSo_102 ⟨Nat.le_of_ble_eq_true rfl, Nat.le_of_ble_eq_true rfl⟩) (fun t h => h) hS (fun q h => h) (fun x11 H locs e11 hP hk5 hS => ?_)
    have e11 : x11 = nI ((hN T n + 7) % 8) := e11
    subst e11
    obtain ⟨ol, S, Y, G, P, ch, hol, hG, hP⟩ := OU.of hol hsn hP
    have hD := q_D2 (ws' := wX z ol (1 + pn sn) 0 (g_hand T n 7) S Y G 0 P ch) hDX rfl
    have hI1 := hand_inv (d := 7) hI hn3
    have h8p := hI1.hN8 hn3
    refine lv_iload_n hx hb dL_isHandSo_105 rfl (lv_at hl 3 rfl) ?_
    refine lv_iload_n hx hb dL_isHandSo_106 rfl (lv_at hl 6 rfl) ?_
    refine lv_iconst (v := nI 1) hx hb dL_isHandSo_107 (by decide) ?_
    refine q_neN (tgt := 115) hx hb (by omega) (by omega) dL_isHandSo_108 (by decide) (fun c12 => ?_) (fun c12 => absurd c12 (by decide))
    refine lv_bipush (v := nI 7) hx hb dL_isHandSo_115 (by decide) ?_
    refine q_addN hx hb (7 + (hN T n)) (by omega) dL_isHandSo_117 ?_
    refine lv_bipush (v := nI 8) hx hb dL_isHandSo_118 (by decide) ?_
    refine q_remN hx hb ((7 + (hN T n)) % 8) rfl (by omega) (by omega) (by omega) dL_isHandSo_120 ?_
    refine q_neN (tgt := 164) hx hb (by omega) (by omega) dL_isHandSo_121 (by decide) (fun c13 => absurd c13 (fun z => z (by omega))) (fun c13 => ?_)
    refine lv_aload_n hx hb dL_isHandSo_124 rfl (lv_at hl 4 rfl) ?_
    refine lv_iload_n hx hb dL_isHandSo_125 rfl (lv_at hl 5 rfl) ?_
    refine lv_iconst (v := nI 2) hx hb dL_isHandSo_126 (by decide) ?_
    refine q_ciK (BH := fun _ => True) (va_runV (rm := { frames := 2, cells := 0, slots := 0, locals := 44 }) (As := [.int (nI n), .int (nI 2)]) (rest := []) ⟨hx, hb, hml, hown, hts⟩ (m2_pot_ok l D z ol (1 + pn sn) 0 (g_hand T n 7) S Y G 0 P ch B hI1 n (by omega) 2 (by omega)) (cwV 2 hts gL_isHandSo_X2_pot rfl rfl rfl (by decide +kernel) ⟨Nat.le_of_ble_eq_true rfl, Nat.le_of_ble_eq_true rfl⟩) (q_pV (ci := 2) (q0 := 0) hP hK rfl rfl) rfl rfl hl.1 rfl (lv_room (Nat.le_of_ble_eq_true rfl)) dL_isHandSo_127 ⟨Nat.le_of_ble_eq_true rfl, Nat.le_of_ble_eq_true rfl⟩) (fun t h => trivial) hS (fun q h => h.elim) (fun x14 H locs e14 _ hk hS => ?_)
    have hP := k_kp hP hk
    have e14 : x14 = ((g_hand T n 7) (78 + n)) := e14
    subst e14
    refine lv_iload hx hb dL_isHandSo_130 (lv_at hl 2 rfl) ?_
    refine lv_icmp_ne (tgt := 164) hx hb dL_isHandSo_132 (by decide) (fun c15 => absurd c15 (fun z => z (hand_wh))) (fun c15 => ?_)
    refine lv_aload_n hx hb dL_isHandSo_135 rfl (lv_at hl 4 rfl) ?_
    refine lv_iload_n hx hb dL_isHandSo_136 rfl (lv_at hl 5 rfl) ?_
    refine lv_iload_n hx hb dL_isHandSo_137 rfl (lv_at hl 3 rfl) ?_
    refine q_ciK (BH := fun _ => True) (va_runV (rm := { frames := 1, cells := 0, slots := 0, locals := 20 }) (As := [.int (nI n), .int (nI ((hN T n)))]) (rest := []) ⟨hx, hb, hml, hown, hts⟩ (m2_told_ok l D z ol (1 + pn sn) 0 (g_hand T n 7) S Y G 0 P ch B hI1 n (by omega) ((hN T n)) (by omega)) (cwV 2 hts gL_isHandSo_X2_told rfl rfl rfl (by decide +kernel) ⟨Nat.le_of_ble_eq_true rfl, Nat.le_of_ble_eq_true rfl⟩) (q_pV (ci := 2) (q0 := 0) hP hK rfl rfl) rfl rfl hl.1 rfl (lv_room (Nat.le_of_ble_eq_true rfl)) dL_isHandSo_138 ⟨Nat.le_of_ble_eq_true rfl, Nat.le_of_ble_eq_true rfl⟩) (fun t h => trivial) hS (fun q h => h.elim) (fun x16 H locs e16 _ hk hS => ?_)
    have hP := k_kp hP hk
    have e16 : x16 = ((g_hand T n 7) (87 + 8 * n + ((hN T n)))) := e16
    subst e16
    refine lv_iload hx hb dL_isHandSo_141 (lv_at hl 2 rfl) ?_
    refine lv_icmp_ne (tgt := 164) hx hb dL_isHandSo_143 (by decide) (fun c17 => absurd c17 (fun z => z (hand_to hn3 h8))) (fun c17 => ?_)
    refine lv_aload_n hx hb dL_isHandSo_146 rfl (lv_at hl 4 rfl) ?_
    refine lv_iload_n hx hb dL_isHandSo_147 rfl (lv_at hl 5 rfl) ?_
    refine lv_bipush (v := nI 7) hx hb dL_isHandSo_148 (by decide) ?_
    refine q_ciK (BH := fun _ => True) (va_runV (rm := { frames := 2, cells := 0, slots := 0, locals := 44 }) (As := [.int (nI n), .int (nI 7)]) (rest := []) ⟨hx, hb, hml, hown, hts⟩ (m2_pot_ok l D z ol (1 + pn sn) 0 (g_hand T n 7) S Y G 0 P ch B hI1 n (by omega) 7 (by omega)) (cwV 2 hts gL_isHandSo_X2_pot rfl rfl rfl (by decide +kernel) ⟨Nat.le_of_ble_eq_true rfl, Nat.le_of_ble_eq_true rfl⟩) (q_pV (ci := 2) (q0 := 0) hP hK rfl rfl) rfl rfl hl.1 rfl (lv_room (Nat.le_of_ble_eq_true rfl)) dL_isHandSo_150 ⟨Nat.le_of_ble_eq_true rfl, Nat.le_of_ble_eq_true rfl⟩) (fun t h => trivial) hS (fun q h => h.elim) (fun x18 H locs e18 _ hk hS => ?_)
    have hP := k_kp hP hk
    have e18 : x18 = ((g_hand T n 7) (84 + n)) := e18
    subst e18
    refine lv_iload hx hb dL_isHandSo_153 (lv_at hl 1 rfl) ?_
    refine lv_iconst (v := nI 1) hx hb dL_isHandSo_155 (by decide) ?_
    refine lv_iadd hx hb dL_isHandSo_156 ?_
    refine lv_icmp_ne (tgt := 164) hx hb dL_isHandSo_157 (by decide) (fun c19 => absurd c19 (fun z => z (hand_cn hn3))) (fun c19 => ?_)
    refine lv_iconst (v := nI 1) hx hb dL_isHandSo_160 (by decide) ?_
    refine lv_goto (tgt := 165) hx hb dL_isHandSo_161 (by decide) ?_
    refine lv_istore (lv' := [(7, .int (nI 1)), (6, .int (g_ei 21 0 T n)), (5, .int (T (84 + n))), (4, .int (g_wh T n)), (3, .int (nI ((hN T n)))), (0, .ref (z.o)), (1, .int (nI n)), (2, .int (nI 0))]) hx hb dL_isHandSo_165 hl (by decide) rfl (fun ls hl => ?_)
    refine lv_iload hx hb dL_isHandSo_167 (lv_at hl 0 rfl) ?_
    refine lv_if_eq (tgt := 205) hx hb dL_isHandSo_169 (by decide) (fun c20 => absurd c20 (by decide)) (fun c20 => ?_)
    refine lv_aload_n hx hb dL_isHandSo_172 rfl (lv_at hl 5 rfl) ?_
    refine q_ciK (BH := fun H => va_P D vwCl (wX z ol (pn sn) 0 (G ((ol + pn sn) % 6)) S Y G 0 P ch) H) (va_runV (rm := { frames := 2, cells := 0, slots := 0, locals := 81 }) (As := []) (rest := []) ⟨hx, hb, hml, hown, hts⟩ (m2_undo_ok l D z ol (pn sn) 0 (g_hand T n 7) S Y G 0 P ch hol (pn_lt hsn) hD) (cwV 0 hts gL_isHandSo_X2_undo rfl rfl rfl (by decide +kernel) ⟨Nat.le_of_ble_eq_true rfl, Nat.le_of_ble_eq_true rfl⟩) (q_pV (ci := 2) (q0 := 0) hP hK rfl rfl) rfl rfl hl.1 rfl (lv_room (Nat.le_of_ble_eq_true rfl)) dL_isHandSo_173 ⟨Nat.le_of_ble_eq_true rfl, Nat.le_of_ble_eq_true rfl⟩) (fun t h => h) hS (fun q h => h) (fun x21 H locs e21 hP hk hS => ?_)
    rw [hG] at hP
    have e21 : x21 = nI (pn sn) := e21
    subst e21
    refine lv_if_lt (tgt := 205) hx hb dL_isHandSo_176 (by decide) (fun c22 => absurd c22 (nI_pos (by have := pn_lt hsn; omega))) (fun c22 => ?_)
    refine lv_aload_n hx hb dL_isHandSo_179 rfl (lv_at hl 5 rfl) ?_
    refine lv_iload_n hx hb dL_isHandSo_180 rfl (lv_at hl 6 rfl) ?_
    refine lv_iconst (v := nI 0) hx hb dL_isHandSo_181 (by decide) ?_
    refine q_ciK (BH := fun _ => True) (va_runV (rm := { frames := 2, cells := 0, slots := 0, locals := 44 }) (As := [.int (nI n), .int (nI 0)]) (rest := []) ⟨hx, hb, hml, hown, hts⟩ (m2_pot_ok l D z ol (pn sn) 0 T S Y G 0 P ch B hI n (by omega) 0 (by omega)) (cwV 2 hts gL_isHandSo_X2_pot rfl rfl rfl (by decide +kernel) ⟨Nat.le_of_ble_eq_true rfl, Nat.le_of_ble_eq_true rfl⟩) (q_pV (ci := 2) (q0 := 0) hP hK rfl rfl) rfl rfl hl.1 rfl (lv_room (Nat.le_of_ble_eq_true rfl)) dL_isHandSo_182 ⟨Nat.le_of_ble_eq_true rfl, Nat.le_of_ble_eq_true rfl⟩) (fun t h => trivial) hS (fun q h => h.elim) (fun x23 H locs e23 _ hk hS => ?_)
    have hP := k_kp hP hk
    have e23 : x23 = (nI ((hN T n))) := (show _ = T (72 + n) from e23).trans (hI.ok1 hn3).1
    subst e23
    refine lv_iload_n hx hb dL_isHandSo_185 rfl (lv_at hl 4 rfl) ?_
    refine q_neN (tgt := 205) hx hb (by omega) (by omega) dL_isHandSo_186 (by decide) (fun c24 => absurd c24 (fun z => z rfl)) (fun c24 => ?_)
    refine lv_aload_n hx hb dL_isHandSo_189 rfl (lv_at hl 5 rfl) ?_
    refine lv_iload_n hx hb dL_isHandSo_190 rfl (lv_at hl 6 rfl) ?_
    refine lv_bipush (v := nI 7) hx hb dL_isHandSo_191 (by decide) ?_
    refine q_ciK (BH := fun _ => True) (va_runV (rm := { frames := 2, cells := 0, slots := 0, locals := 44 }) (As := [.int (nI n), .int (nI 7)]) (rest := []) ⟨hx, hb, hml, hown, hts⟩ (m2_pot_ok l D z ol (pn sn) 0 T S Y G 0 P ch B hI n (by omega) 7 (by omega)) (cwV 2 hts gL_isHandSo_X2_pot rfl rfl rfl (by decide +kernel) ⟨Nat.le_of_ble_eq_true rfl, Nat.le_of_ble_eq_true rfl⟩) (q_pV (ci := 2) (q0 := 0) hP hK rfl rfl) rfl rfl hl.1 rfl (lv_room (Nat.le_of_ble_eq_true rfl)) dL_isHandSo_193 ⟨Nat.le_of_ble_eq_true rfl, Nat.le_of_ble_eq_true rfl⟩) (fun t h => trivial) hS (fun q h => h.elim) (fun x25 H locs e25 _ hk hS => ?_)
    have hP := k_kp hP hk
    have e25 : x25 = (T (84 + n)) := e25
    subst e25
    refine lv_iload hx hb dL_isHandSo_196 (lv_at hl 2 rfl) ?_
    refine lv_icmp_ne (tgt := 205) hx hb dL_isHandSo_198 (by decide) (fun c26 => absurd c26 (fun z => z (rfl))) (fun c26 => ?_)
    refine lv_iconst (v := nI 1) hx hb dL_isHandSo_201 (by decide) ?_
    refine lv_goto (tgt := 206) hx hb dL_isHandSo_202 (by decide) ?_
    exact hret _ _ _ _ ⟨pn sn, Nat.le_of_lt (pn_lt hsn), ol, S, Y, G, P, ch, hol, hP⟩ hS dL_isHandSo_206
  refine lv_if_ge (tgt := 31) hx hb dL_isHandSo_24 (by decide) (fun c27 => ?_) (fun c27 => ?_)
  ·
    refine lv_iload hx hb dL_isHandSo_31 (lv_at hl 0 rfl) ?_
    refine lv_sipush (v := nI 200) hx hb dL_isHandSo_33 (by decide) ?_
    refine lv_icmp_le (tgt := 45) hx hb dL_isHandSo_36 (by decide) (fun c28 => ?_) (fun c28 => ?_)
    ·
      refine lv_iload hx hb dL_isHandSo_45 (lv_at hl 0 rfl) ?_
      rw [wh_1 (Int32.not_lt.mpr c27) c28] at J47
      exact J47
    ·
      refine lv_sipush (v := nI 200) hx hb dL_isHandSo_39 (by decide) ?_
      refine lv_goto (tgt := 47) hx hb dL_isHandSo_42 (by decide) ?_
      rw [wh_2 c28] at J47
      exact J47
  ·
    refine lv_iconst (v := nI 0) hx hb dL_isHandSo_27 (by decide) ?_
    refine lv_goto (tgt := 47) hx hb dL_isHandSo_28 (by decide) ?_
    rw [wh_0 (Int32.not_le.mp c27)] at J47
    exact J47
theorem L_isHandSo (l : Launch) (D : va_G) (z : Ad) (hDX : va_D (fun _ => True) (wX z 0 0 0 f00 f00 f00 (fun _ => f00) 0 (0, 0, 0, 0) (fun _ => 0))) (cI cS : ClassId) (ez : tyX z = [(cI, .int), (cS, .object RX1)]) (sn : Nat) (hsn : sn ≤ 6) (T : Nat → Int32) (B : Nat) (hI : Inv B T) (hB2 : B + 33600 < 2000000000) (n : Nat) (hn3 : n < 3) (v : Nat) (hv : v < 2) : k_L l yL_isHandSo wsL_isHandSo { frames := 6, cells := 0, slots := 0, locals := 140 } [.ref z.o, .int (nI n), .int (nI v)] D cI cS (OS z D sn T) (nI 1) (fun H => ∃ sn', sn' ≤ 6 ∧ OS z D sn' T H) (AX z) := by
  rcases (show v = 1 ∨ v = 0 by omega) with rfl | rfl
  · by_cases hf : T (75 + n) = 0
    · exact L_isHandSo_1z l D z hDX cI cS ez sn hsn T B hI hB2 n hn3 hf
    · exact L_isHandSo_1n l D z hDX cI cS ez sn hsn T B hI hB2 n hn3 hf
  · by_cases hf : T (75 + n) = 0
    · exact L_isHandSo_0z l D z hDX cI cS ez sn hsn T B hI hB2 n hn3 hf
    · exact L_isHandSo_0n l D z hDX cI cS ez sn hsn T B hI hB2 n hn3 hf
