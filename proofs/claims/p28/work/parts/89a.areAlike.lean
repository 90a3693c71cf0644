set_option maxHeartbeats 4000000 in
set_option maxRecDepth 100000 in
theorem L_areAlike (l : Launch) (D : va_G) (z y : Ad) (cI cS : ClassId) (ez : tyX z = [(cI, .int), (cS, .object RX1)]) (ey : tyX y = [(cI, .int), (cS, .object RX1)]) (sn sm : Nat) (T : Nat → Int32) (B : Nat) (hI : Inv B T) (hB8 : 8 * B < 2147483648) : k_L l yL_areAlike wsL_areAlike { frames := 4, cells := 0, slots := 0, locals := 86 } [.ref z.o, .ref y.o] D cI cS (fun H => OS z D sn T H ∧ OS y D sm T H) (nI 1) (fun _ => True) (fun _ => False) := by
  refine k_goL (cc := cL_areAlike) (maxL := 4) (ty := .boolean) (lv0 := [(0, .ref z.o), (1, .ref y.o)]) (by decide) rfl (Nat.le_of_ble_eq_true rfl) rfl (by first | rfl | decide) ?_
  intro p e s m args below meth c Q ls hx hb hml hts hown hC hK hl hret
  obtain ⟨⟨ol, S, Y, G, P, ch, hol, hP⟩, ol2, S2, Y2, G2, P2, ch2, hol2, hP2⟩ := hC
  have hK1 : va_K D vwCl (tyX z) s := by rw [ez]; exact hK
  have hK2 : va_K D vwCl (tyX y) s := by rw [ey]; exact hK
  have hS : va_S (fun _ => False) s.heap s.heap [] := va_S.rf
  refine lv_aload_n hx hb dL_areAlike_0 rfl (lv_at hl 0 rfl) ?_
  refine va_calld (va_runV (rm := { frames := 2, cells := 0, slots := 0, locals := 45 }) (As := []) (rest := []) ⟨hx, hb, hml, hown, hts⟩ (m2_spiltShare l D z ol sn 0 T S Y G 0 P ch B hI hB8) (cwV 0 hts gL_areAlike_X2_spiltShare rfl rfl rfl (by decide +kernel) ⟨Nat.le_of_ble_eq_true rfl, Nat.le_of_ble_eq_true rfl⟩) (q_pV (ci := 2) (q0 := 0) hP hK1 rfl rfl) rfl rfl hl.1 rfl (lv_room (Nat.le_of_ble_eq_true rfl)) dL_areAlike_1 ⟨Nat.le_of_ble_eq_true rfl, Nat.le_of_ble_eq_true rfl⟩) hS (fun q _ h => h.elim) (fun q h => h.elim) (fun x1 _ t H locs ht _ e1 _ _ hk hS => ?_)
  have hP := k_kp hP hk
  have hP2 := k_kp hP2 hk
  have e1 : x1 = (g_share T) := e1
  subst e1
  refine lv_aload_n hx hb dL_areAlike_4 rfl (lv_at hl 1 rfl) ?_
  refine va_calld (va_runV (rm := { frames := 2, cells := 0, slots := 0, locals := 45 }) (As := []) (rest := [.double (g_share T)]) ⟨hx, hb, hml, hown, hts⟩ (m2_spiltShare l D y ol2 sm 0 T S2 Y2 G2 0 P2 ch2 B hI hB8) (cwV 0 hts gL_areAlike_X2_spiltShare rfl rfl rfl (by decide +kernel) ⟨Nat.le_of_ble_eq_true rfl, Nat.le_of_ble_eq_true rfl⟩) (q_pV (ci := 2) (q0 := 0) hP2 hK2 rfl rfl) rfl rfl hl.1 rfl (lv_room (Nat.le_of_ble_eq_true rfl)) dL_areAlike_5 ⟨Nat.le_of_ble_eq_true rfl, Nat.le_of_ble_eq_true rfl⟩) hS (fun q _ h => h.elim) (fun q h => h.elim) (fun x2 _ t H locs ht _ e2 _ _ hk hS => ?_)
  have hP := k_kp hP hk
  have hP2 := k_kp hP2 hk
  have e2 : x2 = (g_share T) := e2
  subst e2
  refine lv_dcmp hx hb dL_areAlike_8 ?_
  refine lv_if_ne (tgt := 16) hx hb dL_areAlike_9 (by decide) (fun c3 => absurd c3 (fun z => z (sh_self hI hB8))) (fun c3 => ?_)
  refine lv_iconst (v := nI 1) hx hb dL_areAlike_12 (by decide) ?_
  refine lv_goto (tgt := 17) hx hb dL_areAlike_13 (by decide) ?_
  refine lv_istore_n (lv' := [(2, .int (nI 1)), (0, .ref (z.o)), (1, .ref (y.o))]) hx hb dL_areAlike_17 rfl hl (by decide) rfl (fun ls hl => ?_)
  refine lv_iconst (v := nI 0) hx hb dL_areAlike_18 (by decide) ?_
  refine lv_istore_n (lv' := [(3, .int (nI 0)), (2, .int (nI 1)), (0, .ref (z.o)), (1, .ref (y.o))]) hx hb dL_areAlike_19 rfl hl (by decide) rfl (fun ls hl => ?_)
  have LP : ∀ (n i : Nat) (H : Heap) (locs : List Loc) (ls : Array Slot), i + n = 9 → va_P D vwCl (wX z ol sn 0 T S Y G 0 P ch) H → va_P D vwCl (wX y ol2 sm 0 T S2 Y2 G2 0 P2 ch2) H → va_S (fun _ => False) s.heap H locs → lv_has ls 4 [(3, .int (nI i)), (2, .int (nI 1)), (0, .ref (z.o)), (1, .ref (y.o))] → W p l e { frames := 4, cells := 0, slots := 0, locals := 86 } s m args below meth c H locs 0 0 Q (F0 m 20 ls []) := by
    intro n
    induction n with
    | zero =>
      intro i H locs ls hi hP hP2 hS hl
      obtain rfl : i = 9 := by omega
      refine lv_iload_n hx hb dL_areAlike_20 rfl (lv_at hl 0 rfl) ?_
      refine lv_bipush (v := nI 9) hx hb dL_areAlike_21 (by decide) ?_
      refine q_geN (tgt := 55) hx hb (by omega) (by omega) dL_areAlike_23 (by decide) (fun c4 => ?_) (fun c4 => absurd c4 (by omega))
      refine lv_iconst (v := nI 0) hx hb dL_areAlike_55 (by decide) ?_
      refine lv_istore_n (lv' := [(3, .int (nI 0)), (2, .int (nI 1)), (0, .ref (z.o)), (1, .ref (y.o))]) hx hb dL_areAlike_56 rfl hl (by decide) rfl (fun ls hl => ?_)
      have LP : ∀ (n i : Nat) (H : Heap) (locs : List Loc) (ls : Array Slot), i + n = 80 → va_P D vwCl (wX z ol sn 0 T S Y G 0 P ch) H → va_P D vwCl (wX y ol2 sm 0 T S2 Y2 G2 0 P2 ch2) H → va_S (fun _ => False) s.heap H locs → lv_has ls 4 [(3, .int (nI i)), (2, .int (nI 1)), (0, .ref (z.o)), (1, .ref (y.o))] → W p l e { frames := 4, cells := 0, slots := 0, locals := 86 } s m args below meth c H locs 0 0 Q (F0 m 57 ls []) := by
        intro n
        induction n with
        | zero =>
          intro i H locs ls hi hP hP2 hS hl
          obtain rfl : i = 80 := by omega
          refine lv_iload_n hx hb dL_areAlike_57 rfl (lv_at hl 0 rfl) ?_
          refine lv_bipush (v := nI 80) hx hb dL_areAlike_58 (by decide) ?_
          refine q_geN (tgt := 106) hx hb (by omega) (by omega) dL_areAlike_60 (by decide) (fun c5 => ?_) (fun c5 => absurd c5 (by omega))
          refine lv_iconst (v := nI 0) hx hb dL_areAlike_106 (by decide) ?_
          refine lv_istore_n (lv' := [(3, .int (nI 0)), (2, .int (nI 1)), (0, .ref (z.o)), (1, .ref (y.o))]) hx hb dL_areAlike_107 rfl hl (by decide) rfl (fun ls hl => ?_)
          have LP : ∀ (n i : Nat) (H : Heap) (locs : List Loc) (ls : Array Slot), i + n = 24 → va_P D vwCl (wX z ol sn 0 T S Y G 0 P ch) H → va_P D vwCl (wX y ol2 sm 0 T S2 Y2 G2 0 P2 ch2) H → va_S (fun _ => False) s.heap H locs → lv_has ls 4 [(3, .int (nI i)), (2, .int (nI 1)), (0, .ref (z.o)), (1, .ref (y.o))] → W p l e { frames := 4, cells := 0, slots := 0, locals := 86 } s m args below meth c H locs 0 0 Q (F0 m 108 ls []) := by
            intro n
            induction n with
            | zero =>
              intro i H locs ls hi hP hP2 hS hl
              obtain rfl : i = 24 := by omega
              refine lv_iload_n hx hb dL_areAlike_108 rfl (lv_at hl 0 rfl) ?_
              refine lv_bipush (v := nI 24) hx hb dL_areAlike_109 (by decide) ?_
              refine q_geN (tgt := 199) hx hb (by omega) (by omega) dL_areAlike_111 (by decide) (fun c6 => ?_) (fun c6 => absurd c6 (by omega))
              refine lv_iload_n hx hb dL_areAlike_199 rfl (lv_at hl 1 rfl) ?_
              exact hret _ _ _ _ trivial hS dL_areAlike_200
            | succ n ih =>
              intro i H locs ls hi hP hP2 hS hl
              refine lv_iload_n hx hb dL_areAlike_108 rfl (lv_at hl 0 rfl) ?_
              refine lv_bipush (v := nI 24) hx hb dL_areAlike_109 (by decide) ?_
              refine q_geN (tgt := 199) hx hb (by omega) (by omega) dL_areAlike_111 (by decide) (fun c7 => absurd c7 (by omega)) (fun c7 => ?_)
              refine lv_iload_n hx hb dL_areAlike_114 rfl (lv_at hl 1 rfl) ?_
              refine lv_if_eq (tgt := 191) hx hb dL_areAlike_115 (by decide) (fun c8 => absurd c8 (by decide)) (fun c8 => ?_)
              refine lv_aload_n hx hb dL_areAlike_118 rfl (lv_at hl 2 rfl) ?_
              refine lv_iload_n hx hb dL_areAlike_119 rfl (lv_at hl 0 rfl) ?_
              refine lv_bipush (v := nI 8) hx hb dL_areAlike_120 (by decide) ?_
              refine q_divN hx hb ((i) / 8) rfl (by omega) (by omega) (by omega) dL_areAlike_122 ?_
              refine lv_iload_n hx hb dL_areAlike_123 rfl (lv_at hl 0 rfl) ?_
              refine lv_bipush (v := nI 8) hx hb dL_areAlike_124 (by decide) ?_
              refine q_remN hx hb ((i) % 8) rfl (by omega) (by omega) (by omega) dL_areAlike_126 ?_
              refine q_ciK (BH := fun _ => True) (va_runV (rm := { frames := 2, cells := 0, slots := 0, locals := 44 }) (As := [.int (nI ((i) / 8)), .int (nI ((i) % 8))]) (rest := []) ⟨hx, hb, hml, hown, hts⟩ (m2_pot_ok l D z ol sn 0 T S Y G 0 P ch B hI ((i) / 8) (by omega) ((i) % 8) (by omega)) (cwV 2 hts gL_areAlike_X2_pot rfl rfl rfl (by decide +kernel) ⟨Nat.le_of_ble_eq_true rfl, Nat.le_of_ble_eq_true rfl⟩) (q_pV (ci := 2) (q0 := 0) hP hK1 rfl rfl) rfl rfl hl.1 rfl (lv_room (Nat.le_of_ble_eq_true rfl)) dL_areAlike_127 ⟨Nat.le_of_ble_eq_true rfl, Nat.le_of_ble_eq_true rfl⟩) (fun t h => trivial) hS (fun q h => h.elim) (fun x9 H locs e9 _ hk hS => ?_)
              have hP := k_kp hP hk
              have hP2 := k_kp hP2 hk
              have e9 : x9 = (g_po T ((i) / 8) ((i) % 8)) := e9
              subst e9
              refine lv_aload_n hx hb dL_areAlike_130 rfl (lv_at hl 3 rfl) ?_
              refine lv_iload_n hx hb dL_areAlike_131 rfl (lv_at hl 0 rfl) ?_
              refine lv_bipush (v := nI 8) hx hb dL_areAlike_132 (by decide) ?_
              refine q_divN hx hb ((i) / 8) rfl (by omega) (by omega) (by omega) dL_areAlike_134 ?_
              refine lv_iload_n hx hb dL_areAlike_135 rfl (lv_at hl 0 rfl) ?_
              refine lv_bipush (v := nI 8) hx hb dL_areAlike_136 (by decide) ?_
              refine q_remN hx hb ((i) % 8) rfl (by omega) (by omega) (by omega) dL_areAlike_138 ?_
              refine q_ciK (BH := fun _ => True) (va_runV (rm := { frames := 2, cells := 0, slots := 0, locals := 44 }) (As := [.int (nI ((i) / 8)), .int (nI ((i) % 8))]) (rest := [.int (g_po T ((i) / 8) ((i) % 8))]) ⟨hx, hb, hml, hown, hts⟩ (m2_pot_ok l D y ol2 sm 0 T S2 Y2 G2 0 P2 ch2 B hI ((i) / 8) (by omega) ((i) % 8) (by omega)) (cwV 2 hts gL_areAlike_X2_pot rfl rfl rfl (by decide +kernel) ⟨Nat.le_of_ble_eq_true rfl, Nat.le_of_ble_eq_true rfl⟩) (q_pV (ci := 2) (q0 := 0) hP2 hK2 rfl rfl) rfl rfl hl.1 rfl (lv_room (Nat.le_of_ble_eq_true rfl)) dL_areAlike_139 ⟨Nat.le_of_ble_eq_true rfl, Nat.le_of_ble_eq_true rfl⟩) (fun t h => trivial) hS (fun q h => h.elim) (fun x10 H locs e10 _ hk hS => ?_)
              have hP := k_kp hP hk
              have hP2 := k_kp hP2 hk
              have e10 : x10 = (g_po T ((i) / 8) ((i) % 8)) := e10
              subst e10
              refine lv_icmp_ne (tgt := 191) hx hb dL_areAlike_142 (by decide) (fun c11 => absurd c11 (fun z => z rfl)) (fun c11 => ?_)
              refine lv_aload_n hx hb dL_areAlike_145 rfl (lv_at hl 2 rfl) ?_
              refine lv_iload_n hx hb dL_areAlike_146 rfl (lv_at hl 0 rfl) ?_
              refine lv_bipush (v := nI 8) hx hb dL_areAlike_147 (by decide) ?_
              refine q_divN hx hb ((i) / 8) rfl (by omega) (by omega) (by omega) dL_areAlike_149 ?_
              refine lv_iload_n hx hb dL_areAlike_150 rfl (lv_at hl 0 rfl) ?_
              refine lv_bipush (v := nI 8) hx hb dL_areAlike_151 (by decide) ?_
              refine q_remN hx hb ((i) % 8) rfl (by omega) (by omega) (by omega) dL_areAlike_153 ?_
              refine q_ciK (BH := fun _ => True) (va_runV (rm := { frames := 1, cells := 0, slots := 0, locals := 20 }) (As := [.int (nI ((i) / 8)), .int (nI ((i) % 8))]) (rest := []) ⟨hx, hb, hml, hown, hts⟩ (m2_told_ok l D z ol sn 0 T S Y G 0 P ch B hI ((i) / 8) (by omega) ((i) % 8) (by omega)) (cwV 2 hts gL_areAlike_X2_told rfl rfl rfl (by decide +kernel) ⟨Nat.le_of_ble_eq_true rfl, Nat.le_of_ble_eq_true rfl⟩) (q_pV (ci := 2) (q0 := 0) hP hK1 rfl rfl) rfl rfl hl.1 rfl (lv_room (Nat.le_of_ble_eq_true rfl)) dL_areAlike_154 ⟨Nat.le_of_ble_eq_true rfl, Nat.le_of_ble_eq_true rfl⟩) (fun t h => trivial) hS (fun q h => h.elim) (fun x12 H locs e12 _ hk hS => ?_)
              have hP := k_kp hP hk
              have hP2 := k_kp hP2 hk
              have e12 : x12 = (T (87 + 8 * ((i) / 8) + ((i) % 8))) := e12
              subst e12
              refine lv_aload_n hx hb dL_areAlike_157 rfl (lv_at hl 3 rfl) ?_
              refine lv_iload_n hx hb dL_areAlike_158 rfl (lv_at hl 0 rfl) ?_
              refine lv_bipush (v := nI 8) hx hb dL_areAlike_159 (by decide) ?_
              refine q_divN hx hb ((i) / 8) rfl (by omega) (by omega) (by omega) dL_areAlike_161 ?_
              refine lv_iload_n hx hb dL_areAlike_162 rfl (lv_at hl 0 rfl) ?_
              refine lv_bipush (v := nI 8) hx hb dL_areAlike_163 (by decide) ?_
              refine q_remN hx hb ((i) % 8) rfl (by omega) (by omega) (by omega) dL_areAlike_165 ?_
              refine q_ciK (BH := fun _ => True) (va_runV (rm := { frames := 1, cells := 0, slots := 0, locals := 20 }) (As := [.int (nI ((i) / 8)), .int (nI ((i) % 8))]) (rest := [.int (T (87 + 8 * ((i) / 8) + ((i) % 8)))]) ⟨hx, hb, hml, hown, hts⟩ (m2_told_ok l D y ol2 sm 0 T S2 Y2 G2 0 P2 ch2 B hI ((i) / 8) (by omega) ((i) % 8) (by omega)) (cwV 2 hts gL_areAlike_X2_told rfl rfl rfl (by decide +kernel) ⟨Nat.le_of_ble_eq_true rfl, Nat.le_of_ble_eq_true rfl⟩) (q_pV (ci := 2) (q0 := 0) hP2 hK2 rfl rfl) rfl rfl hl.1 rfl (lv_room (Nat.le_of_ble_eq_true rfl)) dL_areAlike_166 ⟨Nat.le_of_ble_eq_true rfl, Nat.le_of_ble_eq_true rfl⟩) (fun t h => trivial) hS (fun q h => h.elim) (fun x13 H locs e13 _ hk hS => ?_)
              have hP := k_kp hP hk
              have hP2 := k_kp hP2 hk
              have e13 : x13 = (T (87 + 8 * ((i) / 8) + ((i) % 8))) := e13
              subst e13
              refine lv_icmp_ne (tgt := 191) hx hb dL_areAlike_169 (by decide) (fun c14 => absurd c14 (fun z => z rfl)) (fun c14 => ?_)
              refine lv_aload_n hx hb dL_areAlike_172 rfl (lv_at hl 2 rfl) ?_
              refine lv_iload_n hx hb dL_areAlike_173 rfl (lv_at hl 0 rfl) ?_
              refine lv_iconst (v := nI 0) hx hb dL_areAlike_174 (by decide) ?_
              refine q_ciK (BH := fun _ => True) (va_runV (rm := { frames := 1, cells := 0, slots := 0, locals := 22 }) (As := [.int (nI i), .int (nI 0)]) (rest := []) ⟨hx, hb, hml, hown, hts⟩ (m2_tale_any l D z ol sn 0 T S Y G 0 P ch B hI i (by omega)) (cwV 2 hts gL_areAlike_X2_tale rfl rfl rfl (by decide +kernel) ⟨Nat.le_of_ble_eq_true rfl, Nat.le_of_ble_eq_true rfl⟩) (q_pV (ci := 2) (q0 := 0) hP hK1 rfl rfl) rfl rfl hl.1 rfl (lv_room (Nat.le_of_ble_eq_true rfl)) dL_areAlike_175 ⟨Nat.le_of_ble_eq_true rfl, Nat.le_of_ble_eq_true rfl⟩) (fun t h => trivial) hS (fun q h => h.elim) (fun x15 H locs e15 _ hk hS => ?_)
              have hP := k_kp hP hk
              have hP2 := k_kp hP2 hk
              have e15 : x15 = (g_ta T i) := e15
              subst e15
              refine lv_aload_n hx hb dL_areAlike_178 rfl (lv_at hl 3 rfl) ?_
              refine lv_iload_n hx hb dL_areAlike_179 rfl (lv_at hl 0 rfl) ?_
              refine lv_iconst (v := nI 0) hx hb dL_areAlike_180 (by decide) ?_
              refine q_ciK (BH := fun _ => True) (va_runV (rm := { frames := 1, cells := 0, slots := 0, locals := 22 }) (As := [.int (nI i), .int (nI 0)]) (rest := [.int (g_ta T i)]) ⟨hx, hb, hml, hown, hts⟩ (m2_tale_any l D y ol2 sm 0 T S2 Y2 G2 0 P2 ch2 B hI i (by omega)) (cwV 2 hts gL_areAlike_X2_tale rfl rfl rfl (by decide +kernel) ⟨Nat.le_of_ble_eq_true rfl, Nat.le_of_ble_eq_true rfl⟩) (q_pV (ci := 2) (q0 := 0) hP2 hK2 rfl rfl) rfl rfl hl.1 rfl (lv_room (Nat.le_of_ble_eq_true rfl)) dL_areAlike_181 ⟨Nat.le_of_ble_eq_true rfl, Nat.le_of_ble_eq_true rfl⟩) (fun t h => trivial) hS (fun q h => h.elim) (fun x16 H locs e16 _ hk hS => ?_)
              have hP := k_kp hP hk
              have hP2 := k_kp hP2 hk
              have e16 : x16 = (g_ta T i) := e16
              subst e16
              refine lv_icmp_ne (tgt := 191) hx hb dL_areAlike_184 (by decide) (fun c17 => absurd c17 (fun z => z rfl)) (fun c17 => ?_)
              refine lv_iconst (v := nI 1) hx hb dL_areAlike_187 (by decide) ?_
              refine lv_goto (tgt := 192) hx hb dL_areAlike_188 (by decide) ?_
              refine lv_istore_n (lv' := [(2, .int (nI 1)), (3, .int (nI i)), (0, .ref (z.o)), (1, .ref (y.o))]) hx hb dL_areAlike_192 rfl hl (by decide) rfl (fun ls hl => ?_)
              refine lv_iinc (v := (nI (i + 1))) (lv' := [(3, .int (nI (i + 1))), (2, .int (nI 1)), (0, .ref (z.o)), (1, .ref (y.o))]) hx hb dL_areAlike_193 hl (k := 1) rfl (q_inc i 1 (i + 1) (by omega)) (by decide) rfl (fun ls hl => ?_)
              refine lv_goto (tgt := 108) hx hb dL_areAlike_196 (by decide) ?_
              exact ih (i + 1) _ _ _ (by omega) hP hP2 hS (lv_sub hl [0, 1, 2, 3] rfl)
          exact LP 24 0 _ _ _ (by omega) hP hP2 hS (lv_sub hl [0, 1, 2, 3] rfl)
        | succ n ih =>
          intro i H locs ls hi hP hP2 hS hl
          refine lv_iload_n hx hb dL_areAlike_57 rfl (lv_at hl 0 rfl) ?_
          refine lv_bipush (v := nI 80) hx hb dL_areAlike_58 (by decide) ?_
          refine q_geN (tgt := 106) hx hb (by omega) (by omega) dL_areAlike_60 (by decide) (fun c18 => absurd c18 (by omega)) (fun c18 => ?_)
          refine lv_iload_n hx hb dL_areAlike_63 rfl (lv_at hl 1 rfl) ?_
          refine lv_if_eq (tgt := 98) hx hb dL_areAlike_64 (by decide) (fun c19 => absurd c19 (by decide)) (fun c19 => ?_)
          refine lv_aload_n hx hb dL_areAlike_67 rfl (lv_at hl 2 rfl) ?_
          refine lv_iload_n hx hb dL_areAlike_68 rfl (lv_at hl 0 rfl) ?_
          refine lv_bipush (v := nI 10) hx hb dL_areAlike_69 (by decide) ?_
          refine q_divN hx hb ((i) / 10) rfl (by omega) (by omega) (by omega) dL_areAlike_71 ?_
          refine lv_iload_n hx hb dL_areAlike_72 rfl (lv_at hl 0 rfl) ?_
          refine lv_bipush (v := nI 10) hx hb dL_areAlike_73 (by decide) ?_
          refine q_remN hx hb ((i) % 10) rfl (by omega) (by omega) (by omega) dL_areAlike_75 ?_
          refine q_ciK (BH := fun _ => True) (va_runV (rm := { frames := 1, cells := 0, slots := 0, locals := 23 }) (As := [.int (nI ((i) / 10)), .int (nI ((i) % 10))]) (rest := []) ⟨hx, hb, hml, hown, hts⟩ (m2_guest_ok l D z ol sn 0 T S Y G 0 P ch B hI ((i) / 10) (by omega) ((i) % 10) (by omega)) (cwV 2 hts gL_areAlike_X2_guest rfl rfl rfl (by decide +kernel) ⟨Nat.le_of_ble_eq_true rfl, Nat.le_of_ble_eq_true rfl⟩) (q_pV (ci := 2) (q0 := 0) hP hK1 rfl rfl) rfl rfl hl.1 rfl (lv_room (Nat.le_of_ble_eq_true rfl)) dL_areAlike_76 ⟨Nat.le_of_ble_eq_true rfl, Nat.le_of_ble_eq_true rfl⟩) (fun t h => trivial) hS (fun q h => h.elim) (fun x20 H locs e20 _ hk hS => ?_)
          have hP := k_kp hP hk
          have hP2 := k_kp hP2 hk
          have e20 : x20 = (g_gu T ((i) / 10) ((i) % 10)) := e20
          subst e20
          refine lv_aload_n hx hb dL_areAlike_79 rfl (lv_at hl 3 rfl) ?_
          refine lv_iload_n hx hb dL_areAlike_80 rfl (lv_at hl 0 rfl) ?_
          refine lv_bipush (v := nI 10) hx hb dL_areAlike_81 (by decide) ?_
          refine q_divN hx hb ((i) / 10) rfl (by omega) (by omega) (by omega) dL_areAlike_83 ?_
          refine lv_iload_n hx hb dL_areAlike_84 rfl (lv_at hl 0 rfl) ?_
          refine lv_bipush (v := nI 10) hx hb dL_areAlike_85 (by decide) ?_
          refine q_remN hx hb ((i) % 10) rfl (by omega) (by omega) (by omega) dL_areAlike_87 ?_
          refine q_ciK (BH := fun _ => True) (va_runV (rm := { frames := 1, cells := 0, slots := 0, locals := 23 }) (As := [.int (nI ((i) / 10)), .int (nI ((i) % 10))]) (rest := [.int (g_gu T ((i) / 10) ((i) % 10))]) ⟨hx, hb, hml, hown, hts⟩ (m2_guest_ok l D y ol2 sm 0 T S2 Y2 G2 0 P2 ch2 B hI ((i) / 10) (by omega) ((i) % 10) (by omega)) (cwV 2 hts gL_areAlike_X2_guest rfl rfl rfl (by decide +kernel) ⟨Nat.le_of_ble_eq_true rfl, Nat.le_of_ble_eq_true rfl⟩) (q_pV (ci := 2) (q0 := 0) hP2 hK2 rfl rfl) rfl rfl hl.1 rfl (lv_room (Nat.le_of_ble_eq_true rfl)) dL_areAlike_88 ⟨Nat.le_of_ble_eq_true rfl, Nat.le_of_ble_eq_true rfl⟩) (fun t h => trivial) hS (fun q h => h.elim) (fun x21 H locs e21 _ hk hS => ?_)
          have hP := k_kp hP hk
          have hP2 := k_kp hP2 hk
          have e21 : x21 = (g_gu T ((i) / 10) ((i) % 10)) := e21
          subst e21
          refine lv_icmp_ne (tgt := 98) hx hb dL_areAlike_91 (by decide) (fun c22 => absurd c22 (fun z => z rfl)) (fun c22 => ?_)
          refine lv_iconst (v := nI 1) hx hb dL_areAlike_94 (by decide) ?_
          refine lv_goto (tgt := 99) hx hb dL_areAlike_95 (by decide) ?_
          refine lv_istore_n (lv' := [(2, .int (nI 1)), (3, .int (nI i)), (0, .ref (z.o)), (1, .ref (y.o))]) hx hb dL_areAlike_99 rfl hl (by decide) rfl (fun ls hl => ?_)
          refine lv_iinc (v := (nI (i + 1))) (lv' := [(3, .int (nI (i + 1))), (2, .int (nI 1)), (0, .ref (z.o)), (1, .ref (y.o))]) hx hb dL_areAlike_100 hl (k := 1) rfl (q_inc i 1 (i + 1) (by omega)) (by decide) rfl (fun ls hl => ?_)
          refine lv_goto (tgt := 57) hx hb dL_areAlike_103 (by decide) ?_
          exact ih (i + 1) _ _ _ (by omega) hP hP2 hS (lv_sub hl [0, 1, 2, 3] rfl)
      exact LP 80 0 _ _ _ (by omega) hP hP2 hS (lv_sub hl [0, 1, 2, 3] rfl)
    | succ n ih =>
      intro i H locs ls hi hP hP2 hS hl
      refine lv_iload_n hx hb dL_areAlike_20 rfl (lv_at hl 0 rfl) ?_
      refine lv_bipush (v := nI 9) hx hb dL_areAlike_21 (by decide) ?_
      refine q_geN (tgt := 55) hx hb (by omega) (by omega) dL_areAlike_23 (by decide) (fun c23 => absurd c23 (by omega)) (fun c23 => ?_)
      refine lv_iload_n hx hb dL_areAlike_26 rfl (lv_at hl 1 rfl) ?_
      refine lv_if_eq (tgt := 47) hx hb dL_areAlike_27 (by decide) (fun c24 => absurd c24 (by decide)) (fun c24 => ?_)
      refine lv_aload_n hx hb dL_areAlike_30 rfl (lv_at hl 2 rfl) ?_
      refine lv_iload_n hx hb dL_areAlike_31 rfl (lv_at hl 0 rfl) ?_
      refine q_ciK (BH := fun _ => True) (va_runV (rm := { frames := 3, cells := 0, slots := 0, locals := 65 }) (As := [.int (nI i)]) (rest := []) ⟨hx, hb, hml, hown, hts⟩ (m2_count_ok l D z ol sn 0 T S Y G 0 P ch i (by omega)) (cwV 1 hts gL_areAlike_X2_count rfl rfl rfl (by decide +kernel) ⟨Nat.le_of_ble_eq_true rfl, Nat.le_of_ble_eq_true rfl⟩) (q_pV (ci := 2) (q0 := 0) hP hK1 rfl rfl) rfl rfl hl.1 rfl (lv_room (Nat.le_of_ble_eq_true rfl)) dL_areAlike_32 ⟨Nat.le_of_ble_eq_true rfl, Nat.le_of_ble_eq_true rfl⟩) (fun t h => trivial) hS (fun q h => h.elim) (fun x25 H locs e25 _ hk hS => ?_)
      have hP := k_kp hP hk
      have hP2 := k_kp hP2 hk
      have e25 : x25 = (g_ct T sn i) := e25
      subst e25
      refine lv_aload_n hx hb dL_areAlike_35 rfl (lv_at hl 3 rfl) ?_
      refine lv_iload_n hx hb dL_areAlike_36 rfl (lv_at hl 0 rfl) ?_
      refine q_ciK (BH := fun _ => True) (va_runV (rm := { frames := 3, cells := 0, slots := 0, locals := 65 }) (As := [.int (nI i)]) (rest := [.int (g_ct T sn i)]) ⟨hx, hb, hml, hown, hts⟩ (m2_count_ok l D y ol2 sm 0 T S2 Y2 G2 0 P2 ch2 i (by omega)) (cwV 1 hts gL_areAlike_X2_count rfl rfl rfl (by decide +kernel) ⟨Nat.le_of_ble_eq_true rfl, Nat.le_of_ble_eq_true rfl⟩) (q_pV (ci := 2) (q0 := 0) hP2 hK2 rfl rfl) rfl rfl hl.1 rfl (lv_room (Nat.le_of_ble_eq_true rfl)) dL_areAlike_37 ⟨Nat.le_of_ble_eq_true rfl, Nat.le_of_ble_eq_true rfl⟩) (fun t h => trivial) hS (fun q h => h.elim) (fun x26 H locs e26 _ hk hS => ?_)
      have hP := k_kp hP hk
      have hP2 := k_kp hP2 hk
      have e26 : x26 = (g_ct T sm i) := e26
      subst e26
      refine lv_icmp_ne (tgt := 47) hx hb dL_areAlike_40 (by decide) (fun c27 => absurd c27 (fun z => z (g_ct_sn (by omega)))) (fun c27 => ?_)
      refine lv_iconst (v := nI 1) hx hb dL_areAlike_43 (by decide) ?_
      refine lv_goto (tgt := 48) hx hb dL_areAlike_44 (by decide) ?_
      refine lv_istore_n (lv' := [(2, .int (nI 1)), (3, .int (nI i)), (0, .ref (z.o)), (1, .ref (y.o))]) hx hb dL_areAlike_48 rfl hl (by decide) rfl (fun ls hl => ?_)
      refine lv_iinc (v := (nI (i + 1))) (lv' := [(3, .int (nI (i + 1))), (2, .int (nI 1)), (0, .ref (z.o)), (1, .ref (y.o))]) hx hb dL_areAlike_49 hl (k := 1) rfl (q_inc i 1 (i + 1) (by omega)) (by decide) rfl (fun ls hl => ?_)
      refine lv_goto (tgt := 20) hx hb dL_areAlike_52 (by decide) ?_
      exact ih (i + 1) _ _ _ (by omega) hP hP2 hS (lv_sub hl [0, 1, 2, 3] rfl)
  exact LP 9 0 _ _ _ (by omega) hP hP2 hS (lv_sub hl [0, 1, 2, 3] rfl)
