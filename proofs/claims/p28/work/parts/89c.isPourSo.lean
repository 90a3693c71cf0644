set_option maxHeartbeats 8000000 in
set_option maxRecDepth 100000 in
theorem L_isPourSo_0 (l : Launch) (hl9 : l.stackTraces = false) (D : va_G) (st : Nat → Nat) (z : Ad) (oa : Nat) (hoa : ¬ AX z oa) (hDX : va_D (fun _ => True) (wX z 0 0 0 f00 f00 f00 (fun _ => f00) 0 (0, 0, 0, 0) (fun _ => 0))) (g : Int32) (sn : Nat) (hsn : sn ≤ 6) (T : Nat → Int32) (B : Nat) (hI : Inv B T) (hB2 : B + 33600 < 2000000000) (n : Nat) (hn3 : n < 3) (hf : ¬ T (75 + n) = 0) (hr : ¬ g_rm T (hN T n) = 0) : k_H l yL_isPourSo wsL_isPourSo { frames := 9, cells := 1, slots := 6, locals := 164 } [.ref z.o, .int (nI n), .ref oa] st D z oa (OS z D sn T) g (nI 1) (fun H => ∃ sn', sn' ≤ 6 ∧ OS z D sn' T H) (fun _ => True) := by
  refine k_goA (cc := cL_isPourSo) (maxL := 16) (ty := .boolean) (lv0 := [(0, .ref z.o), (1, .int (nI n)), (2, .ref oa)]) (by decide) rfl (Nat.le_of_ble_eq_true rfl) rfl (by first | rfl | decide) ?_
  intro p e s m args below meth c Q ls hx hb hml hts hown hC hO hK hT hl hret
  obtain ⟨ol, S, Y, G, P, ch, hol, hP⟩ := hC
  have hD := q_D2 (ws' := wX z ol sn 0 T S Y G 0 P ch) hDX rfl
  have hS : va_S (AXo z oa) s.heap s.heap [] := va_S.rf
  have hB : B < 2000000000 := by omega
  have h8 := hI.hN8 hn3
  have hw : g_wy T n = 0 := wy_0 hf hr
  refine lv_aload_n hx hb dL_isPourSo_0 rfl (lv_at hl 0 rfl) ?_
  refine lv_iload_n hx hb dL_isPourSo_1 rfl (lv_at hl 1 rfl) ?_
  refine lv_iconst (v := nI 0) hx hb dL_isPourSo_2 (by decide) ?_
  refine q_ciK (BH := fun _ => True) (va_runV (rm := { frames := 2, cells := 0, slots := 0, locals := 44 }) (As := [.int (nI n), .int (nI 0)]) (rest := []) ⟨hx, hb, hml, hown, hts⟩ (m2_pot_ok l D z ol sn 0 T S Y G 0 P ch B hI n (by omega) 0 (by omega)) (cwV 2 hts gL_isPourSo_X2_pot rfl rfl rfl (by decide +kernel) ⟨Nat.le_of_ble_eq_true rfl, Nat.le_of_ble_eq_true rfl⟩) (q_pV (ci := 2) (q0 := 0) hP hK rfl rfl) rfl rfl hl.1 rfl (lv_room (Nat.le_of_ble_eq_true rfl)) dL_isPourSo_3 ⟨Nat.le_of_ble_eq_true rfl, Nat.le_of_ble_eq_true rfl⟩) (fun t h => trivial) hS (fun q h => h.elim) (fun x1 H locs e1 _ hk hS => ?_)
  have hP := k_kp hP hk
  have hO := k_kp hO hk
  have e1 : x1 = (nI ((hN T n))) := (show _ = T (72 + n) from e1).trans (hI.ok1 hn3).1
  subst e1
  refine lv_istore_n (lv' := [(3, .int (nI ((hN T n)))), (0, .ref (z.o)), (1, .int (nI n)), (2, .ref oa)]) hx hb dL_isPourSo_6 rfl hl (by decide) rfl (fun ls hl => ?_)
  refine lv_aload_n hx hb dL_isPourSo_7 rfl (lv_at hl 1 rfl) ?_
  refine lv_iload_n hx hb dL_isPourSo_8 rfl (lv_at hl 2 rfl) ?_
  refine lv_iconst (v := nI 1) hx hb dL_isPourSo_9 (by decide) ?_
  refine q_ciK (BH := fun _ => True) (va_runV (rm := { frames := 2, cells := 0, slots := 0, locals := 44 }) (As := [.int (nI n), .int (nI 1)]) (rest := []) ⟨hx, hb, hml, hown, hts⟩ (m2_pot_ok l D z ol sn 0 T S Y G 0 P ch B hI n (by omega) 1 (by omega)) (cwV 2 hts gL_isPourSo_X2_pot rfl rfl rfl (by decide +kernel) ⟨Nat.le_of_ble_eq_true rfl, Nat.le_of_ble_eq_true rfl⟩) (q_pV (ci := 2) (q0 := 0) hP hK rfl rfl) rfl rfl hl.1 rfl (lv_room (Nat.le_of_ble_eq_true rfl)) dL_isPourSo_10 ⟨Nat.le_of_ble_eq_true rfl, Nat.le_of_ble_eq_true rfl⟩) (fun t h => trivial) hS (fun q h => h.elim) (fun x2 H locs e2 _ hk hS => ?_)
  have hP := k_kp hP hk
  have hO := k_kp hO hk
  have e2 : x2 = (T (75 + n)) := e2
  subst e2
  refine lv_istore (lv' := [(4, .int (T (75 + n))), (3, .int (nI ((hN T n)))), (0, .ref (z.o)), (1, .int (nI n)), (2, .ref oa)]) hx hb dL_isPourSo_13 hl (by decide) rfl (fun ls hl => ?_)
  refine lv_aload_n hx hb dL_isPourSo_15 rfl (lv_at hl 2 rfl) ?_
  refine lv_iload_n hx hb dL_isPourSo_16 rfl (lv_at hl 1 rfl) ?_
  refine lv_iconst (v := nI 0) hx hb dL_isPourSo_17 (by decide) ?_
  refine q_ciK (BH := fun _ => True) (va_runV (rm := { frames := 1, cells := 0, slots := 0, locals := 23 }) (As := [.int (nI ((hN T n))), .int (nI 0)]) (rest := []) ⟨hx, hb, hml, hown, hts⟩ (m2_guest_ok l D z ol sn 0 T S Y G 0 P ch B hI ((hN T n)) (by omega) 0 (by omega)) (cwV 2 hts gL_isPourSo_X2_guest rfl rfl rfl (by decide +kernel) ⟨Nat.le_of_ble_eq_true rfl, Nat.le_of_ble_eq_true rfl⟩) (q_pV (ci := 2) (q0 := 0) hP hK rfl rfl) rfl rfl hl.1 rfl (lv_room (Nat.le_of_ble_eq_true rfl)) dL_isPourSo_18 ⟨Nat.le_of_ble_eq_true rfl, Nat.le_of_ble_eq_true rfl⟩) (fun t h => trivial) hS (fun q h => h.elim) (fun x3 H locs e3 _ hk hS => ?_)
  have hP := k_kp hP hk
  have hO := k_kp hO hk
  have e3 : x3 = (T ((hN T n))) := (show _ = T (8 * 0 + ((hN T n))) from e3).trans (by rw [Nat.mul_zero, Nat.zero_add])
  subst e3
  refine lv_aload_n hx hb dL_isPourSo_21 rfl (lv_at hl 2 rfl) ?_
  refine lv_iload_n hx hb dL_isPourSo_22 rfl (lv_at hl 1 rfl) ?_
  refine lv_iconst (v := nI 1) hx hb dL_isPourSo_23 (by decide) ?_
  refine q_ciK (BH := fun _ => True) (va_runV (rm := { frames := 1, cells := 0, slots := 0, locals := 23 }) (As := [.int (nI ((hN T n))), .int (nI 1)]) (rest := [.int (T ((hN T n)))]) ⟨hx, hb, hml, hown, hts⟩ (m2_guest_ok l D z ol sn 0 T S Y G 0 P ch B hI ((hN T n)) (by omega) 1 (by omega)) (cwV 2 hts gL_isPourSo_X2_guest rfl rfl rfl (by decide +kernel) ⟨Nat.le_of_ble_eq_true rfl, Nat.le_of_ble_eq_true rfl⟩) (q_pV (ci := 2) (q0 := 0) hP hK rfl rfl) rfl rfl hl.1 rfl (lv_room (Nat.le_of_ble_eq_true rfl)) dL_isPourSo_24 ⟨Nat.le_of_ble_eq_true rfl, Nat.le_of_ble_eq_true rfl⟩) (fun t h => trivial) hS (fun q h => h.elim) (fun x4 H locs e4 _ hk hS => ?_)
  have hP := k_kp hP hk
  have hO := k_kp hO hk
  have e4 : x4 = (T (8 + ((hN T n)))) := e4
  subst e4
  refine lv_isub hx hb dL_isPourSo_27 ?_
  refine lv_istore (lv' := [(5, .int (g_rm T (hN T n))), (4, .int (T (75 + n))), (3, .int (nI ((hN T n)))), (0, .ref (z.o)), (1, .int (nI n)), (2, .ref oa)]) hx hb dL_isPourSo_28 hl (by decide) rfl (fun ls hl => ?_)
  refine lv_aload_n hx hb dL_isPourSo_30 rfl (lv_at hl 3 rfl) ?_
  refine lv_iload_n hx hb dL_isPourSo_31 rfl (lv_at hl 2 rfl) ?_
  refine lv_iconst (v := nI 3) hx hb dL_isPourSo_32 (by decide) ?_
  refine q_ciK (BH := fun _ => True) (va_runV (rm := { frames := 1, cells := 0, slots := 0, locals := 23 }) (As := [.int (nI ((hN T n))), .int (nI 3)]) (rest := []) ⟨hx, hb, hml, hown, hts⟩ (m2_guest_ok l D z ol sn 0 T S Y G 0 P ch B hI ((hN T n)) (by omega) 3 (by omega)) (cwV 2 hts gL_isPourSo_X2_guest rfl rfl rfl (by decide +kernel) ⟨Nat.le_of_ble_eq_true rfl, Nat.le_of_ble_eq_true rfl⟩) (q_pV (ci := 2) (q0 := 0) hP hK rfl rfl) rfl rfl hl.1 rfl (lv_room (Nat.le_of_ble_eq_true rfl)) dL_isPourSo_33 ⟨Nat.le_of_ble_eq_true rfl, Nat.le_of_ble_eq_true rfl⟩) (fun t h => trivial) hS (fun q h => h.elim) (fun x5 H locs e5 _ hk hS => ?_)
  have hP := k_kp hP hk
  have hO := k_kp hO hk
  have e5 : x5 = (T (24 + ((hN T n)))) := e5
  subst e5
  refine lv_istore (lv' := [(6, .int (T (24 + ((hN T n))))), (5, .int (g_rm T (hN T n))), (4, .int (T (75 + n))), (3, .int (nI ((hN T n)))), (0, .ref (z.o)), (1, .int (nI n)), (2, .ref oa)]) hx hb dL_isPourSo_36 hl (by decide) rfl (fun ls hl => ?_)
  refine lv_aload_n hx hb dL_isPourSo_38 rfl (lv_at hl 4 rfl) ?_
  refine lv_iload_n hx hb dL_isPourSo_39 rfl (lv_at hl 5 rfl) ?_
  refine lv_iconst (v := nI 2) hx hb dL_isPourSo_40 (by decide) ?_
  refine q_ciK (BH := fun _ => True) (va_runV (rm := { frames := 2, cells := 0, slots := 0, locals := 44 }) (As := [.int (nI n), .int (nI 2)]) (rest := []) ⟨hx, hb, hml, hown, hts⟩ (m2_pot_ok l D z ol sn 0 T S Y G 0 P ch B hI n (by omega) 2 (by omega)) (cwV 2 hts gL_isPourSo_X2_pot rfl rfl rfl (by decide +kernel) ⟨Nat.le_of_ble_eq_true rfl, Nat.le_of_ble_eq_true rfl⟩) (q_pV (ci := 2) (q0 := 0) hP hK rfl rfl) rfl rfl hl.1 rfl (lv_room (Nat.le_of_ble_eq_true rfl)) dL_isPourSo_41 ⟨Nat.le_of_ble_eq_true rfl, Nat.le_of_ble_eq_true rfl⟩) (fun t h => trivial) hS (fun q h => h.elim) (fun x6 H locs e6 _ hk hS => ?_)
  have hP := k_kp hP hk
  have hO := k_kp hO hk
  have e6 : x6 = (T (78 + n)) := e6
  subst e6
  refine lv_iload hx hb dL_isPourSo_44 (lv_at hl 0 rfl) ?_
  refine lv_imul hx hb dL_isPourSo_46 ?_
  refine lv_aload_n hx hb dL_isPourSo_47 rfl (lv_at hl 4 rfl) ?_
  refine lv_iload_n hx hb dL_isPourSo_48 rfl (lv_at hl 5 rfl) ?_
  refine lv_iconst (v := nI 3) hx hb dL_isPourSo_49 (by decide) ?_
  refine q_ciK (BH := fun _ => True) (va_runV (rm := { frames := 2, cells := 0, slots := 0, locals := 44 }) (As := [.int (nI n), .int (nI 3)]) (rest := [.int ((T (78 + n)) * (T (24 + ((hN T n)))))]) ⟨hx, hb, hml, hown, hts⟩ (m2_pot_ok l D z ol sn 0 T S Y G 0 P ch B hI n (by omega) 3 (by omega)) (cwV 2 hts gL_isPourSo_X2_pot rfl rfl rfl (by decide +kernel) ⟨Nat.le_of_ble_eq_true rfl, Nat.le_of_ble_eq_true rfl⟩) (q_pV (ci := 2) (q0 := 0) hP hK rfl rfl) rfl rfl hl.1 rfl (lv_room (Nat.le_of_ble_eq_true rfl)) dL_isPourSo_50 ⟨Nat.le_of_ble_eq_true rfl, Nat.le_of_ble_eq_true rfl⟩) (fun t h => trivial) hS (fun q h => h.elim) (fun x7 H locs e7 _ hk hS => ?_)
  have hP := k_kp hP hk
  have hO := k_kp hO hk
  have e7 : x7 = (g_wt T n) := e7
  subst e7
  refine lv_bipush (v := nI 10) hx hb dL_isPourSo_53 (by decide) ?_
  refine lv_iload hx hb dL_isPourSo_55 (lv_at hl 0 rfl) ?_
  refine lv_isub hx hb dL_isPourSo_57 ?_
  refine lv_imul hx hb dL_isPourSo_58 ?_
  refine lv_iadd hx hb dL_isPourSo_59 ?_
  refine lv_bipush (v := nI 10) hx hb dL_isPourSo_60 (by decide) ?_
  refine lv_idiv hx hb dL_isPourSo_62 (by decide) ?_
  refine lv_istore (lv' := [(7, .int (g_gs T n)), (6, .int (T (24 + ((hN T n))))), (5, .int (g_rm T (hN T n))), (4, .int (T (75 + n))), (3, .int (nI ((hN T n)))), (0, .ref (z.o)), (1, .int (nI n)), (2, .ref oa)]) hx hb dL_isPourSo_63 hl (by decide) rfl (fun ls hl => ?_)
  refine lv_iload hx hb dL_isPourSo_65 (lv_at hl 3 rfl) ?_
  refine lv_if_ne (tgt := 74) hx hb dL_isPourSo_67 (by decide) (fun c8 => ?_) (fun c8 => absurd c8 (fun z => hf z))
  refine lv_iload hx hb dL_isPourSo_74 (lv_at hl 2 rfl) ?_
  refine lv_if_ne (tgt := 83) hx hb dL_isPourSo_76 (by decide) (fun c9 => ?_) (fun c9 => absurd c9 (fun z => hr z))
  refine lv_iconst (v := nI 0) hx hb dL_isPourSo_83 (by decide) ?_
  refine lv_istore (lv' := [(8, .int (nI 0)), (7, .int (g_gs T n)), (6, .int (T (24 + ((hN T n))))), (5, .int (g_rm T (hN T n))), (4, .int (T (75 + n))), (3, .int (nI ((hN T n)))), (0, .ref (z.o)), (1, .int (nI n)), (2, .ref oa)]) hx hb dL_isPourSo_84 hl (by decide) rfl (fun ls hl => ?_)
  refine lv_iload hx hb dL_isPourSo_86 (lv_at hl 3 rfl) ?_
  refine lv_iload hx hb dL_isPourSo_88 (lv_at hl 4 rfl) ?_
  refine lv_imul hx hb dL_isPourSo_90 ?_
  refine lv_iload hx hb dL_isPourSo_91 (lv_at hl 1 rfl) ?_
  have J102 : W p l e { frames := 9, cells := 1, slots := 6, locals := 164 } s m args below meth c H locs 0 0 Q (F0 m 102 ls [.int (g_dv (g_gs T n)), .int ((g_rm T (hN T n)) * (T (75 + n)))]) := by
    refine lv_idiv hx hb dL_isPourSo_102 (dv_ne hI hn3) ?_
    refine lv_istore (lv' := [(9, .int (g_c0 T n)), (8, .int (nI 0)), (7, .int (g_gs T n)), (6, .int (T (24 + ((hN T n))))), (5, .int (g_rm T (hN T n))), (4, .int (T (75 + n))), (3, .int (nI ((hN T n)))), (0, .ref (z.o)), (1, .int (nI n)), (2, .ref oa)]) hx hb dL_isPourSo_103 hl (by decide) rfl (fun ls hl => ?_)
    refine lv_iload hx hb dL_isPourSo_105 (lv_at hl 0 rfl) ?_
    refine lv_iload hx hb dL_isPourSo_107 (lv_at hl 5 rfl) ?_
    have J119 : W p l e { frames := 9, cells := 1, slots := 6, locals := 164 } s m args below meth c H locs 0 0 Q (F0 m 119 ls [.int (g_cm T n)]) := by
      refine lv_istore (lv' := [(9, .int (g_cm T n)), (8, .int (nI 0)), (7, .int (g_gs T n)), (6, .int (T (24 + ((hN T n))))), (5, .int (g_rm T (hN T n))), (4, .int (T (75 + n))), (3, .int (nI ((hN T n)))), (0, .ref (z.o)), (1, .int (nI n)), (2, .ref oa)]) hx hb dL_isPourSo_119 hl (by decide) rfl (fun ls hl => ?_)
      refine lv_iload hx hb dL_isPourSo_121 (lv_at hl 0 rfl) ?_
      refine lv_iload hx hb dL_isPourSo_123 (lv_at hl 4 rfl) ?_
      have J137 : W p l e { frames := 9, cells := 1, slots := 6, locals := 164 } s m args below meth c H locs 0 0 Q (F0 m 137 ls [.int (g_ov T n)]) := by
        refine lv_istore (lv' := [(10, .int (g_ov T n)), (9, .int (g_cm T n)), (8, .int (nI 0)), (7, .int (g_gs T n)), (6, .int (T (24 + ((hN T n))))), (5, .int (g_rm T (hN T n))), (4, .int (T (75 + n))), (3, .int (nI ((hN T n)))), (0, .ref (z.o)), (1, .int (nI n)), (2, .ref oa)]) hx hb dL_isPourSo_137 hl (by decide) rfl (fun ls hl => ?_)
        refine lv_aload_n hx hb dL_isPourSo_139 rfl (lv_at hl 8 rfl) ?_
        refine lv_iload_n hx hb dL_isPourSo_140 rfl (lv_at hl 9 rfl) ?_
        refine q_ciK (BH := fun H => ∃ Y2 : Nat → Int32, va_P D vwCl (wX z ol sn 0 T S Y2 G 0 P ch) H) (va_runV (rm := { frames := 4, cells := 0, slots := 0, locals := 91 }) (As := [.int (nI n)]) (rest := []) ⟨hx, hb, hml, hown, hts⟩ (m2_bestGuest_ok l D z ol sn 0 T S Y G 0 P ch B hI n hn3 hB2 hD) (cwV 1 hts gL_isPourSo_X2_bestGuest rfl rfl rfl (by decide +kernel) ⟨Nat.le_of_ble_eq_true rfl, Nat.le_of_ble_eq_true rfl⟩) (q_pV (ci := 2) (q0 := 0) hP hK rfl rfl) rfl rfl hl.1 rfl (lv_room (Nat.le_of_ble_eq_true rfl)) dL_isPourSo_141 ⟨Nat.le_of_ble_eq_true rfl, Nat.le_of_ble_eq_true rfl⟩) (fun t h => h) hS (fun q h => Or.inl h) (fun x10 H locs e10 hP hk hS => ?_)
        obtain ⟨Y, hP⟩ := hP
        have hO := wI_kept hO hoa hk
        have hD := q_D2 (ws' := wX z ol sn 0 T S Y G 0 P ch) hDX rfl
        have e10 : x10 = g_bg 8 (-1) (nI 0) T n := e10
        subst e10
        refine lv_istore (lv' := [(11, .int (g_bg 8 (-1) (nI 0) T n)), (10, .int (g_ov T n)), (9, .int (g_cm T n)), (8, .int (nI 0)), (7, .int (g_gs T n)), (6, .int (T (24 + ((hN T n))))), (5, .int (g_rm T (hN T n))), (4, .int (T (75 + n))), (3, .int (nI ((hN T n)))), (0, .ref (z.o)), (1, .int (nI n)), (2, .ref oa)]) hx hb dL_isPourSo_144 hl (by decide) rfl (fun ls hl => ?_)
        refine lv_aload_n hx hb dL_isPourSo_146 rfl (lv_at hl 9 rfl) ?_
        refine lv_iload_n hx hb dL_isPourSo_147 rfl (lv_at hl 10 rfl) ?_
        refine lv_iconst (v := nI 4) hx hb dL_isPourSo_148 (by decide) ?_
        refine q_ciK (BH := fun _ => True) (va_runV (rm := { frames := 2, cells := 0, slots := 0, locals := 44 }) (As := [.int (nI n), .int (nI 4)]) (rest := []) ⟨hx, hb, hml, hown, hts⟩ (m2_pot_ok l D z ol sn 0 T S Y G 0 P ch B hI n (by omega) 4 (by omega)) (cwV 2 hts gL_isPourSo_X2_pot rfl rfl rfl (by decide +kernel) ⟨Nat.le_of_ble_eq_true rfl, Nat.le_of_ble_eq_true rfl⟩) (q_pV (ci := 2) (q0 := 0) hP hK rfl rfl) rfl rfl hl.1 rfl (lv_room (Nat.le_of_ble_eq_true rfl)) dL_isPourSo_149 ⟨Nat.le_of_ble_eq_true rfl, Nat.le_of_ble_eq_true rfl⟩) (fun t h => trivial) hS (fun q h => h.elim) (fun x11 H locs e11 _ hk hS => ?_)
        have hP := k_kp hP hk
        have hO := k_kp hO hk
        have e11 : x11 = (g_gs T n) := e11
        subst e11
        refine lv_iload hx hb dL_isPourSo_152 (lv_at hl 4 rfl) ?_
        refine lv_icmp_ne (tgt := 257) hx hb dL_isPourSo_154 (by decide) (fun c12 => absurd c12 (fun z => z (rfl))) (fun c12 => ?_)
        refine lv_aload_n hx hb dL_isPourSo_157 rfl (lv_at hl 9 rfl) ?_
        refine lv_iload_n hx hb dL_isPourSo_158 rfl (lv_at hl 10 rfl) ?_
        refine lv_iconst (v := nI 5) hx hb dL_isPourSo_159 (by decide) ?_
        refine q_ciK (BH := fun _ => True) (va_runV (rm := { frames := 2, cells := 0, slots := 0, locals := 44 }) (As := [.int (nI n), .int (nI 5)]) (rest := []) ⟨hx, hb, hml, hown, hts⟩ (m2_pot_ok l D z ol sn 0 T S Y G 0 P ch B hI n (by omega) 5 (by omega)) (cwV 2 hts gL_isPourSo_X2_pot rfl rfl rfl (by decide +kernel) ⟨Nat.le_of_ble_eq_true rfl, Nat.le_of_ble_eq_true rfl⟩) (q_pV (ci := 2) (q0 := 0) hP hK rfl rfl) rfl rfl hl.1 rfl (lv_room (Nat.le_of_ble_eq_true rfl)) dL_isPourSo_160 ⟨Nat.le_of_ble_eq_true rfl, Nat.le_of_ble_eq_true rfl⟩) (fun t h => trivial) hS (fun q h => h.elim) (fun x13 H locs e13 _ hk hS => ?_)
        have hP := k_kp hP hk
        have hO := k_kp hO hk
        have e13 : x13 = (g_wy T n) := e13
        subst e13
        refine lv_iload hx hb dL_isPourSo_163 (lv_at hl 3 rfl) ?_
        refine lv_icmp_ne (tgt := 257) hx hb dL_isPourSo_165 (by decide) (fun c14 => absurd c14 (fun z => z (wy_0 hf hr))) (fun c14 => ?_)
        refine lv_aload_n hx hb dL_isPourSo_168 rfl (lv_at hl 9 rfl) ?_
        refine lv_iload_n hx hb dL_isPourSo_169 rfl (lv_at hl 10 rfl) ?_
        refine lv_iconst (v := nI 0) hx hb dL_isPourSo_170 (by decide) ?_
        refine q_ciK (BH := fun _ => True) (va_runV (rm := { frames := 4, cells := 0, slots := 0, locals := 91 }) (As := [.int (nI n), .int (nI 0)]) (rest := []) ⟨hx, hb, hml, hown, hts⟩ (m2_ifPoured_ok l D z ol sn 0 T S Y G 0 P ch B hI n hn3 0 (by omega)) (cwV 2 hts gL_isPourSo_X2_ifPoured rfl rfl rfl (by decide +kernel) ⟨Nat.le_of_ble_eq_true rfl, Nat.le_of_ble_eq_true rfl⟩) (q_pV (ci := 2) (q0 := 0) hP hK rfl rfl) rfl rfl hl.1 rfl (lv_room (Nat.le_of_ble_eq_true rfl)) dL_isPourSo_171 ⟨Nat.le_of_ble_eq_true rfl, Nat.le_of_ble_eq_true rfl⟩) (fun t h => trivial) hS (fun q h => h.elim) (fun x15 H locs e15 _ hk hS => ?_)
        have hP := k_kp hP hk
        have hO := k_kp hO hk
        have e15 : x15 = (g_cm T n) := (show _ = g_br T n 0 from e15).trans (br_0 hw)
        subst e15
        refine lv_iload hx hb dL_isPourSo_174 (lv_at hl 3 rfl) ?_
        refine lv_if_le (tgt := 183) hx hb dL_isPourSo_176 (by decide) (fun c16 => ?_) (fun c16 => absurd c16 (by decide))
        refine lv_iload hx hb dL_isPourSo_183 (lv_at hl 2 rfl) ?_
        refine lv_icmp_ne (tgt := 257) hx hb dL_isPourSo_185 (by decide) (fun c17 => absurd c17 (fun z => z (rfl))) (fun c17 => ?_)
        refine lv_aload_n hx hb dL_isPourSo_188 rfl (lv_at hl 9 rfl) ?_
        refine lv_iload_n hx hb dL_isPourSo_189 rfl (lv_at hl 10 rfl) ?_
        refine lv_iconst (v := nI 1) hx hb dL_isPourSo_190 (by decide) ?_
        refine q_ciK (BH := fun _ => True) (va_runV (rm := { frames := 4, cells := 0, slots := 0, locals := 91 }) (As := [.int (nI n), .int (nI 1)]) (rest := []) ⟨hx, hb, hml, hown, hts⟩ (m2_ifPoured_ok l D z ol sn 0 T S Y G 0 P ch B hI n hn3 1 (by omega)) (cwV 2 hts gL_isPourSo_X2_ifPoured rfl rfl rfl (by decide +kernel) ⟨Nat.le_of_ble_eq_true rfl, Nat.le_of_ble_eq_true rfl⟩) (q_pV (ci := 2) (q0 := 0) hP hK rfl rfl) rfl rfl hl.1 rfl (lv_room (Nat.le_of_ble_eq_true rfl)) dL_isPourSo_191 ⟨Nat.le_of_ble_eq_true rfl, Nat.le_of_ble_eq_true rfl⟩) (fun t h => trivial) hS (fun q h => h.elim) (fun x18 H locs e18 _ hk hS => ?_)
        have hP := k_kp hP hk
        have hO := k_kp hO hk
        have e18 : x18 = (g_ov T n) := (show _ = g_br T n 1 from e18).trans (br_1 hw)
        subst e18
        refine lv_iload hx hb dL_isPourSo_194 (lv_at hl 3 rfl) ?_
        refine lv_if_le (tgt := 203) hx hb dL_isPourSo_196 (by decide) (fun c19 => ?_) (fun c19 => absurd c19 (by decide))
        refine lv_iload hx hb dL_isPourSo_203 (lv_at hl 1 rfl) ?_
        refine lv_icmp_ne (tgt := 257) hx hb dL_isPourSo_205 (by decide) (fun c20 => absurd c20 (fun z => z (rfl))) (fun c20 => ?_)
        refine lv_iload hx hb dL_isPourSo_208 (lv_at hl 0 rfl) ?_
        refine lv_iconst (v := (-1)) hx hb dL_isPourSo_210 (by decide) ?_
        refine lv_icmp_lt (tgt := 257) hx hb dL_isPourSo_211 (by decide) (fun c21 => absurd c21 (bg_lo hI hn3)) (fun c21 => ?_)
        refine lv_iload hx hb dL_isPourSo_214 (lv_at hl 0 rfl) ?_
        refine lv_bipush (v := nI 8) hx hb dL_isPourSo_216 (by decide) ?_
        refine lv_icmp_ge (tgt := 257) hx hb dL_isPourSo_218 (by decide) (fun c22 => absurd c22 (bg_hi hI hn3)) (fun c22 => ?_)
        refine lv_iload hx hb dL_isPourSo_221 (lv_at hl 3 rfl) ?_
        refine lv_if_gt (tgt := 242) hx hb dL_isPourSo_223 (by decide) (fun c23 => absurd c23 (by decide)) (fun c23 => ?_)
        refine lv_iload hx hb dL_isPourSo_226 (lv_at hl 0 rfl) ?_
        refine lv_if_lt (tgt := 257) hx hb dL_isPourSo_228 (by decide) (fun c24 => absurd c24 (bg_pos hI hn3 hw)) (fun c24 => ?_)
        refine lv_iload hx hb dL_isPourSo_231 (lv_at hl 1 rfl) ?_
        have J242 : W p l e { frames := 9, cells := 1, slots := 6, locals := 164 } s m args below meth c H locs 0 0 Q (F0 m 242 ls []) := by
          refine lv_iload hx hb dL_isPourSo_242 (lv_at hl 7 rfl) ?_
          refine lv_if_gt (tgt := 253) hx hb dL_isPourSo_244 (by decide) (fun c25 => ?_) (fun c25 => absurd c25 (fun z => z (fi_pos hI hn3 hf)))
          refine lv_iconst (v := nI 1) hx hb dL_isPourSo_253 (by decide) ?_
          refine lv_goto (tgt := 258) hx hb dL_isPourSo_254 (by decide) ?_
          refine lv_istore (lv' := [(12, .int (nI 1)), (11, .int (g_bg 8 (-1) (nI 0) T n)), (10, .int (g_ov T n)), (9, .int (g_cm T n)), (8, .int (nI 0)), (7, .int (g_gs T n)), (6, .int (T (24 + ((hN T n))))), (5, .int (g_rm T (hN T n))), (4, .int (T (75 + n))), (3, .int (nI ((hN T n)))), (0, .ref (z.o)), (1, .int (nI n)), (2, .ref oa)]) hx hb dL_isPourSo_258 hl (by decide) rfl (fun ls hl => ?_)
          refine lv_aload_n hx hb dL_isPourSo_260 rfl (lv_at hl 10 rfl) ?_
          refine lv_iload_n hx hb dL_isPourSo_261 rfl (lv_at hl 11 rfl) ?_
          refine lv_iconst (v := nI 2) hx hb dL_isPourSo_262 (by decide) ?_
          refine q_ciK (BH := fun _ => True) (va_runV (rm := { frames := 4, cells := 0, slots := 0, locals := 91 }) (As := [.int (nI n), .int (nI 2)]) (rest := []) ⟨hx, hb, hml, hown, hts⟩ (m2_ifPoured_ok l D z ol sn 0 T S Y G 0 P ch B hI n hn3 2 (by omega)) (cwV 2 hts gL_isPourSo_X2_ifPoured rfl rfl rfl (by decide +kernel) ⟨Nat.le_of_ble_eq_true rfl, Nat.le_of_ble_eq_true rfl⟩) (q_pV (ci := 2) (q0 := 0) hP hK rfl rfl) rfl rfl hl.1 rfl (lv_room (Nat.le_of_ble_eq_true rfl)) dL_isPourSo_263 ⟨Nat.le_of_ble_eq_true rfl, Nat.le_of_ble_eq_true rfl⟩) (fun t h => trivial) hS (fun q h => h.elim) (fun x26 H locs e26 _ hk hS => ?_)
          have hP := k_kp hP hk
          have hO := k_kp hO hk
          have e26 : x26 = (g_tr T n) := (show _ = g_br T n 2 from e26).trans (br_2 hw)
          subst e26
          refine lv_istore (lv' := [(13, .int (g_tr T n)), (12, .int (nI 1)), (11, .int (g_bg 8 (-1) (nI 0) T n)), (10, .int (g_ov T n)), (9, .int (g_cm T n)), (8, .int (nI 0)), (7, .int (g_gs T n)), (6, .int (T (24 + ((hN T n))))), (5, .int (g_rm T (hN T n))), (4, .int (T (75 + n))), (3, .int (nI ((hN T n)))), (0, .ref (z.o)), (1, .int (nI n)), (2, .ref oa)]) hx hb dL_isPourSo_266 hl (by decide) rfl (fun ls hl => ?_)
          refine lv_aload_n hx hb dL_isPourSo_268 rfl (lv_at hl 11 rfl) ?_
          refine lv_iconst (v := nI 5) hx hb dL_isPourSo_269 (by decide) ?_
          refine q_ciK (BH := fun _ => True) (va_runV (rm := { frames := 3, cells := 0, slots := 0, locals := 65 }) (As := [.int (nI 5)]) (rest := []) ⟨hx, hb, hml, hown, hts⟩ (m2_count_ok l D z ol sn 0 T S Y G 0 P ch 5 (by omega)) (cwV 1 hts gL_isPourSo_X2_count rfl rfl rfl (by decide +kernel) ⟨Nat.le_of_ble_eq_true rfl, Nat.le_of_ble_eq_true rfl⟩) (q_pV (ci := 2) (q0 := 0) hP hK rfl rfl) rfl rfl hl.1 rfl (lv_room (Nat.le_of_ble_eq_true rfl)) dL_isPourSo_270 ⟨Nat.le_of_ble_eq_true rfl, Nat.le_of_ble_eq_true rfl⟩) (fun t h => trivial) hS (fun q h => h.elim) (fun x27 H locs e27 _ hk hS => ?_)
          have hP := k_kp hP hk
          have hO := k_kp hO hk
          have e27 : x27 = (T 136) := e27
          subst e27
          refine lv_istore (lv' := [(14, .int (T 136)), (13, .int (g_tr T n)), (12, .int (nI 1)), (11, .int (g_bg 8 (-1) (nI 0) T n)), (10, .int (g_ov T n)), (9, .int (g_cm T n)), (8, .int (nI 0)), (7, .int (g_gs T n)), (6, .int (T (24 + ((hN T n))))), (5, .int (g_rm T (hN T n))), (4, .int (T (75 + n))), (3, .int (nI ((hN T n)))), (0, .ref (z.o)), (1, .int (nI n)), (2, .ref oa)]) hx hb dL_isPourSo_273 hl (by decide) rfl (fun ls hl => ?_)
          refine lv_aload_n hx hb dL_isPourSo_275 rfl (lv_at hl 12 rfl) ?_
          refine lv_iconst (v := nI 1) hx hb dL_isPourSo_276 (by decide) ?_
          refine lv_iload_n hx hb dL_isPourSo_277 rfl (lv_at hl 13 rfl) ?_
          refine lv_iconst (v := nI 0) hx hb dL_isPourSo_278 (by decide) ?_
          refine lv_aload_n hx hb dL_isPourSo_279 rfl (lv_at hl 14 rfl) ?_
          refine q_ciK (BH := fun H => CE 0 z D sn T (g_pour T n) H ∧ ∃ g', OE 0 (g_ov T n) g' ∧ va_P D vwCl (wI oa z.cI g') H) (vx_runSW (rm := { frames := 8, cells := 1, slots := 6, locals := 139 }) (As := [.ref (z.o), .int (nI 1), .int (nI n), .int (nI 0), .ref oa]) (rest := []) ⟨hx, hb, hml, hown, hts⟩ (K_pour_ok l hl9 D st z oa hoa hDX g sn hsn T B hI n hn3 (nI 0) hw) (vx_cwSW (hh := [(0, 76, 79, 30), (0, 76, 83, 32), (0, 76, 87, 34)]) 5 hts gL_isPourSo_L_changes rfl rfl rfl (by decide +kernel) ⟨Nat.le_of_ble_eq_true rfl, Nat.le_of_ble_eq_true rfl⟩) (k_pS (C0 := OS z D sn T) ⟨ol, S, Y, G, P, ch, hol, hP⟩ hO hK hT hS (fun q h => h)) rfl rfl hl.1 rfl (lv_room (Nat.le_of_ble_eq_true rfl)) dL_isPourSo_280 ⟨Nat.le_of_ble_eq_true rfl, Nat.le_of_ble_eq_true rfl⟩) (fun _ h => h) hS (fun q h => h) (fun r H locs er hCO hk5 hS => ?_)
          obtain ⟨hC, g1, hg1, hO⟩ := hCO
          have er : nI 0 = r := Eq.symm er
          subst er
          have hg1 : g1 = g_ov T n := hg1 rfl
          subst hg1
          obtain ⟨ol, S, Y, G, P, ch, hol, hG, hP⟩ := (show OU z D (pn sn) T (g_pour T n) H from hC)
          have hD := q_D2 (ws' := wX z ol (1 + pn sn) 0 (g_pour T n) S Y G 0 P ch) hDX rfl
          have hI1 := pour_inv hI hB hn3
          have h8p := hI1.hN8 hn3
          refine lv_istore (lv' := [(15, .int (nI 0)), (14, .int (T 136)), (13, .int (g_tr T n)), (12, .int (nI 1)), (11, .int (g_bg 8 (-1) (nI 0) T n)), (10, .int (g_ov T n)), (9, .int (g_cm T n)), (8, .int (nI 0)), (7, .int (g_gs T n)), (6, .int (T (24 + ((hN T n))))), (5, .int (g_rm T (hN T n))), (4, .int (T (75 + n))), (3, .int (nI ((hN T n)))), (0, .ref (z.o)), (1, .int (nI n)), (2, .ref oa)]) hx hb dL_isPourSo_283 hl (by decide) rfl (fun ls hl => ?_)
          refine lv_iload hx hb dL_isPourSo_285 (lv_at hl 0 rfl) ?_
          refine lv_if_eq (tgt := 318) hx hb dL_isPourSo_287 (by decide) (fun c28 => ?_) (fun c28 => absurd c28 (by decide))
          refine lv_iload hx hb dL_isPourSo_318 (lv_at hl 3 rfl) ?_
          refine lv_if_eq (tgt := 433) hx hb dL_isPourSo_320 (by decide) (fun c29 => absurd c29 (by decide)) (fun c29 => ?_)
          refine lv_iload hx hb dL_isPourSo_323 (lv_at hl 7 rfl) ?_
          refine lv_if_ne (tgt := 433) hx hb dL_isPourSo_325 (by decide) (fun c30 => absurd c30 (by decide)) (fun c30 => ?_)
          refine lv_aload_n hx hb dL_isPourSo_328 rfl (lv_at hl 15 rfl) ?_
          refine lv_iconst (v := nI 0) hx hb dL_isPourSo_329 (by decide) ?_
          refine k_ld0 hx hb hK hO 0 rfl dL_isPourSo_330 ?_
          refine lv_iload hx hb dL_isPourSo_331 (lv_at hl 5 rfl) ?_
          refine lv_icmp_ne (tgt := 433) hx hb dL_isPourSo_333 (by decide) (fun c31 => absurd c31 (fun z => z (rfl))) (fun c31 => ?_)
          refine lv_aload_n hx hb dL_isPourSo_336 rfl (lv_at hl 13 rfl) ?_
          refine lv_iload_n hx hb dL_isPourSo_337 rfl (lv_at hl 14 rfl) ?_
          refine lv_iconst (v := nI 1) hx hb dL_isPourSo_338 (by decide) ?_
          refine q_ciK (BH := fun _ => True) (va_runV (rm := { frames := 2, cells := 0, slots := 0, locals := 44 }) (As := [.int (nI n), .int (nI 1)]) (rest := []) ⟨hx, hb, hml, hown, hts⟩ (m2_pot_ok l D z ol (1 + pn sn) 0 (g_pour T n) S Y G 0 P ch (B + 200) hI1 n (by omega) 1 (by omega)) (cwV 2 hts gL_isPourSo_X2_pot rfl rfl rfl (by decide +kernel) ⟨Nat.le_of_ble_eq_true rfl, Nat.le_of_ble_eq_true rfl⟩) (q_pV (ci := 2) (q0 := 0) hP hK rfl rfl) rfl rfl hl.1 rfl (lv_room (Nat.le_of_ble_eq_true rfl)) dL_isPourSo_339 ⟨Nat.le_of_ble_eq_true rfl, Nat.le_of_ble_eq_true rfl⟩) (fun t h => trivial) hS (fun q h => h.elim) (fun x32 H locs e32 _ hk hS => ?_)
          have hP := k_kp hP hk
          have hO := k_kp hO hk
          have e32 : x32 = ((g_pour T n) (75 + n)) := e32
          subst e32
          refine lv_iload hx hb dL_isPourSo_342 (lv_at hl 11 rfl) ?_
          refine lv_iload hx hb dL_isPourSo_344 (lv_at hl 6 rfl) ?_
          refine lv_isub hx hb dL_isPourSo_346 ?_
          refine lv_icmp_ne (tgt := 433) hx hb dL_isPourSo_347 (by decide) (fun c33 => absurd c33 (fun z => z (pour_fi hn3 h8))) (fun c33 => ?_)
          refine lv_aload_n hx hb dL_isPourSo_350 rfl (lv_at hl 13 rfl) ?_
          refine lv_iload_n hx hb dL_isPourSo_351 rfl (lv_at hl 12 rfl) ?_
          refine lv_iconst (v := nI 3) hx hb dL_isPourSo_352 (by decide) ?_
          refine q_ciK (BH := fun _ => True) (va_runV (rm := { frames := 1, cells := 0, slots := 0, locals := 23 }) (As := [.int (nI ((hN T n))), .int (nI 3)]) (rest := []) ⟨hx, hb, hml, hown, hts⟩ (m2_guest_ok l D z ol (1 + pn sn) 0 (g_pour T n) S Y G 0 P ch (B + 200) hI1 ((hN T n)) (by omega) 3 (by omega)) (cwV 2 hts gL_isPourSo_X2_guest rfl rfl rfl (by decide +kernel) ⟨Nat.le_of_ble_eq_true rfl, Nat.le_of_ble_eq_true rfl⟩) (q_pV (ci := 2) (q0 := 0) hP hK rfl rfl) rfl rfl hl.1 rfl (lv_room (Nat.le_of_ble_eq_true rfl)) dL_isPourSo_353 ⟨Nat.le_of_ble_eq_true rfl, Nat.le_of_ble_eq_true rfl⟩) (fun t h => trivial) hS (fun q h => h.elim) (fun x34 H locs e34 _ hk hS => ?_)
          have hP := k_kp hP hk
          have hO := k_kp hO hk
          have e34 : x34 = ((g_pour T n) (24 + ((hN T n)))) := e34
          subst e34
          refine lv_iload hx hb dL_isPourSo_356 (lv_at hl 2 rfl) ?_
          refine lv_icmp_ne (tgt := 433) hx hb dL_isPourSo_358 (by decide) (fun c35 => absurd c35 (fun z => z (pour_tr hn3 h8))) (fun c35 => ?_)
          refine lv_iload hx hb dL_isPourSo_361 (lv_at hl 2 rfl) ?_
          refine lv_iload hx hb dL_isPourSo_363 (lv_at hl 9 rfl) ?_
          refine lv_isub hx hb dL_isPourSo_365 ?_
          refine lv_iconst (v := nI 2) hx hb dL_isPourSo_366 (by decide) ?_
          refine lv_icmp_ge (tgt := 433) hx hb dL_isPourSo_367 (by decide) (fun c36 => absurd c36 (tr_n1 hI hn3)) (fun c36 => ?_)
          refine lv_iload hx hb dL_isPourSo_370 (lv_at hl 9 rfl) ?_
          refine lv_iload hx hb dL_isPourSo_372 (lv_at hl 2 rfl) ?_
          refine lv_isub hx hb dL_isPourSo_374 ?_
          refine lv_iconst (v := nI 2) hx hb dL_isPourSo_375 (by decide) ?_
          refine lv_icmp_ge (tgt := 433) hx hb dL_isPourSo_376 (by decide) (fun c37 => absurd c37 (tr_n2 hI hn3)) (fun c37 => ?_)
          refine lv_aload_n hx hb dL_isPourSo_379 rfl (lv_at hl 13 rfl) ?_
          refine lv_iconst (v := nI 5) hx hb dL_isPourSo_380 (by decide) ?_
          refine q_ciK (BH := fun _ => True) (va_runV (rm := { frames := 3, cells := 0, slots := 0, locals := 65 }) (As := [.int (nI 5)]) (rest := []) ⟨hx, hb, hml, hown, hts⟩ (m2_count_ok l D z ol (1 + pn sn) 0 (g_pour T n) S Y G 0 P ch 5 (by omega)) (cwV 1 hts gL_isPourSo_X2_count rfl rfl rfl (by decide +kernel) ⟨Nat.le_of_ble_eq_true rfl, Nat.le_of_ble_eq_true rfl⟩) (q_pV (ci := 2) (q0 := 0) hP hK rfl rfl) rfl rfl hl.1 rfl (lv_room (Nat.le_of_ble_eq_true rfl)) dL_isPourSo_381 ⟨Nat.le_of_ble_eq_true rfl, Nat.le_of_ble_eq_true rfl⟩) (fun t h => trivial) hS (fun q h => h.elim) (fun x38 H locs e38 _ hk hS => ?_)
          have hP := k_kp hP hk
          have hO := k_kp hO hk
          have e38 : x38 = ((g_pour T n) 136) := e38
          subst e38
          refine lv_iload hx hb dL_isPourSo_384 (lv_at hl 1 rfl) ?_
          refine lv_iconst (v := nI 1) hx hb dL_isPourSo_386 (by decide) ?_
          refine lv_iadd hx hb dL_isPourSo_387 ?_
          refine lv_icmp_ne (tgt := 433) hx hb dL_isPourSo_388 (by decide) (fun c39 => absurd c39 (fun z => z (pour_po hn3 h8))) (fun c39 => ?_)
          refine lv_aload_n hx hb dL_isPourSo_391 rfl (lv_at hl 13 rfl) ?_
          refine lv_iload_n hx hb dL_isPourSo_392 rfl (lv_at hl 14 rfl) ?_
          refine lv_iconst (v := nI 0) hx hb dL_isPourSo_393 (by decide) ?_
          refine q_ciK (BH := fun _ => True) (va_runV (rm := { frames := 2, cells := 0, slots := 0, locals := 44 }) (As := [.int (nI n), .int (nI 0)]) (rest := []) ⟨hx, hb, hml, hown, hts⟩ (m2_pot_ok l D z ol (1 + pn sn) 0 (g_pour T n) S Y G 0 P ch (B + 200) hI1 n (by omega) 0 (by omega)) (cwV 2 hts gL_isPourSo_X2_pot rfl rfl rfl (by decide +kernel) ⟨Nat.le_of_ble_eq_true rfl, Nat.le_of_ble_eq_true rfl⟩) (q_pV (ci := 2) (q0 := 0) hP hK rfl rfl) rfl rfl hl.1 rfl (lv_room (Nat.le_of_ble_eq_true rfl)) dL_isPourSo_394 ⟨Nat.le_of_ble_eq_true rfl, Nat.le_of_ble_eq_true rfl⟩) (fun t h => trivial) hS (fun q h => h.elim) (fun x40 H locs e40 _ hk hS => ?_)
          have hP := k_kp hP hk
          have hO := k_kp hO hk
          have e40 : x40 = (nI ((hN (g_pour T n) n))) := (show _ = (g_pour T n) (72 + n) from e40).trans (hI1.ok1 hn3).1
          subst e40
          refine lv_iload_n hx hb dL_isPourSo_397 rfl (lv_at hl 12 rfl) ?_
          refine q_neN (tgt := 433) hx hb (by omega) (by omega) dL_isPourSo_398 (by decide) (fun c41 => absurd c41 (fun z => z (pour_hN hn3 h8 hn3))) (fun c41 => ?_)
          refine lv_aload_n hx hb dL_isPourSo_401 rfl (lv_at hl 13 rfl) ?_
          refine q_ciK (BH := fun H => va_P D vwCl (wX z ol (pn sn) 0 (G ((ol + pn sn) % 6)) S Y G 0 P ch) H) (va_runV (rm := { frames := 2, cells := 0, slots := 0, locals := 81 }) (As := []) (rest := []) ⟨hx, hb, hml, hown, hts⟩ (m2_undo_ok l D z ol (pn sn) 0 (g_pour T n) S Y G 0 P ch hol (pn_lt hsn) hD) (cwV 0 hts gL_isPourSo_X2_undo rfl rfl rfl (by decide +kernel) ⟨Nat.le_of_ble_eq_true rfl, Nat.le_of_ble_eq_true rfl⟩) (q_pV (ci := 2) (q0 := 0) hP hK rfl rfl) rfl rfl hl.1 rfl (lv_room (Nat.le_of_ble_eq_true rfl)) dL_isPourSo_402 ⟨Nat.le_of_ble_eq_true rfl, Nat.le_of_ble_eq_true rfl⟩) (fun t h => h) hS (fun q h => Or.inl h) (fun x42 H locs e42 hP hk hS => ?_)
          rw [hG] at hP
          have hO := wI_kept hO hoa hk
          have e42 : x42 = nI (pn sn) := e42
          subst e42
          refine lv_if_lt (tgt := 433) hx hb dL_isPourSo_405 (by decide) (fun c43 => absurd c43 (nI_pos (by have := pn_lt hsn; omega))) (fun c43 => ?_)
          refine lv_aload_n hx hb dL_isPourSo_408 rfl (lv_at hl 13 rfl) ?_
          refine lv_iload_n hx hb dL_isPourSo_409 rfl (lv_at hl 14 rfl) ?_
          refine lv_iconst (v := nI 1) hx hb dL_isPourSo_410 (by decide) ?_
          refine q_ciK (BH := fun _ => True) (va_runV (rm := { frames := 2, cells := 0, slots := 0, locals := 44 }) (As := [.int (nI n), .int (nI 1)]) (rest := []) ⟨hx, hb, hml, hown, hts⟩ (m2_pot_ok l D z ol (pn sn) 0 T S Y G 0 P ch B hI n (by omega) 1 (by omega)) (cwV 2 hts gL_isPourSo_X2_pot rfl rfl rfl (by decide +kernel) ⟨Nat.le_of_ble_eq_true rfl, Nat.le_of_ble_eq_true rfl⟩) (q_pV (ci := 2) (q0 := 0) hP hK rfl rfl) rfl rfl hl.1 rfl (lv_room (Nat.le_of_ble_eq_true rfl)) dL_isPourSo_411 ⟨Nat.le_of_ble_eq_true rfl, Nat.le_of_ble_eq_true rfl⟩) (fun t h => trivial) hS (fun q h => h.elim) (fun x44 H locs e44 _ hk hS => ?_)
          have hP := k_kp hP hk
          have hO := k_kp hO hk
          have e44 : x44 = (T (75 + n)) := e44
          subst e44
          refine lv_iload hx hb dL_isPourSo_414 (lv_at hl 11 rfl) ?_
          refine lv_icmp_ne (tgt := 433) hx hb dL_isPourSo_416 (by decide) (fun c45 => absurd c45 (fun z => z (rfl))) (fun c45 => ?_)
          refine lv_aload_n hx hb dL_isPourSo_419 rfl (lv_at hl 13 rfl) ?_
          refine lv_iconst (v := nI 5) hx hb dL_isPourSo_420 (by decide) ?_
          refine q_ciK (BH := fun _ => True) (va_runV (rm := { frames := 3, cells := 0, slots := 0, locals := 65 }) (As := [.int (nI 5)]) (rest := []) ⟨hx, hb, hml, hown, hts⟩ (m2_count_ok l D z ol (pn sn) 0 T S Y G 0 P ch 5 (by omega)) (cwV 1 hts gL_isPourSo_X2_count rfl rfl rfl (by decide +kernel) ⟨Nat.le_of_ble_eq_true rfl, Nat.le_of_ble_eq_true rfl⟩) (q_pV (ci := 2) (q0 := 0) hP hK rfl rfl) rfl rfl hl.1 rfl (lv_room (Nat.le_of_ble_eq_true rfl)) dL_isPourSo_421 ⟨Nat.le_of_ble_eq_true rfl, Nat.le_of_ble_eq_true rfl⟩) (fun t h => trivial) hS (fun q h => h.elim) (fun x46 H locs e46 _ hk hS => ?_)
          have hP := k_kp hP hk
          have hO := k_kp hO hk
          have e46 : x46 = (T 136) := e46
          subst e46
          refine lv_iload hx hb dL_isPourSo_424 (lv_at hl 1 rfl) ?_
          refine lv_icmp_ne (tgt := 433) hx hb dL_isPourSo_426 (by decide) (fun c47 => absurd c47 (fun z => z (rfl))) (fun c47 => ?_)
          refine lv_iconst (v := nI 1) hx hb dL_isPourSo_429 (by decide) ?_
          refine lv_goto (tgt := 434) hx hb dL_isPourSo_430 (by decide) ?_
          exact hret _ _ _ _ _ ⟨pn sn, Nat.le_of_lt (pn_lt hsn), ol, S, Y, G, P, ch, hol, hP⟩ trivial hO hS dL_isPourSo_434
        refine lv_if_gt (tgt := 242) hx hb dL_isPourSo_233 (by decide) (fun c48 => ?_) (fun c48 => ?_)
        ·
          exact J242
        ·
          refine lv_iload hx hb dL_isPourSo_236 (lv_at hl 0 rfl) ?_
          refine lv_iload_n hx hb dL_isPourSo_238 rfl (lv_at hl 8 rfl) ?_
          refine lv_icmp_ne (tgt := 257) hx hb dL_isPourSo_239 (by decide) (fun c49 => absurd c49 (fun z => z (bg_own hI hn3 hw (ov_n c48)))) (fun c49 => ?_)
          exact J242
      refine lv_icmp_le (tgt := 136) hx hb dL_isPourSo_125 (by decide) (fun c50 => ?_) (fun c50 => ?_)
      ·
        refine lv_iconst (v := nI 0) hx hb dL_isPourSo_136 (by decide) ?_
        rw [ov_le hI hn3 c50] at J137
        exact J137
      ·
        refine lv_iload hx hb dL_isPourSo_128 (lv_at hl 0 rfl) ?_
        refine lv_iload hx hb dL_isPourSo_130 (lv_at hl 4 rfl) ?_
        refine lv_isub hx hb dL_isPourSo_132 ?_
        refine lv_goto (tgt := 137) hx hb dL_isPourSo_133 (by decide) ?_
        rw [ov_gt hI hn3 c50] at J137
        exact J137
    refine lv_icmp_le (tgt := 117) hx hb dL_isPourSo_109 (by decide) (fun c51 => ?_) (fun c51 => ?_)
    ·
      refine lv_iload hx hb dL_isPourSo_117 (lv_at hl 0 rfl) ?_
      rw [cm_le c51] at J119
      exact J119
    ·
      refine lv_iload hx hb dL_isPourSo_112 (lv_at hl 5 rfl) ?_
      refine lv_goto (tgt := 119) hx hb dL_isPourSo_114 (by decide) ?_
      rw [cm_gt c51] at J119
      exact J119
  refine lv_if_ne (tgt := 100) hx hb dL_isPourSo_93 (by decide) (fun c52 => ?_) (fun c52 => ?_)
  ·
    refine lv_iload hx hb dL_isPourSo_100 (lv_at hl 1 rfl) ?_
    rw [dv_1 hI hn3 c52] at J102
    exact J102
  ·
    refine lv_iconst (v := nI 1) hx hb dL_isPourSo_96 (by decide) ?_
    refine lv_goto (tgt := 102) hx hb dL_isPourSo_97 (by decide) ?_
    rw [dv_0 c52] at J102
    exact J102
set_option maxHeartbeats 8000000 in
set_option maxRecDepth 100000 in
theorem L_isPourSo_1 (l : Launch) (hl9 : l.stackTraces = false) (D : va_G) (st : Nat → Nat) (z : Ad) (oa : Nat) (hoa : ¬ AX z oa) (hDX : va_D (fun _ => True) (wX z 0 0 0 f00 f00 f00 (fun _ => f00) 0 (0, 0, 0, 0) (fun _ => 0))) (g : Int32) (sn : Nat) (hsn : sn ≤ 6) (T : Nat → Int32) (B : Nat) (hI : Inv B T) (hB2 : B + 33600 < 2000000000) (n : Nat) (hn3 : n < 3) (hf : T (75 + n) = 0) : k_H l yL_isPourSo wsL_isPourSo { frames := 9, cells := 1, slots := 6, locals := 164 } [.ref z.o, .int (nI n), .ref oa] st D z oa (OS z D sn T) g (nI 1) (fun H => ∃ sn', sn' ≤ 6 ∧ OS z D sn' T H) (fun _ => True) := by
  refine k_goA (cc := cL_isPourSo) (maxL := 16) (ty := .boolean) (lv0 := [(0, .ref z.o), (1, .int (nI n)), (2, .ref oa)]) (by decide) rfl (Nat.le_of_ble_eq_true rfl) rfl (by first | rfl | decide) ?_
  intro p e s m args below meth c Q ls hx hb hml hts hown hC hO hK hT hl hret
  obtain ⟨ol, S, Y, G, P, ch, hol, hP⟩ := hC
  have hD := q_D2 (ws' := wX z ol sn 0 T S Y G 0 P ch) hDX rfl
  have hS : va_S (AXo z oa) s.heap s.heap [] := va_S.rf
  have hB : B < 2000000000 := by omega
  have h8 := hI.hN8 hn3
  have hw : ¬ g_wy T n = 0 := by rw [wy_1 hf]; decide
  refine lv_aload_n hx hb dL_isPourSo_0 rfl (lv_at hl 0 rfl) ?_
  refine lv_iload_n hx hb dL_isPourSo_1 rfl (lv_at hl 1 rfl) ?_
  refine lv_iconst (v := nI 0) hx hb dL_isPourSo_2 (by decide) ?_
  refine q_ciK (BH := fun _ => True) (va_runV (rm := { frames := 2, cells := 0, slots := 0, locals := 44 }) (As := [.int (nI n), .int (nI 0)]) (rest := []) ⟨hx, hb, hml, hown, hts⟩ (m2_pot_ok l D z ol sn 0 T S Y G 0 P ch B hI n (by omega) 0 (by omega)) (cwV 2 hts gL_isPourSo_X2_pot rfl rfl rfl (by decide +kernel) ⟨Nat.le_of_ble_eq_true rfl, Nat.le_of_ble_eq_true rfl⟩) (q_pV (ci := 2) (q0 := 0) hP hK rfl rfl) rfl rfl hl.1 rfl (lv_room (Nat.le_of_ble_eq_true rfl)) dL_isPourSo_3 ⟨Nat.le_of_ble_eq_true rfl, Nat.le_of_ble_eq_true rfl⟩) (fun t h => trivial) hS (fun q h => h.elim) (fun x1 H locs e1 _ hk hS => ?_)
  have hP := k_kp hP hk
  have hO := k_kp hO hk
  have e1 : x1 = (nI ((hN T n))) := (show _ = T (72 + n) from e1).trans (hI.ok1 hn3).1
  subst e1
  refine lv_istore_n (lv' := [(3, .int (nI ((hN T n)))), (0, .ref (z.o)), (1, .int (nI n)), (2, .ref oa)]) hx hb dL_isPourSo_6 rfl hl (by decide) rfl (fun ls hl => ?_)
  refine lv_aload_n hx hb dL_isPourSo_7 rfl (lv_at hl 1 rfl) ?_
  refine lv_iload_n hx hb dL_isPourSo_8 rfl (lv_at hl 2 rfl) ?_
  refine lv_iconst (v := nI 1) hx hb dL_isPourSo_9 (by decide) ?_
  refine q_ciK (BH := fun _ => True) (va_runV (rm := { frames := 2, cells := 0, slots := 0, locals := 44 }) (As := [.int (nI n), .int (nI 1)]) (rest := []) ⟨hx, hb, hml, hown, hts⟩ (m2_pot_ok l D z ol sn 0 T S Y G 0 P ch B hI n (by omega) 1 (by omega)) (cwV 2 hts gL_isPourSo_X2_pot rfl rfl rfl (by decide +kernel) ⟨Nat.le_of_ble_eq_true rfl, Nat.le_of_ble_eq_true rfl⟩) (q_pV (ci := 2) (q0 := 0) hP hK rfl rfl) rfl rfl hl.1 rfl (lv_room (Nat.le_of_ble_eq_true rfl)) dL_isPourSo_10 ⟨Nat.le_of_ble_eq_true rfl, Nat.le_of_ble_eq_true rfl⟩) (fun t h => trivial) hS (fun q h => h.elim) (fun x2 H locs e2 _ hk hS => ?_)
  have hP := k_kp hP hk
  have hO := k_kp hO hk
  have e2 : x2 = (T (75 + n)) := e2
  subst e2
  refine lv_istore (lv' := [(4, .int (T (75 + n))), (3, .int (nI ((hN T n)))), (0, .ref (z.o)), (1, .int (nI n)), (2, .ref oa)]) hx hb dL_isPourSo_13 hl (by decide) rfl (fun ls hl => ?_)
  refine lv_aload_n hx hb dL_isPourSo_15 rfl (lv_at hl 2 rfl) ?_
  refine lv_iload_n hx hb dL_isPourSo_16 rfl (lv_at hl 1 rfl) ?_
  refine lv_iconst (v := nI 0) hx hb dL_isPourSo_17 (by decide) ?_
  refine q_ciK (BH := fun _ => True) (va_runV (rm := { frames := 1, cells := 0, slots := 0, locals := 23 }) (As := [.int (nI ((hN T n))), .int (nI 0)]) (rest := []) ⟨hx, hb, hml, hown, hts⟩ (m2_guest_ok l D z ol sn 0 T S Y G 0 P ch B hI ((hN T n)) (by omega) 0 (by omega)) (cwV 2 hts gL_isPourSo_X2_guest rfl rfl rfl (by decide +kernel) ⟨Nat.le_of_ble_eq_true rfl, Nat.le_of_ble_eq_true rfl⟩) (q_pV (ci := 2) (q0 := 0) hP hK rfl rfl) rfl rfl hl.1 rfl (lv_room (Nat.le_of_ble_eq_true rfl)) dL_isPourSo_18 ⟨Nat.le_of_ble_eq_true rfl, Nat.le_of_ble_eq_true rfl⟩) (fun t h => trivial) hS (fun q h => h.elim) (fun x3 H locs e3 _ hk hS => ?_)
  have hP := k_kp hP hk
  have hO := k_kp hO hk
  have e3 : x3 = (T ((hN T n))) := (show _ = T (8 * 0 + ((hN T n))) from e3).trans (by rw [Nat.mul_zero, Nat.zero_add])
  subst e3
  refine lv_aload_n hx hb dL_isPourSo_21 rfl (lv_at hl 2 rfl) ?_
  refine lv_iload_n hx hb dL_isPourSo_22 rfl (lv_at hl 1 rfl) ?_
  refine lv_iconst (v := nI 1) hx hb dL_isPourSo_23 (by decide) ?_
  refine q_ciK (BH := fun _ => True) (va_runV (rm := { frames := 1, cells := 0, slots := 0, locals := 23 }) (As := [.int (nI ((hN T n))), .int (nI 1)]) (rest := [.int (T ((hN T n)))]) ⟨hx, hb, hml, hown, hts⟩ (m2_guest_ok l D z ol sn 0 T S Y G 0 P ch B hI ((hN T n)) (by omega) 1 (by omega)) (cwV 2 hts gL_isPourSo_X2_guest rfl rfl rfl (by decide +kernel) ⟨Nat.le_of_ble_eq_true rfl, Nat.le_of_ble_eq_true rfl⟩) (q_pV (ci := 2) (q0 := 0) hP hK rfl rfl) rfl rfl hl.1 rfl (lv_room (Nat.le_of_ble_eq_true rfl)) dL_isPourSo_24 ⟨Nat.le_of_ble_eq_true rfl, Nat.le_of_ble_eq_true rfl⟩) (fun t h => trivial) hS (fun q h => h.elim) (fun x4 H locs e4 _ hk hS => ?_)
  have hP := k_kp hP hk
  have hO := k_kp hO hk
  have e4 : x4 = (T (8 + ((hN T n)))) := e4
  subst e4
  refine lv_isub hx hb dL_isPourSo_27 ?_
  refine lv_istore (lv' := [(5, .int (g_rm T (hN T n))), (4, .int (T (75 + n))), (3, .int (nI ((hN T n)))), (0, .ref (z.o)), (1, .int (nI n)), (2, .ref oa)]) hx hb dL_isPourSo_28 hl (by decide) rfl (fun ls hl => ?_)
  refine lv_aload_n hx hb dL_isPourSo_30 rfl (lv_at hl 3 rfl) ?_
  refine lv_iload_n hx hb dL_isPourSo_31 rfl (lv_at hl 2 rfl) ?_
  refine lv_iconst (v := nI 3) hx hb dL_isPourSo_32 (by decide) ?_
  refine q_ciK (BH := fun _ => True) (va_runV (rm := { frames := 1, cells := 0, slots := 0, locals := 23 }) (As := [.int (nI ((hN T n))), .int (nI 3)]) (rest := []) ⟨hx, hb, hml, hown, hts⟩ (m2_guest_ok l D z ol sn 0 T S Y G 0 P ch B hI ((hN T n)) (by omega) 3 (by omega)) (cwV 2 hts gL_isPourSo_X2_guest rfl rfl rfl (by decide +kernel) ⟨Nat.le_of_ble_eq_true rfl, Nat.le_of_ble_eq_true rfl⟩) (q_pV (ci := 2) (q0 := 0) hP hK rfl rfl) rfl rfl hl.1 rfl (lv_room (Nat.le_of_ble_eq_true rfl)) dL_isPourSo_33 ⟨Nat.le_of_ble_eq_true rfl, Nat.le_of_ble_eq_true rfl⟩) (fun t h => trivial) hS (fun q h => h.elim) (fun x5 H locs e5 _ hk hS => ?_)
  have hP := k_kp hP hk
  have hO := k_kp hO hk
  have e5 : x5 = (T (24 + ((hN T n)))) := e5
  subst e5
  refine lv_istore (lv' := [(6, .int (T (24 + ((hN T n))))), (5, .int (g_rm T (hN T n))), (4, .int (T (75 + n))), (3, .int (nI ((hN T n)))), (0, .ref (z.o)), (1, .int (nI n)), (2, .ref oa)]) hx hb dL_isPourSo_36 hl (by decide) rfl (fun ls hl => ?_)
  refine lv_aload_n hx hb dL_isPourSo_38 rfl (lv_at hl 4 rfl) ?_
  refine lv_iload_n hx hb dL_isPourSo_39 rfl (lv_at hl 5 rfl) ?_
  refine lv_iconst (v := nI 2) hx hb dL_isPourSo_40 (by decide) ?_
  refine q_ciK (BH := fun _ => True) (va_runV (rm := { frames := 2, cells := 0, slots := 0, locals := 44 }) (As := [.int (nI n), .int (nI 2)]) (rest := []) ⟨hx, hb, hml, hown, hts⟩ (m2_pot_ok l D z ol sn 0 T S Y G 0 P ch B hI n (by omega) 2 (by omega)) (cwV 2 hts gL_isPourSo_X2_pot rfl rfl rfl (by decide +kernel) ⟨Nat.le_of_ble_eq_true rfl, Nat.le_of_ble_eq_true rfl⟩) (q_pV (ci := 2) (q0 := 0) hP hK rfl rfl) rfl rfl hl.1 rfl (lv_room (Nat.le_of_ble_eq_true rfl)) dL_isPourSo_41 ⟨Nat.le_of_ble_eq_true rfl, Nat.le_of_ble_eq_true rfl⟩) (fun t h => trivial) hS (fun q h => h.elim) (fun x6 H locs e6 _ hk hS => ?_)
  have hP := k_kp hP hk
  have hO := k_kp hO hk
  have e6 : x6 = (T (78 + n)) := e6
  subst e6
  refine lv_iload hx hb dL_isPourSo_44 (lv_at hl 0 rfl) ?_
  refine lv_imul hx hb dL_isPourSo_46 ?_
  refine lv_aload_n hx hb dL_isPourSo_47 rfl (lv_at hl 4 rfl) ?_
  refine lv_iload_n hx hb dL_isPourSo_48 rfl (lv_at hl 5 rfl) ?_
  refine lv_iconst (v := nI 3) hx hb dL_isPourSo_49 (by decide) ?_
  refine q_ciK (BH := fun _ => True) (va_runV (rm := { frames := 2, cells := 0, slots := 0, locals := 44 }) (As := [.int (nI n), .int (nI 3)]) (rest := [.int ((T (78 + n)) * (T (24 + ((hN T n)))))]) ⟨hx, hb, hml, hown, hts⟩ (m2_pot_ok l D z ol sn 0 T S Y G 0 P ch B hI n (by omega) 3 (by omega)) (cwV 2 hts gL_isPourSo_X2_pot rfl rfl rfl (by decide +kernel) ⟨Nat.le_of_ble_eq_true rfl, Nat.le_of_ble_eq_true rfl⟩) (q_pV (ci := 2) (q0 := 0) hP hK rfl rfl) rfl rfl hl.1 rfl (lv_room (Nat.le_of_ble_eq_true rfl)) dL_isPourSo_50 ⟨Nat.le_of_ble_eq_true rfl, Nat.le_of_ble_eq_true rfl⟩) (fun t h => trivial) hS (fun q h => h.elim) (fun x7 H locs e7 _ hk hS => ?_)
  have hP := k_kp hP hk
  have hO := k_kp hO hk
  have e7 : x7 = (g_wt T n) := e7
  subst e7
  refine lv_bipush (v := nI 10) hx hb dL_isPourSo_53 (by decide) ?_
  refine lv_iload hx hb dL_isPourSo_55 (lv_at hl 0 rfl) ?_
  refine lv_isub hx hb dL_isPourSo_57 ?_
  refine lv_imul hx hb dL_isPourSo_58 ?_
  refine lv_iadd hx hb dL_isPourSo_59 ?_
  refine lv_bipush (v := nI 10) hx hb dL_isPourSo_60 (by decide) ?_
  refine lv_idiv hx hb dL_isPourSo_62 (by decide) ?_
  refine lv_istore (lv' := [(7, .int (g_gs T n)), (6, .int (T (24 + ((hN T n))))), (5, .int (g_rm T (hN T n))), (4, .int (T (75 + n))), (3, .int (nI ((hN T n)))), (0, .ref (z.o)), (1, .int (nI n)), (2, .ref oa)]) hx hb dL_isPourSo_63 hl (by decide) rfl (fun ls hl => ?_)
  refine lv_iload hx hb dL_isPourSo_65 (lv_at hl 3 rfl) ?_
  refine lv_if_ne (tgt := 74) hx hb dL_isPourSo_67 (by decide) (fun c8 => absurd c8 (fun z => z hf)) (fun c8 => ?_)
  refine lv_iconst (v := nI 1) hx hb dL_isPourSo_70 (by decide) ?_
  refine lv_goto (tgt := 84) hx hb dL_isPourSo_71 (by decide) ?_
  refine lv_istore (lv' := [(8, .int (nI 1)), (7, .int (g_gs T n)), (6, .int (T (24 + ((hN T n))))), (5, .int (g_rm T (hN T n))), (4, .int (T (75 + n))), (3, .int (nI ((hN T n)))), (0, .ref (z.o)), (1, .int (nI n)), (2, .ref oa)]) hx hb dL_isPourSo_84 hl (by decide) rfl (fun ls hl => ?_)
  refine lv_iload hx hb dL_isPourSo_86 (lv_at hl 3 rfl) ?_
  refine lv_iload hx hb dL_isPourSo_88 (lv_at hl 4 rfl) ?_
  refine lv_imul hx hb dL_isPourSo_90 ?_
  refine lv_iload hx hb dL_isPourSo_91 (lv_at hl 1 rfl) ?_
  have J102 : W p l e { frames := 9, cells := 1, slots := 6, locals := 164 } s m args below meth c H locs 0 0 Q (F0 m 102 ls [.int (g_dv (g_gs T n)), .int ((g_rm T (hN T n)) * (T (75 + n)))]) := by
    refine lv_idiv hx hb dL_isPourSo_102 (dv_ne hI hn3) ?_
    refine lv_istore (lv' := [(9, .int (g_c0 T n)), (8, .int (nI 1)), (7, .int (g_gs T n)), (6, .int (T (24 + ((hN T n))))), (5, .int (g_rm T (hN T n))), (4, .int (T (75 + n))), (3, .int (nI ((hN T n)))), (0, .ref (z.o)), (1, .int (nI n)), (2, .ref oa)]) hx hb dL_isPourSo_103 hl (by decide) rfl (fun ls hl => ?_)
    refine lv_iload hx hb dL_isPourSo_105 (lv_at hl 0 rfl) ?_
    refine lv_iload hx hb dL_isPourSo_107 (lv_at hl 5 rfl) ?_
    have J119 : W p l e { frames := 9, cells := 1, slots := 6, locals := 164 } s m args below meth c H locs 0 0 Q (F0 m 119 ls [.int (g_cm T n)]) := by
      refine lv_istore (lv' := [(9, .int (g_cm T n)), (8, .int (nI 1)), (7, .int (g_gs T n)), (6, .int (T (24 + ((hN T n))))), (5, .int (g_rm T (hN T n))), (4, .int (T (75 + n))), (3, .int (nI ((hN T n)))), (0, .ref (z.o)), (1, .int (nI n)), (2, .ref oa)]) hx hb dL_isPourSo_119 hl (by decide) rfl (fun ls hl => ?_)
      refine lv_iload hx hb dL_isPourSo_121 (lv_at hl 0 rfl) ?_
      refine lv_iload hx hb dL_isPourSo_123 (lv_at hl 4 rfl) ?_
      have J137 : W p l e { frames := 9, cells := 1, slots := 6, locals := 164 } s m args below meth c H locs 0 0 Q (F0 m 137 ls [.int (g_ov T n)]) := by
        refine lv_istore (lv' := [(10, .int (g_ov T n)), (9, .int (g_cm T n)), (8, .int (nI 1)), (7, .int (g_gs T n)), (6, .int (T (24 + ((hN T n))))), (5, .int (g_rm T (hN T n))), (4, .int (T (75 + n))), (3, .int (nI ((hN T n)))), (0, .ref (z.o)), (1, .int (nI n)), (2, .ref oa)]) hx hb dL_isPourSo_137 hl (by decide) rfl (fun ls hl => ?_)
        refine lv_aload_n hx hb dL_isPourSo_139 rfl (lv_at hl 8 rfl) ?_
        refine lv_iload_n hx hb dL_isPourSo_140 rfl (lv_at hl 9 rfl) ?_
        refine q_ciK (BH := fun H => ∃ Y2 : Nat → Int32, va_P D vwCl (wX z ol sn 0 T S Y2 G 0 P ch) H) (va_runV (rm := { frames := 4, cells := 0, slots := 0, locals := 91 }) (As := [.int (nI n)]) (rest := []) ⟨hx, hb, hml, hown, hts⟩ (m2_bestGuest_ok l D z ol sn 0 T S Y G 0 P ch B hI n hn3 hB2 hD) (cwV 1 hts gL_isPourSo_X2_bestGuest rfl rfl rfl (by decide +kernel) ⟨Nat.le_of_ble_eq_true rfl, Nat.le_of_ble_eq_true rfl⟩) (q_pV (ci := 2) (q0 := 0) hP hK rfl rfl) rfl rfl hl.1 rfl (lv_room (Nat.le_of_ble_eq_true rfl)) dL_isPourSo_141 ⟨Nat.le_of_ble_eq_true rfl, Nat.le_of_ble_eq_true rfl⟩) (fun t h => h) hS (fun q h => Or.inl h) (fun x9 H locs e9 hP hk hS => ?_)
        obtain ⟨Y, hP⟩ := hP
        have hO := wI_kept hO hoa hk
        have hD := q_D2 (ws' := wX z ol sn 0 T S Y G 0 P ch) hDX rfl
        have e9 : x9 = g_bg 8 (-1) (nI 0) T n := e9
        subst e9
        refine lv_istore (lv' := [(11, .int (g_bg 8 (-1) (nI 0) T n)), (10, .int (g_ov T n)), (9, .int (g_cm T n)), (8, .int (nI 1)), (7, .int (g_gs T n)), (6, .int (T (24 + ((hN T n))))), (5, .int (g_rm T (hN T n))), (4, .int (T (75 + n))), (3, .int (nI ((hN T n)))), (0, .ref (z.o)), (1, .int (nI n)), (2, .ref oa)]) hx hb dL_isPourSo_144 hl (by decide) rfl (fun ls hl => ?_)
        refine lv_aload_n hx hb dL_isPourSo_146 rfl (lv_at hl 9 rfl) ?_
        refine lv_iload_n hx hb dL_isPourSo_147 rfl (lv_at hl 10 rfl) ?_
        refine lv_iconst (v := nI 4) hx hb dL_isPourSo_148 (by decide) ?_
        refine q_ciK (BH := fun _ => True) (va_runV (rm := { frames := 2, cells := 0, slots := 0, locals := 44 }) (As := [.int (nI n), .int (nI 4)]) (rest := []) ⟨hx, hb, hml, hown, hts⟩ (m2_pot_ok l D z ol sn 0 T S Y G 0 P ch B hI n (by omega) 4 (by omega)) (cwV 2 hts gL_isPourSo_X2_pot rfl rfl rfl (by decide +kernel) ⟨Nat.le_of_ble_eq_true rfl, Nat.le_of_ble_eq_true rfl⟩) (q_pV (ci := 2) (q0 := 0) hP hK rfl rfl) rfl rfl hl.1 rfl (lv_room (Nat.le_of_ble_eq_true rfl)) dL_isPourSo_149 ⟨Nat.le_of_ble_eq_true rfl, Nat.le_of_ble_eq_true rfl⟩) (fun t h => trivial) hS (fun q h => h.elim) (fun x10 H locs e10 _ hk hS => ?_)
        have hP := k_kp hP hk
        have hO := k_kp hO hk
        have e10 : x10 = (g_gs T n) := e10
        subst e10
        refine lv_iload hx hb dL_isPourSo_152 (lv_at hl 4 rfl) ?_
        refine lv_icmp_ne (tgt := 257) hx hb dL_isPourSo_154 (by decide) (fun c11 => absurd c11 (fun z => z (rfl))) (fun c11 => ?_)
        refine lv_aload_n hx hb dL_isPourSo_157 rfl (lv_at hl 9 rfl) ?_
        refine lv_iload_n hx hb dL_isPourSo_158 rfl (lv_at hl 10 rfl) ?_
        refine lv_iconst (v := nI 5) hx hb dL_isPourSo_159 (by decide) ?_
        refine q_ciK (BH := fun _ => True) (va_runV (rm := { frames := 2, cells := 0, slots := 0, locals := 44 }) (As := [.int (nI n), .int (nI 5)]) (rest := []) ⟨hx, hb, hml, hown, hts⟩ (m2_pot_ok l D z ol sn 0 T S Y G 0 P ch B hI n (by omega) 5 (by omega)) (cwV 2 hts gL_isPourSo_X2_pot rfl rfl rfl (by decide +kernel) ⟨Nat.le_of_ble_eq_true rfl, Nat.le_of_ble_eq_true rfl⟩) (q_pV (ci := 2) (q0 := 0) hP hK rfl rfl) rfl rfl hl.1 rfl (lv_room (Nat.le_of_ble_eq_true rfl)) dL_isPourSo_160 ⟨Nat.le_of_ble_eq_true rfl, Nat.le_of_ble_eq_true rfl⟩) (fun t h => trivial) hS (fun q h => h.elim) (fun x12 H locs e12 _ hk hS => ?_)
        have hP := k_kp hP hk
        have hO := k_kp hO hk
        have e12 : x12 = (g_wy T n) := e12
        subst e12
        refine lv_iload hx hb dL_isPourSo_163 (lv_at hl 3 rfl) ?_
        refine lv_icmp_ne (tgt := 257) hx hb dL_isPourSo_165 (by decide) (fun c13 => absurd c13 (fun z => z (wy_1 hf))) (fun c13 => ?_)
        refine lv_aload_n hx hb dL_isPourSo_168 rfl (lv_at hl 9 rfl) ?_
        refine lv_iload_n hx hb dL_isPourSo_169 rfl (lv_at hl 10 rfl) ?_
        refine lv_iconst (v := nI 0) hx hb dL_isPourSo_170 (by decide) ?_
        refine q_ciK (BH := fun _ => True) (va_runV (rm := { frames := 4, cells := 0, slots := 0, locals := 91 }) (As := [.int (nI n), .int (nI 0)]) (rest := []) ⟨hx, hb, hml, hown, hts⟩ (m2_ifPoured_ok l D z ol sn 0 T S Y G 0 P ch B hI n hn3 0 (by omega)) (cwV 2 hts gL_isPourSo_X2_ifPoured rfl rfl rfl (by decide +kernel) ⟨Nat.le_of_ble_eq_true rfl, Nat.le_of_ble_eq_true rfl⟩) (q_pV (ci := 2) (q0 := 0) hP hK rfl rfl) rfl rfl hl.1 rfl (lv_room (Nat.le_of_ble_eq_true rfl)) dL_isPourSo_171 ⟨Nat.le_of_ble_eq_true rfl, Nat.le_of_ble_eq_true rfl⟩) (fun t h => trivial) hS (fun q h => h.elim) (fun x14 H locs e14 _ hk hS => ?_)
        have hP := k_kp hP hk
        have hO := k_kp hO hk
        have e14 : x14 = (-1) := (show _ = g_br T n 0 from e14).trans (br_n hw)
        subst e14
        refine lv_iload hx hb dL_isPourSo_174 (lv_at hl 3 rfl) ?_
        refine lv_if_le (tgt := 183) hx hb dL_isPourSo_176 (by decide) (fun c15 => absurd c15 (by decide)) (fun c15 => ?_)
        refine lv_iconst (v := (-1)) hx hb dL_isPourSo_179 (by decide) ?_
        refine lv_goto (tgt := 185) hx hb dL_isPourSo_180 (by decide) ?_
        refine lv_icmp_ne (tgt := 257) hx hb dL_isPourSo_185 (by decide) (fun c16 => absurd c16 (fun z => z (rfl))) (fun c16 => ?_)
        refine lv_aload_n hx hb dL_isPourSo_188 rfl (lv_at hl 9 rfl) ?_
        refine lv_iload_n hx hb dL_isPourSo_189 rfl (lv_at hl 10 rfl) ?_
        refine lv_iconst (v := nI 1) hx hb dL_isPourSo_190 (by decide) ?_
        refine q_ciK (BH := fun _ => True) (va_runV (rm := { frames := 4, cells := 0, slots := 0, locals := 91 }) (As := [.int (nI n), .int (nI 1)]) (rest := []) ⟨hx, hb, hml, hown, hts⟩ (m2_ifPoured_ok l D z ol sn 0 T S Y G 0 P ch B hI n hn3 1 (by omega)) (cwV 2 hts gL_isPourSo_X2_ifPoured rfl rfl rfl (by decide +kernel) ⟨Nat.le_of_ble_eq_true rfl, Nat.le_of_ble_eq_true rfl⟩) (q_pV (ci := 2) (q0 := 0) hP hK rfl rfl) rfl rfl hl.1 rfl (lv_room (Nat.le_of_ble_eq_true rfl)) dL_isPourSo_191 ⟨Nat.le_of_ble_eq_true rfl, Nat.le_of_ble_eq_true rfl⟩) (fun t h => trivial) hS (fun q h => h.elim) (fun x17 H locs e17 _ hk hS => ?_)
        have hP := k_kp hP hk
        have hO := k_kp hO hk
        have e17 : x17 = (-1) := (show _ = g_br T n 1 from e17).trans (br_n hw)
        subst e17
        refine lv_iload hx hb dL_isPourSo_194 (lv_at hl 3 rfl) ?_
        refine lv_if_le (tgt := 203) hx hb dL_isPourSo_196 (by decide) (fun c18 => absurd c18 (by decide)) (fun c18 => ?_)
        refine lv_iconst (v := (-1)) hx hb dL_isPourSo_199 (by decide) ?_
        refine lv_goto (tgt := 205) hx hb dL_isPourSo_200 (by decide) ?_
        refine lv_icmp_ne (tgt := 257) hx hb dL_isPourSo_205 (by decide) (fun c19 => absurd c19 (fun z => z (rfl))) (fun c19 => ?_)
        refine lv_iload hx hb dL_isPourSo_208 (lv_at hl 0 rfl) ?_
        refine lv_iconst (v := (-1)) hx hb dL_isPourSo_210 (by decide) ?_
        refine lv_icmp_lt (tgt := 257) hx hb dL_isPourSo_211 (by decide) (fun c20 => absurd c20 (bg_lo hI hn3)) (fun c20 => ?_)
        refine lv_iload hx hb dL_isPourSo_214 (lv_at hl 0 rfl) ?_
        refine lv_bipush (v := nI 8) hx hb dL_isPourSo_216 (by decide) ?_
        refine lv_icmp_ge (tgt := 257) hx hb dL_isPourSo_218 (by decide) (fun c21 => absurd c21 (bg_hi hI hn3)) (fun c21 => ?_)
        refine lv_iload hx hb dL_isPourSo_221 (lv_at hl 3 rfl) ?_
        refine lv_if_gt (tgt := 242) hx hb dL_isPourSo_223 (by decide) (fun c22 => ?_) (fun c22 => absurd c22 (by decide))
        refine lv_iload hx hb dL_isPourSo_242 (lv_at hl 7 rfl) ?_
        refine lv_if_gt (tgt := 253) hx hb dL_isPourSo_244 (by decide) (fun c23 => absurd c23 (fun z => by rw [hf] at z; exact absurd z (by decide))) (fun c23 => ?_)
        refine lv_iload hx hb dL_isPourSo_247 (lv_at hl 0 rfl) ?_
        refine lv_iconst (v := (-1)) hx hb dL_isPourSo_249 (by decide) ?_
        refine lv_icmp_ne (tgt := 257) hx hb dL_isPourSo_250 (by decide) (fun c24 => absurd c24 (fun z => z (bg_none hn3 8 _ _ _ hf))) (fun c24 => ?_)
        refine lv_iconst (v := nI 1) hx hb dL_isPourSo_253 (by decide) ?_
        refine lv_goto (tgt := 258) hx hb dL_isPourSo_254 (by decide) ?_
        refine lv_istore (lv' := [(12, .int (nI 1)), (11, .int (g_bg 8 (-1) (nI 0) T n)), (10, .int (g_ov T n)), (9, .int (g_cm T n)), (8, .int (nI 1)), (7, .int (g_gs T n)), (6, .int (T (24 + ((hN T n))))), (5, .int (g_rm T (hN T n))), (4, .int (T (75 + n))), (3, .int (nI ((hN T n)))), (0, .ref (z.o)), (1, .int (nI n)), (2, .ref oa)]) hx hb dL_isPourSo_258 hl (by decide) rfl (fun ls hl => ?_)
        refine lv_aload_n hx hb dL_isPourSo_260 rfl (lv_at hl 10 rfl) ?_
        refine lv_iload_n hx hb dL_isPourSo_261 rfl (lv_at hl 11 rfl) ?_
        refine lv_iconst (v := nI 2) hx hb dL_isPourSo_262 (by decide) ?_
        refine q_ciK (BH := fun _ => True) (va_runV (rm := { frames := 4, cells := 0, slots := 0, locals := 91 }) (As := [.int (nI n), .int (nI 2)]) (rest := []) ⟨hx, hb, hml, hown, hts⟩ (m2_ifPoured_ok l D z ol sn 0 T S Y G 0 P ch B hI n hn3 2 (by omega)) (cwV 2 hts gL_isPourSo_X2_ifPoured rfl rfl rfl (by decide +kernel) ⟨Nat.le_of_ble_eq_true rfl, Nat.le_of_ble_eq_true rfl⟩) (q_pV (ci := 2) (q0 := 0) hP hK rfl rfl) rfl rfl hl.1 rfl (lv_room (Nat.le_of_ble_eq_true rfl)) dL_isPourSo_263 ⟨Nat.le_of_ble_eq_true rfl, Nat.le_of_ble_eq_true rfl⟩) (fun t h => trivial) hS (fun q h => h.elim) (fun x25 H locs e25 _ hk hS => ?_)
        have hP := k_kp hP hk
        have hO := k_kp hO hk
        have e25 : x25 = (-1) := (show _ = g_br T n 2 from e25).trans (br_n hw)
        subst e25
        refine lv_istore (lv' := [(13, .int (-1)), (12, .int (nI 1)), (11, .int (g_bg 8 (-1) (nI 0) T n)), (10, .int (g_ov T n)), (9, .int (g_cm T n)), (8, .int (nI 1)), (7, .int (g_gs T n)), (6, .int (T (24 + ((hN T n))))), (5, .int (g_rm T (hN T n))), (4, .int (T (75 + n))), (3, .int (nI ((hN T n)))), (0, .ref (z.o)), (1, .int (nI n)), (2, .ref oa)]) hx hb dL_isPourSo_266 hl (by decide) rfl (fun ls hl => ?_)
        refine lv_aload_n hx hb dL_isPourSo_268 rfl (lv_at hl 11 rfl) ?_
        refine lv_iconst (v := nI 5) hx hb dL_isPourSo_269 (by decide) ?_
        refine q_ciK (BH := fun _ => True) (va_runV (rm := { frames := 3, cells := 0, slots := 0, locals := 65 }) (As := [.int (nI 5)]) (rest := []) ⟨hx, hb, hml, hown, hts⟩ (m2_count_ok l D z ol sn 0 T S Y G 0 P ch 5 (by omega)) (cwV 1 hts gL_isPourSo_X2_count rfl rfl rfl (by decide +kernel) ⟨Nat.le_of_ble_eq_true rfl, Nat.le_of_ble_eq_true rfl⟩) (q_pV (ci := 2) (q0 := 0) hP hK rfl rfl) rfl rfl hl.1 rfl (lv_room (Nat.le_of_ble_eq_true rfl)) dL_isPourSo_270 ⟨Nat.le_of_ble_eq_true rfl, Nat.le_of_ble_eq_true rfl⟩) (fun t h => trivial) hS (fun q h => h.elim) (fun x26 H locs e26 _ hk hS => ?_)
        have hP := k_kp hP hk
        have hO := k_kp hO hk
        have e26 : x26 = (T 136) := e26
        subst e26
        refine lv_istore (lv' := [(14, .int (T 136)), (13, .int (-1)), (12, .int (nI 1)), (11, .int (g_bg 8 (-1) (nI 0) T n)), (10, .int (g_ov T n)), (9, .int (g_cm T n)), (8, .int (nI 1)), (7, .int (g_gs T n)), (6, .int (T (24 + ((hN T n))))), (5, .int (g_rm T (hN T n))), (4, .int (T (75 + n))), (3, .int (nI ((hN T n)))), (0, .ref (z.o)), (1, .int (nI n)), (2, .ref oa)]) hx hb dL_isPourSo_273 hl (by decide) rfl (fun ls hl => ?_)
        refine lv_aload_n hx hb dL_isPourSo_275 rfl (lv_at hl 12 rfl) ?_
        refine lv_iconst (v := nI 1) hx hb dL_isPourSo_276 (by decide) ?_
        refine lv_iload_n hx hb dL_isPourSo_277 rfl (lv_at hl 13 rfl) ?_
        refine lv_iconst (v := nI 0) hx hb dL_isPourSo_278 (by decide) ?_
        refine lv_aload_n hx hb dL_isPourSo_279 rfl (lv_at hl 14 rfl) ?_
        refine q_ciK (BH := fun H => CE 3 z D sn T T H ∧ ∃ g', OE 3 0 g' ∧ va_P D vwCl (wI oa z.cI g') H) (vx_runSW (rm := { frames := 8, cells := 1, slots := 6, locals := 139 }) (As := [.ref (z.o), .int (nI 1), .int (nI n), .int (nI 0), .ref oa]) (rest := []) ⟨hx, hb, hml, hown, hts⟩ (K_pour_3 l hl9 D st z oa hoa hDX g sn hsn T B hI n hn3 (nI 0) (fun z => hw z)) (vx_cwSW (hh := [(0, 76, 79, 30), (0, 76, 83, 32), (0, 76, 87, 34)]) 5 hts gL_isPourSo_L_changes rfl rfl rfl (by decide +kernel) ⟨Nat.le_of_ble_eq_true rfl, Nat.le_of_ble_eq_true rfl⟩) (k_pS (C0 := OS z D sn T) ⟨ol, S, Y, G, P, ch, hol, hP⟩ hO hK hT hS (fun q h => h)) rfl rfl hl.1 rfl (lv_room (Nat.le_of_ble_eq_true rfl)) dL_isPourSo_280 ⟨Nat.le_of_ble_eq_true rfl, Nat.le_of_ble_eq_true rfl⟩) (fun _ h => h) hS (fun q h => h) (fun r H locs er hCO hk5 hS => ?_)
        obtain ⟨hC, g1, hg1, hO⟩ := hCO
        have er : nI 3 = r := Eq.symm er
        subst er
        obtain ⟨ol, S, Y, G, P, ch, hol, hP⟩ := (show OS z D sn T H from hC)
        refine lv_istore (lv' := [(15, .int (nI 3)), (14, .int (T 136)), (13, .int (-1)), (12, .int (nI 1)), (11, .int (g_bg 8 (-1) (nI 0) T n)), (10, .int (g_ov T n)), (9, .int (g_cm T n)), (8, .int (nI 1)), (7, .int (g_gs T n)), (6, .int (T (24 + ((hN T n))))), (5, .int (g_rm T (hN T n))), (4, .int (T (75 + n))), (3, .int (nI ((hN T n)))), (0, .ref (z.o)), (1, .int (nI n)), (2, .ref oa)]) hx hb dL_isPourSo_283 hl (by decide) rfl (fun ls hl => ?_)
        refine lv_iload hx hb dL_isPourSo_285 (lv_at hl 0 rfl) ?_
        refine lv_if_eq (tgt := 318) hx hb dL_isPourSo_287 (by decide) (fun c27 => absurd c27 (by decide)) (fun c27 => ?_)
        refine lv_iload hx hb dL_isPourSo_290 (lv_at hl 3 rfl) ?_
        refine lv_if_eq (tgt := 316) hx hb dL_isPourSo_292 (by decide) (fun c28 => absurd c28 (by decide)) (fun c28 => ?_)
        refine lv_iload hx hb dL_isPourSo_295 (lv_at hl 0 rfl) ?_
        refine lv_iconst (v := nI 3) hx hb dL_isPourSo_297 (by decide) ?_
        refine q_neN (tgt := 316) hx hb (by omega) (by omega) dL_isPourSo_298 (by decide) (fun c29 => absurd c29 (by decide)) (fun c29 => ?_)
        refine lv_iload hx hb dL_isPourSo_301 (lv_at hl 7 rfl) ?_
        refine lv_if_le (tgt := 316) hx hb dL_isPourSo_303 (by decide) (fun c30 => absurd c30 (by decide)) (fun c30 => ?_)
        refine lv_iload hx hb dL_isPourSo_306 (lv_at hl 2 rfl) ?_
        refine lv_iconst (v := (-1)) hx hb dL_isPourSo_308 (by decide) ?_
        refine lv_icmp_ne (tgt := 316) hx hb dL_isPourSo_309 (by decide) (fun c31 => absurd c31 (fun z => z (rfl))) (fun c31 => ?_)
        refine lv_iconst (v := nI 1) hx hb dL_isPourSo_312 (by decide) ?_
        refine lv_goto (tgt := 317) hx hb dL_isPourSo_313 (by decide) ?_
        exact hret _ _ _ _ _ ⟨sn, hsn, ol, S, Y, G, P, ch, hol, hP⟩ trivial hO hS dL_isPourSo_317
      refine lv_icmp_le (tgt := 136) hx hb dL_isPourSo_125 (by decide) (fun c32 => ?_) (fun c32 => ?_)
      ·
        refine lv_iconst (v := nI 0) hx hb dL_isPourSo_136 (by decide) ?_
        rw [ov_le hI hn3 c32] at J137
        exact J137
      ·
        refine lv_iload hx hb dL_isPourSo_128 (lv_at hl 0 rfl) ?_
        refine lv_iload hx hb dL_isPourSo_130 (lv_at hl 4 rfl) ?_
        refine lv_isub hx hb dL_isPourSo_132 ?_
        refine lv_goto (tgt := 137) hx hb dL_isPourSo_133 (by decide) ?_
        rw [ov_gt hI hn3 c32] at J137
        exact J137
    refine lv_icmp_le (tgt := 117) hx hb dL_isPourSo_109 (by decide) (fun c33 => ?_) (fun c33 => ?_)
    ·
      refine lv_iload hx hb dL_isPourSo_117 (lv_at hl 0 rfl) ?_
      rw [cm_le c33] at J119
      exact J119
    ·
      refine lv_iload hx hb dL_isPourSo_112 (lv_at hl 5 rfl) ?_
      refine lv_goto (tgt := 119) hx hb dL_isPourSo_114 (by decide) ?_
      rw [cm_gt c33] at J119
      exact J119
  refine lv_if_ne (tgt := 100) hx hb dL_isPourSo_93 (by decide) (fun c34 => ?_) (fun c34 => ?_)
  ·
    refine lv_iload hx hb dL_isPourSo_100 (lv_at hl 1 rfl) ?_
    rw [dv_1 hI hn3 c34] at J102
    exact J102
  ·
    refine lv_iconst (v := nI 1) hx hb dL_isPourSo_96 (by decide) ?_
    refine lv_goto (tgt := 102) hx hb dL_isPourSo_97 (by decide) ?_
    rw [dv_0 c34] at J102
    exact J102
set_option maxHeartbeats 8000000 in
set_option maxRecDepth 100000 in
theorem L_isPourSo_2 (l : Launch) (hl9 : l.stackTraces = false) (D : va_G) (st : Nat → Nat) (z : Ad) (oa : Nat) (hoa : ¬ AX z oa) (hDX : va_D (fun _ => True) (wX z 0 0 0 f00 f00 f00 (fun _ => f00) 0 (0, 0, 0, 0) (fun _ => 0))) (g : Int32) (sn : Nat) (hsn : sn ≤ 6) (T : Nat → Int32) (B : Nat) (hI : Inv B T) (hB2 : B + 33600 < 2000000000) (n : Nat) (hn3 : n < 3) (hf : ¬ T (75 + n) = 0) (hr : g_rm T (hN T n) = 0) : k_H l yL_isPourSo wsL_isPourSo { frames := 9, cells := 1, slots := 6, locals := 164 } [.ref z.o, .int (nI n), .ref oa] st D z oa (OS z D sn T) g (nI 1) (fun H => ∃ sn', sn' ≤ 6 ∧ OS z D sn' T H) (fun _ => True) := by
  refine k_goA (cc := cL_isPourSo) (maxL := 16) (ty := .boolean) (lv0 := [(0, .ref z.o), (1, .int (nI n)), (2, .ref oa)]) (by decide) rfl (Nat.le_of_ble_eq_true rfl) rfl (by first | rfl | decide) ?_
  intro p e s m args below meth c Q ls hx hb hml hts hown hC hO hK hT hl hret
  obtain ⟨ol, S, Y, G, P, ch, hol, hP⟩ := hC
  have hD := q_D2 (ws' := wX z ol sn 0 T S Y G 0 P ch) hDX rfl
  have hS : va_S (AXo z oa) s.heap s.heap [] := va_S.rf
  have hB : B < 2000000000 := by omega
  have h8 := hI.hN8 hn3
  have hw : ¬ g_wy T n = 0 := by rw [wy_2 hf hr]; decide
  refine lv_aload_n hx hb dL_isPourSo_0 rfl (lv_at hl 0 rfl) ?_
  refine lv_iload_n hx hb dL_isPourSo_1 rfl (lv_at hl 1 rfl) ?_
  refine lv_iconst (v := nI 0) hx hb dL_isPourSo_2 (by decide) ?_
  refine q_ciK (BH := fun _ => True) (va_runV (rm := { frames := 2, cells := 0, slots := 0, locals := 44 }) (As := [.int (nI n), .int (nI 0)]) (rest := []) ⟨hx, hb, hml, hown, hts⟩ (m2_pot_ok l D z ol sn 0 T S Y G 0 P ch B hI n (by omega) 0 (by omega)) (cwV 2 hts gL_isPourSo_X2_pot rfl rfl rfl (by decide +kernel) ⟨Nat.le_of_ble_eq_true rfl, Nat.le_of_ble_eq_true rfl⟩) (q_pV (ci := 2) (q0 := 0) hP hK rfl rfl) rfl rfl hl.1 rfl (lv_room (Nat.le_of_ble_eq_true rfl)) dL_isPourSo_3 ⟨Nat.le_of_ble_eq_true rfl, Nat.le_of_ble_eq_true rfl⟩) (fun t h => trivial) hS (fun q h => h.elim) (fun x1 H locs e1 _ hk hS => ?_)
  have hP := k_kp hP hk
  have hO := k_kp hO hk
  have e1 : x1 = (nI ((hN T n))) := (show _ = T (72 + n) from e1).trans (hI.ok1 hn3).1
  subst e1
  refine lv_istore_n (lv' := [(3, .int (nI ((hN T n)))), (0, .ref (z.o)), (1, .int (nI n)), (2, .ref oa)]) hx hb dL_isPourSo_6 rfl hl (by decide) rfl (fun ls hl => ?_)
  refine lv_aload_n hx hb dL_isPourSo_7 rfl (lv_at hl 1 rfl) ?_
  refine lv_iload_n hx hb dL_isPourSo_8 rfl (lv_at hl 2 rfl) ?_
  refine lv_iconst (v := nI 1) hx hb dL_isPourSo_9 (by decide) ?_
  refine q_ciK (BH := fun _ => True) (va_runV (rm := { frames := 2, cells := 0, slots := 0, locals := 44 }) (As := [.int (nI n), .int (nI 1)]) (rest := []) ⟨hx, hb, hml, hown, hts⟩ (m2_pot_ok l D z ol sn 0 T S Y G 0 P ch B hI n (by omega) 1 (by omega)) (cwV 2 hts gL_isPourSo_X2_pot rfl rfl rfl (by decide +kernel) ⟨Nat.le_of_ble_eq_true rfl, Nat.le_of_ble_eq_true rfl⟩) (q_pV (ci := 2) (q0 := 0) hP hK rfl rfl) rfl rfl hl.1 rfl (lv_room (Nat.le_of_ble_eq_true rfl)) dL_isPourSo_10 ⟨Nat.le_of_ble_eq_true rfl, Nat.le_of_ble_eq_true rfl⟩) (fun t h => trivial) hS (fun q h => h.elim) (fun x2 H locs e2 _ hk hS => ?_)
  have hP := k_kp hP hk
  have hO := k_kp hO hk
  have e2 : x2 = (T (75 + n)) := e2
  subst e2
  refine lv_istore (lv' := [(4, .int (T (75 + n))), (3, .int (nI ((hN T n)))), (0, .ref (z.o)), (1, .int (nI n)), (2, .ref oa)]) hx hb dL_isPourSo_13 hl (by decide) rfl (fun ls hl => ?_)
  refine lv_aload_n hx hb dL_isPourSo_15 rfl (lv_at hl 2 rfl) ?_
  refine lv_iload_n hx hb dL_isPourSo_16 rfl (lv_at hl 1 rfl) ?_
  refine lv_iconst (v := nI 0) hx hb dL_isPourSo_17 (by decide) ?_
  refine q_ciK (BH := fun _ => True) (va_runV (rm := { frames := 1, cells := 0, slots := 0, locals := 23 }) (As := [.int (nI ((hN T n))), .int (nI 0)]) (rest := []) ⟨hx, hb, hml, hown, hts⟩ (m2_guest_ok l D z ol sn 0 T S Y G 0 P ch B hI ((hN T n)) (by omega) 0 (by omega)) (cwV 2 hts gL_isPourSo_X2_guest rfl rfl rfl (by decide +kernel) ⟨Nat.le_of_ble_eq_true rfl, Nat.le_of_ble_eq_true rfl⟩) (q_pV (ci := 2) (q0 := 0) hP hK rfl rfl) rfl rfl hl.1 rfl (lv_room (Nat.le_of_ble_eq_true rfl)) dL_isPourSo_18 ⟨Nat.le_of_ble_eq_true rfl, Nat.le_of_ble_eq_true rfl⟩) (fun t h => trivial) hS (fun q h => h.elim) (fun x3 H locs e3 _ hk hS => ?_)
  have hP := k_kp hP hk
  have hO := k_kp hO hk
  have e3 : x3 = (T ((hN T n))) := (show _ = T (8 * 0 + ((hN T n))) from e3).trans (by rw [Nat.mul_zero, Nat.zero_add])
  subst e3
  refine lv_aload_n hx hb dL_isPourSo_21 rfl (lv_at hl 2 rfl) ?_
  refine lv_iload_n hx hb dL_isPourSo_22 rfl (lv_at hl 1 rfl) ?_
  refine lv_iconst (v := nI 1) hx hb dL_isPourSo_23 (by decide) ?_
  refine q_ciK (BH := fun _ => True) (va_runV (rm := { frames := 1, cells := 0, slots := 0, locals := 23 }) (As := [.int (nI ((hN T n))), .int (nI 1)]) (rest := [.int (T ((hN T n)))]) ⟨hx, hb, hml, hown, hts⟩ (m2_guest_ok l D z ol sn 0 T S Y G 0 P ch B hI ((hN T n)) (by omega) 1 (by omega)) (cwV 2 hts gL_isPourSo_X2_guest rfl rfl rfl (by decide +kernel) ⟨Nat.le_of_ble_eq_true rfl, Nat.le_of_ble_eq_true rfl⟩) (q_pV (ci := 2) (q0 := 0) hP hK rfl rfl) rfl rfl hl.1 rfl (lv_room (Nat.le_of_ble_eq_true rfl)) dL_isPourSo_24 ⟨Nat.le_of_ble_eq_true rfl, Nat.le_of_ble_eq_true rfl⟩) (fun t h => trivial) hS (fun q h => h.elim) (fun x4 H locs e4 _ hk hS => ?_)
  have hP := k_kp hP hk
  have hO := k_kp hO hk
  have e4 : x4 = (T (8 + ((hN T n)))) := e4
  subst e4
  refine lv_isub hx hb dL_isPourSo_27 ?_
  refine lv_istore (lv' := [(5, .int (g_rm T (hN T n))), (4, .int (T (75 + n))), (3, .int (nI ((hN T n)))), (0, .ref (z.o)), (1, .int (nI n)), (2, .ref oa)]) hx hb dL_isPourSo_28 hl (by decide) rfl (fun ls hl => ?_)
  refine lv_aload_n hx hb dL_isPourSo_30 rfl (lv_at hl 3 rfl) ?_
  refine lv_iload_n hx hb dL_isPourSo_31 rfl (lv_at hl 2 rfl) ?_
  refine lv_iconst (v := nI 3) hx hb dL_isPourSo_32 (by decide) ?_
  refine q_ciK (BH := fun _ => True) (va_runV (rm := { frames := 1, cells := 0, slots := 0, locals := 23 }) (As := [.int (nI ((hN T n))), .int (nI 3)]) (rest := []) ⟨hx, hb, hml, hown, hts⟩ (m2_guest_ok l D z ol sn 0 T S Y G 0 P ch B hI ((hN T n)) (by omega) 3 (by omega)) (cwV 2 hts gL_isPourSo_X2_guest rfl rfl rfl (by decide +kernel) ⟨Nat.le_of_ble_eq_true rfl, Nat.le_of_ble_eq_true rfl⟩) (q_pV (ci := 2) (q0 := 0) hP hK rfl rfl) rfl rfl hl.1 rfl (lv_room (Nat.le_of_ble_eq_true rfl)) dL_isPourSo_33 ⟨Nat.le_of_ble_eq_true rfl, Nat.le_of_ble_eq_true rfl⟩) (fun t h => trivial) hS (fun q h => h.elim) (fun x5 H locs e5 _ hk hS => ?_)
  have hP := k_kp hP hk
  have hO := k_kp hO hk
  have e5 : x5 = (T (24 + ((hN T n)))) := e5
  subst e5
  refine lv_istore (lv' := [(6, .int (T (24 + ((hN T n))))), (5, .int (g_rm T (hN T n))), (4, .int (T (75 + n))), (3, .int (nI ((hN T n)))), (0, .ref (z.o)), (1, .int (nI n)), (2, .ref oa)]) hx hb dL_isPourSo_36 hl (by decide) rfl (fun ls hl => ?_)
  refine lv_aload_n hx hb dL_isPourSo_38 rfl (lv_at hl 4 rfl) ?_
  refine lv_iload_n hx hb dL_isPourSo_39 rfl (lv_at hl 5 rfl) ?_
  refine lv_iconst (v := nI 2) hx hb dL_isPourSo_40 (by decide) ?_
  refine q_ciK (BH := fun _ => True) (va_runV (rm := { frames := 2, cells := 0, slots := 0, locals := 44 }) (As := [.int (nI n), .int (nI 2)]) (rest := []) ⟨hx, hb, hml, hown, hts⟩ (m2_pot_ok l D z ol sn 0 T S Y G 0 P ch B hI n (by omega) 2 (by omega)) (cwV 2 hts gL_isPourSo_X2_pot rfl rfl rfl (by decide +kernel) ⟨Nat.le_of_ble_eq_true rfl, Nat.le_of_ble_eq_true rfl⟩) (q_pV (ci := 2) (q0 := 0) hP hK rfl rfl) rfl rfl hl.1 rfl (lv_room (Nat.le_of_ble_eq_true rfl)) dL_isPourSo_41 ⟨Nat.le_of_ble_eq_true rfl, Nat.le_of_ble_eq_true rfl⟩) (fun t h => trivial) hS (fun q h => h.elim) (fun x6 H locs e6 _ hk hS => ?_)
  have hP := k_kp hP hk
  have hO := k_kp hO hk
  have e6 : x6 = (T (78 + n)) := e6
  subst e6
  refine lv_iload hx hb dL_isPourSo_44 (lv_at hl 0 rfl) ?_
  refine lv_imul hx hb dL_isPourSo_46 ?_
  refine lv_aload_n hx hb dL_isPourSo_47 rfl (lv_at hl 4 rfl) ?_
  refine lv_iload_n hx hb dL_isPourSo_48 rfl (lv_at hl 5 rfl) ?_
  refine lv_iconst (v := nI 3) hx hb dL_isPourSo_49 (by decide) ?_
  refine q_ciK (BH := fun _ => True) (va_runV (rm := { frames := 2, cells := 0, slots := 0, locals := 44 }) (As := [.int (nI n), .int (nI 3)]) (rest := [.int ((T (78 + n)) * (T (24 + ((hN T n)))))]) ⟨hx, hb, hml, hown, hts⟩ (m2_pot_ok l D z ol sn 0 T S Y G 0 P ch B hI n (by omega) 3 (by omega)) (cwV 2 hts gL_isPourSo_X2_pot rfl rfl rfl (by decide +kernel) ⟨Nat.le_of_ble_eq_true rfl, Nat.le_of_ble_eq_true rfl⟩) (q_pV (ci := 2) (q0 := 0) hP hK rfl rfl) rfl rfl hl.1 rfl (lv_room (Nat.le_of_ble_eq_true rfl)) dL_isPourSo_50 ⟨Nat.le_of_ble_eq_true rfl, Nat.le_of_ble_eq_true rfl⟩) (fun t h => trivial) hS (fun q h => h.elim) (fun x7 H locs e7 _ hk hS => ?_)
  have hP := k_kp hP hk
  have hO := k_kp hO hk
  have e7 : x7 = (g_wt T n) := e7
  subst e7
  refine lv_bipush (v := nI 10) hx hb dL_isPourSo_53 (by decide) ?_
  refine lv_iload hx hb dL_isPourSo_55 (lv_at hl 0 rfl) ?_
  refine lv_isub hx hb dL_isPourSo_57 ?_
  refine lv_imul hx hb dL_isPourSo_58 ?_
  refine lv_iadd hx hb dL_isPourSo_59 ?_
  refine lv_bipush (v := nI 10) hx hb dL_isPourSo_60 (by decide) ?_
  refine lv_idiv hx hb dL_isPourSo_62 (by decide) ?_
  refine lv_istore (lv' := [(7, .int (g_gs T n)), (6, .int (T (24 + ((hN T n))))), (5, .int (g_rm T (hN T n))), (4, .int (T (75 + n))), (3, .int (nI ((hN T n)))), (0, .ref (z.o)), (1, .int (nI n)), (2, .ref oa)]) hx hb dL_isPourSo_63 hl (by decide) rfl (fun ls hl => ?_)
  refine lv_iload hx hb dL_isPourSo_65 (lv_at hl 3 rfl) ?_
  refine lv_if_ne (tgt := 74) hx hb dL_isPourSo_67 (by decide) (fun c8 => ?_) (fun c8 => absurd c8 (fun z => hf z))
  refine lv_iload hx hb dL_isPourSo_74 (lv_at hl 2 rfl) ?_
  refine lv_if_ne (tgt := 83) hx hb dL_isPourSo_76 (by decide) (fun c9 => absurd c9 (fun z => z hr)) (fun c9 => ?_)
  refine lv_iconst (v := nI 2) hx hb dL_isPourSo_79 (by decide) ?_
  refine lv_goto (tgt := 84) hx hb dL_isPourSo_80 (by decide) ?_
  refine lv_istore (lv' := [(8, .int (nI 2)), (7, .int (g_gs T n)), (6, .int (T (24 + ((hN T n))))), (5, .int (g_rm T (hN T n))), (4, .int (T (75 + n))), (3, .int (nI ((hN T n)))), (0, .ref (z.o)), (1, .int (nI n)), (2, .ref oa)]) hx hb dL_isPourSo_84 hl (by decide) rfl (fun ls hl => ?_)
  refine lv_iload hx hb dL_isPourSo_86 (lv_at hl 3 rfl) ?_
  refine lv_iload hx hb dL_isPourSo_88 (lv_at hl 4 rfl) ?_
  refine lv_imul hx hb dL_isPourSo_90 ?_
  refine lv_iload hx hb dL_isPourSo_91 (lv_at hl 1 rfl) ?_
  have J102 : W p l e { frames := 9, cells := 1, slots := 6, locals := 164 } s m args below meth c H locs 0 0 Q (F0 m 102 ls [.int (g_dv (g_gs T n)), .int ((g_rm T (hN T n)) * (T (75 + n)))]) := by
    refine lv_idiv hx hb dL_isPourSo_102 (dv_ne hI hn3) ?_
    refine lv_istore (lv' := [(9, .int (g_c0 T n)), (8, .int (nI 2)), (7, .int (g_gs T n)), (6, .int (T (24 + ((hN T n))))), (5, .int (g_rm T (hN T n))), (4, .int (T (75 + n))), (3, .int (nI ((hN T n)))), (0, .ref (z.o)), (1, .int (nI n)), (2, .ref oa)]) hx hb dL_isPourSo_103 hl (by decide) rfl (fun ls hl => ?_)
    refine lv_iload hx hb dL_isPourSo_105 (lv_at hl 0 rfl) ?_
    refine lv_iload hx hb dL_isPourSo_107 (lv_at hl 5 rfl) ?_
    have J119 : W p l e { frames := 9, cells := 1, slots := 6, locals := 164 } s m args below meth c H locs 0 0 Q (F0 m 119 ls [.int (g_cm T n)]) := by
      refine lv_istore (lv' := [(9, .int (g_cm T n)), (8, .int (nI 2)), (7, .int (g_gs T n)), (6, .int (T (24 + ((hN T n))))), (5, .int (g_rm T (hN T n))), (4, .int (T (75 + n))), (3, .int (nI ((hN T n)))), (0, .ref (z.o)), (1, .int (nI n)), (2, .ref oa)]) hx hb dL_isPourSo_119 hl (by decide) rfl (fun ls hl => ?_)
      refine lv_iload hx hb dL_isPourSo_121 (lv_at hl 0 rfl) ?_
      refine lv_iload hx hb dL_isPourSo_123 (lv_at hl 4 rfl) ?_
      have J137 : W p l e { frames := 9, cells := 1, slots := 6, locals := 164 } s m args below meth c H locs 0 0 Q (F0 m 137 ls [.int (g_ov T n)]) := by
        refine lv_istore (lv' := [(10, .int (g_ov T n)), (9, .int (g_cm T n)), (8, .int (nI 2)), (7, .int (g_gs T n)), (6, .int (T (24 + ((hN T n))))), (5, .int (g_rm T (hN T n))), (4, .int (T (75 + n))), (3, .int (nI ((hN T n)))), (0, .ref (z.o)), (1, .int (nI n)), (2, .ref oa)]) hx hb dL_isPourSo_137 hl (by decide) rfl (fun ls hl => ?_)
        refine lv_aload_n hx hb dL_isPourSo_139 rfl (lv_at hl 8 rfl) ?_
        refine lv_iload_n hx hb dL_isPourSo_140 rfl (lv_at hl 9 rfl) ?_
        refine q_ciK (BH := fun H => ∃ Y2 : Nat → Int32, va_P D vwCl (wX z ol sn 0 T S Y2 G 0 P ch) H) (va_runV (rm := { frames := 4, cells := 0, slots := 0, locals := 91 }) (As := [.int (nI n)]) (rest := []) ⟨hx, hb, hml, hown, hts⟩ (m2_bestGuest_ok l D z ol sn 0 T S Y G 0 P ch B hI n hn3 hB2 hD) (cwV 1 hts gL_isPourSo_X2_bestGuest rfl rfl rfl (by decide +kernel) ⟨Nat.le_of_ble_eq_true rfl, Nat.le_of_ble_eq_true rfl⟩) (q_pV (ci := 2) (q0 := 0) hP hK rfl rfl) rfl rfl hl.1 rfl (lv_room (Nat.le_of_ble_eq_true rfl)) dL_isPourSo_141 ⟨Nat.le_of_ble_eq_true rfl, Nat.le_of_ble_eq_true rfl⟩) (fun t h => h) hS (fun q h => Or.inl h) (fun x10 H locs e10 hP hk hS => ?_)
        obtain ⟨Y, hP⟩ := hP
        have hO := wI_kept hO hoa hk
        have hD := q_D2 (ws' := wX z ol sn 0 T S Y G 0 P ch) hDX rfl
        have e10 : x10 = g_bg 8 (-1) (nI 0) T n := e10
        subst e10
        refine lv_istore (lv' := [(11, .int (g_bg 8 (-1) (nI 0) T n)), (10, .int (g_ov T n)), (9, .int (g_cm T n)), (8, .int (nI 2)), (7, .int (g_gs T n)), (6, .int (T (24 + ((hN T n))))), (5, .int (g_rm T (hN T n))), (4, .int (T (75 + n))), (3, .int (nI ((hN T n)))), (0, .ref (z.o)), (1, .int (nI n)), (2, .ref oa)]) hx hb dL_isPourSo_144 hl (by decide) rfl (fun ls hl => ?_)
        refine lv_aload_n hx hb dL_isPourSo_146 rfl (lv_at hl 9 rfl) ?_
        refine lv_iload_n hx hb dL_isPourSo_147 rfl (lv_at hl 10 rfl) ?_
        refine lv_iconst (v := nI 4) hx hb dL_isPourSo_148 (by decide) ?_
        refine q_ciK (BH := fun _ => True) (va_runV (rm := { frames := 2, cells := 0, slots := 0, locals := 44 }) (As := [.int (nI n), .int (nI 4)]) (rest := []) ⟨hx, hb, hml, hown, hts⟩ (m2_pot_ok l D z ol sn 0 T S Y G 0 P ch B hI n (by omega) 4 (by omega)) (cwV 2 hts gL_isPourSo_X2_pot rfl rfl rfl (by decide +kernel) ⟨Nat.le_of_ble_eq_true rfl, Nat.le_of_ble_eq_true rfl⟩) (q_pV (ci := 2) (q0 := 0) hP hK rfl rfl) rfl rfl hl.1 rfl (lv_room (Nat.le_of_ble_eq_true rfl)) dL_isPourSo_149 ⟨Nat.le_of_ble_eq_true rfl, Nat.le_of_ble_eq_true rfl⟩) (fun t h => trivial) hS (fun q h => h.elim) (fun x11 H locs e11 _ hk hS => ?_)
        have hP := k_kp hP hk
        have hO := k_kp hO hk
        have e11 : x11 = (g_gs T n) := e11
        subst e11
        refine lv_iload hx hb dL_isPourSo_152 (lv_at hl 4 rfl) ?_
        refine lv_icmp_ne (tgt := 257) hx hb dL_isPourSo_154 (by decide) (fun c12 => absurd c12 (fun z => z (rfl))) (fun c12 => ?_)
        refine lv_aload_n hx hb dL_isPourSo_157 rfl (lv_at hl 9 rfl) ?_
        refine lv_iload_n hx hb dL_isPourSo_158 rfl (lv_at hl 10 rfl) ?_
        refine lv_iconst (v := nI 5) hx hb dL_isPourSo_159 (by decide) ?_
        refine q_ciK (BH := fun _ => True) (va_runV (rm := { frames := 2, cells := 0, slots := 0, locals := 44 }) (As := [.int (nI n), .int (nI 5)]) (rest := []) ⟨hx, hb, hml, hown, hts⟩ (m2_pot_ok l D z ol sn 0 T S Y G 0 P ch B hI n (by omega) 5 (by omega)) (cwV 2 hts gL_isPourSo_X2_pot rfl rfl rfl (by decide +kernel) ⟨Nat.le_of_ble_eq_true rfl, Nat.le_of_ble_eq_true rfl⟩) (q_pV (ci := 2) (q0 := 0) hP hK rfl rfl) rfl rfl hl.1 rfl (lv_room (Nat.le_of_ble_eq_true rfl)) dL_isPourSo_160 ⟨Nat.le_of_ble_eq_true rfl, Nat.le_of_ble_eq_true rfl⟩) (fun t h => trivial) hS (fun q h => h.elim) (fun x13 H locs e13 _ hk hS => ?_)
        have hP := k_kp hP hk
        have hO := k_kp hO hk
        have e13 : x13 = (g_wy T n) := e13
        subst e13
        refine lv_iload hx hb dL_isPourSo_163 (lv_at hl 3 rfl) ?_
        refine lv_icmp_ne (tgt := 257) hx hb dL_isPourSo_165 (by decide) (fun c14 => absurd c14 (fun z => z (wy_2 hf hr))) (fun c14 => ?_)
        refine lv_aload_n hx hb dL_isPourSo_168 rfl (lv_at hl 9 rfl) ?_
        refine lv_iload_n hx hb dL_isPourSo_169 rfl (lv_at hl 10 rfl) ?_
        refine lv_iconst (v := nI 0) hx hb dL_isPourSo_170 (by decide) ?_
        refine q_ciK (BH := fun _ => True) (va_runV (rm := { frames := 4, cells := 0, slots := 0, locals := 91 }) (As := [.int (nI n), .int (nI 0)]) (rest := []) ⟨hx, hb, hml, hown, hts⟩ (m2_ifPoured_ok l D z ol sn 0 T S Y G 0 P ch B hI n hn3 0 (by omega)) (cwV 2 hts gL_isPourSo_X2_ifPoured rfl rfl rfl (by decide +kernel) ⟨Nat.le_of_ble_eq_true rfl, Nat.le_of_ble_eq_true rfl⟩) (q_pV (ci := 2) (q0 := 0) hP hK rfl rfl) rfl rfl hl.1 rfl (lv_room (Nat.le_of_ble_eq_true rfl)) dL_isPourSo_171 ⟨Nat.le_of_ble_eq_true rfl, Nat.le_of_ble_eq_true rfl⟩) (fun t h => trivial) hS (fun q h => h.elim) (fun x15 H locs e15 _ hk hS => ?_)
        have hP := k_kp hP hk
        have hO := k_kp hO hk
        have e15 : x15 = (-1) := (show _ = g_br T n 0 from e15).trans (br_n hw)
        subst e15
        refine lv_iload hx hb dL_isPourSo_174 (lv_at hl 3 rfl) ?_
        refine lv_if_le (tgt := 183) hx hb dL_isPourSo_176 (by decide) (fun c16 => absurd c16 (by decide)) (fun c16 => ?_)
        refine lv_iconst (v := (-1)) hx hb dL_isPourSo_179 (by decide) ?_
        refine lv_goto (tgt := 185) hx hb dL_isPourSo_180 (by decide) ?_
        refine lv_icmp_ne (tgt := 257) hx hb dL_isPourSo_185 (by decide) (fun c17 => absurd c17 (fun z => z (rfl))) (fun c17 => ?_)
        refine lv_aload_n hx hb dL_isPourSo_188 rfl (lv_at hl 9 rfl) ?_
        refine lv_iload_n hx hb dL_isPourSo_189 rfl (lv_at hl 10 rfl) ?_
        refine lv_iconst (v := nI 1) hx hb dL_isPourSo_190 (by decide) ?_
        refine q_ciK (BH := fun _ => True) (va_runV (rm := { frames := 4, cells := 0, slots := 0, locals := 91 }) (As := [.int (nI n), .int (nI 1)]) (rest := []) ⟨hx, hb, hml, hown, hts⟩ (m2_ifPoured_ok l D z ol sn 0 T S Y G 0 P ch B hI n hn3 1 (by omega)) (cwV 2 hts gL_isPourSo_X2_ifPoured rfl rfl rfl (by decide +kernel) ⟨Nat.le_of_ble_eq_true rfl, Nat.le_of_ble_eq_true rfl⟩) (q_pV (ci := 2) (q0 := 0) hP hK rfl rfl) rfl rfl hl.1 rfl (lv_room (Nat.le_of_ble_eq_true rfl)) dL_isPourSo_191 ⟨Nat.le_of_ble_eq_true rfl, Nat.le_of_ble_eq_true rfl⟩) (fun t h => trivial) hS (fun q h => h.elim) (fun x18 H locs e18 _ hk hS => ?_)
        have hP := k_kp hP hk
        have hO := k_kp hO hk
        have e18 : x18 = (-1) := (show _ = g_br T n 1 from e18).trans (br_n hw)
        subst e18
        refine lv_iload hx hb dL_isPourSo_194 (lv_at hl 3 rfl) ?_
        refine lv_if_le (tgt := 203) hx hb dL_isPourSo_196 (by decide) (fun c19 => absurd c19 (by decide)) (fun c19 => ?_)
        refine lv_iconst (v := (-1)) hx hb dL_isPourSo_199 (by decide) ?_
        refine lv_goto (tgt := 205) hx hb dL_isPourSo_200 (by decide) ?_
        refine lv_icmp_ne (tgt := 257) hx hb dL_isPourSo_205 (by decide) (fun c20 => absurd c20 (fun z => z (rfl))) (fun c20 => ?_)
        refine lv_iload hx hb dL_isPourSo_208 (lv_at hl 0 rfl) ?_
        refine lv_iconst (v := (-1)) hx hb dL_isPourSo_210 (by decide) ?_
        refine lv_icmp_lt (tgt := 257) hx hb dL_isPourSo_211 (by decide) (fun c21 => absurd c21 (bg_lo hI hn3)) (fun c21 => ?_)
        refine lv_iload hx hb dL_isPourSo_214 (lv_at hl 0 rfl) ?_
        refine lv_bipush (v := nI 8) hx hb dL_isPourSo_216 (by decide) ?_
        refine lv_icmp_ge (tgt := 257) hx hb dL_isPourSo_218 (by decide) (fun c22 => absurd c22 (bg_hi hI hn3)) (fun c22 => ?_)
        refine lv_iload hx hb dL_isPourSo_221 (lv_at hl 3 rfl) ?_
        refine lv_if_gt (tgt := 242) hx hb dL_isPourSo_223 (by decide) (fun c23 => ?_) (fun c23 => absurd c23 (by decide))
        refine lv_iload hx hb dL_isPourSo_242 (lv_at hl 7 rfl) ?_
        refine lv_if_gt (tgt := 253) hx hb dL_isPourSo_244 (by decide) (fun c24 => ?_) (fun c24 => absurd c24 (fun z => z (fi_pos hI hn3 hf)))
        refine lv_iconst (v := nI 1) hx hb dL_isPourSo_253 (by decide) ?_
        refine lv_goto (tgt := 258) hx hb dL_isPourSo_254 (by decide) ?_
        refine lv_istore (lv' := [(12, .int (nI 1)), (11, .int (g_bg 8 (-1) (nI 0) T n)), (10, .int (g_ov T n)), (9, .int (g_cm T n)), (8, .int (nI 2)), (7, .int (g_gs T n)), (6, .int (T (24 + ((hN T n))))), (5, .int (g_rm T (hN T n))), (4, .int (T (75 + n))), (3, .int (nI ((hN T n)))), (0, .ref (z.o)), (1, .int (nI n)), (2, .ref oa)]) hx hb dL_isPourSo_258 hl (by decide) rfl (fun ls hl => ?_)
        refine lv_aload_n hx hb dL_isPourSo_260 rfl (lv_at hl 10 rfl) ?_
        refine lv_iload_n hx hb dL_isPourSo_261 rfl (lv_at hl 11 rfl) ?_
        refine lv_iconst (v := nI 2) hx hb dL_isPourSo_262 (by decide) ?_
        refine q_ciK (BH := fun _ => True) (va_runV (rm := { frames := 4, cells := 0, slots := 0, locals := 91 }) (As := [.int (nI n), .int (nI 2)]) (rest := []) ⟨hx, hb, hml, hown, hts⟩ (m2_ifPoured_ok l D z ol sn 0 T S Y G 0 P ch B hI n hn3 2 (by omega)) (cwV 2 hts gL_isPourSo_X2_ifPoured rfl rfl rfl (by decide +kernel) ⟨Nat.le_of_ble_eq_true rfl, Nat.le_of_ble_eq_true rfl⟩) (q_pV (ci := 2) (q0 := 0) hP hK rfl rfl) rfl rfl hl.1 rfl (lv_room (Nat.le_of_ble_eq_true rfl)) dL_isPourSo_263 ⟨Nat.le_of_ble_eq_true rfl, Nat.le_of_ble_eq_true rfl⟩) (fun t h => trivial) hS (fun q h => h.elim) (fun x25 H locs e25 _ hk hS => ?_)
        have hP := k_kp hP hk
        have hO := k_kp hO hk
        have e25 : x25 = (-1) := (show _ = g_br T n 2 from e25).trans (br_n hw)
        subst e25
        refine lv_istore (lv' := [(13, .int (-1)), (12, .int (nI 1)), (11, .int (g_bg 8 (-1) (nI 0) T n)), (10, .int (g_ov T n)), (9, .int (g_cm T n)), (8, .int (nI 2)), (7, .int (g_gs T n)), (6, .int (T (24 + ((hN T n))))), (5, .int (g_rm T (hN T n))), (4, .int (T (75 + n))), (3, .int (nI ((hN T n)))), (0, .ref (z.o)), (1, .int (nI n)), (2, .ref oa)]) hx hb dL_isPourSo_266 hl (by decide) rfl (fun ls hl => ?_)
        refine lv_aload_n hx hb dL_isPourSo_268 rfl (lv_at hl 11 rfl) ?_
        refine lv_iconst (v := nI 5) hx hb dL_isPourSo_269 (by decide) ?_
        refine q_ciK (BH := fun _ => True) (va_runV (rm := { frames := 3, cells := 0, slots := 0, locals := 65 }) (As := [.int (nI 5)]) (rest := []) ⟨hx, hb, hml, hown, hts⟩ (m2_count_ok l D z ol sn 0 T S Y G 0 P ch 5 (by omega)) (cwV 1 hts gL_isPourSo_X2_count rfl rfl rfl (by decide +kernel) ⟨Nat.le_of_ble_eq_true rfl, Nat.le_of_ble_eq_true rfl⟩) (q_pV (ci := 2) (q0 := 0) hP hK rfl rfl) rfl rfl hl.1 rfl (lv_room (Nat.le_of_ble_eq_true rfl)) dL_isPourSo_270 ⟨Nat.le_of_ble_eq_true rfl, Nat.le_of_ble_eq_true rfl⟩) (fun t h => trivial) hS (fun q h => h.elim) (fun x26 H locs e26 _ hk hS => ?_)
        have hP := k_kp hP hk
        have hO := k_kp hO hk
        have e26 : x26 = (T 136) := e26
        subst e26
        refine lv_istore (lv' := [(14, .int (T 136)), (13, .int (-1)), (12, .int (nI 1)), (11, .int (g_bg 8 (-1) (nI 0) T n)), (10, .int (g_ov T n)), (9, .int (g_cm T n)), (8, .int (nI 2)), (7, .int (g_gs T n)), (6, .int (T (24 + ((hN T n))))), (5, .int (g_rm T (hN T n))), (4, .int (T (75 + n))), (3, .int (nI ((hN T n)))), (0, .ref (z.o)), (1, .int (nI n)), (2, .ref oa)]) hx hb dL_isPourSo_273 hl (by decide) rfl (fun ls hl => ?_)
        refine lv_aload_n hx hb dL_isPourSo_275 rfl (lv_at hl 12 rfl) ?_
        refine lv_iconst (v := nI 1) hx hb dL_isPourSo_276 (by decide) ?_
        refine lv_iload_n hx hb dL_isPourSo_277 rfl (lv_at hl 13 rfl) ?_
        refine lv_iconst (v := nI 0) hx hb dL_isPourSo_278 (by decide) ?_
        refine lv_aload_n hx hb dL_isPourSo_279 rfl (lv_at hl 14 rfl) ?_
        refine q_ciK (BH := fun H => CE 3 z D sn T T H ∧ ∃ g', OE 3 0 g' ∧ va_P D vwCl (wI oa z.cI g') H) (vx_runSW (rm := { frames := 8, cells := 1, slots := 6, locals := 139 }) (As := [.ref (z.o), .int (nI 1), .int (nI n), .int (nI 0), .ref oa]) (rest := []) ⟨hx, hb, hml, hown, hts⟩ (K_pour_3 l hl9 D st z oa hoa hDX g sn hsn T B hI n hn3 (nI 0) (fun z => hw z)) (vx_cwSW (hh := [(0, 76, 79, 30), (0, 76, 83, 32), (0, 76, 87, 34)]) 5 hts gL_isPourSo_L_changes rfl rfl rfl (by decide +kernel) ⟨Nat.le_of_ble_eq_true rfl, Nat.le_of_ble_eq_true rfl⟩) (k_pS (C0 := OS z D sn T) ⟨ol, S, Y, G, P, ch, hol, hP⟩ hO hK hT hS (fun q h => h)) rfl rfl hl.1 rfl (lv_room (Nat.le_of_ble_eq_true rfl)) dL_isPourSo_280 ⟨Nat.le_of_ble_eq_true rfl, Nat.le_of_ble_eq_true rfl⟩) (fun _ h => h) hS (fun q h => h) (fun r H locs er hCO hk5 hS => ?_)
        obtain ⟨hC, g1, hg1, hO⟩ := hCO
        have er : nI 3 = r := Eq.symm er
        subst er
        obtain ⟨ol, S, Y, G, P, ch, hol, hP⟩ := (show OS z D sn T H from hC)
        refine lv_istore (lv' := [(15, .int (nI 3)), (14, .int (T 136)), (13, .int (-1)), (12, .int (nI 1)), (11, .int (g_bg 8 (-1) (nI 0) T n)), (10, .int (g_ov T n)), (9, .int (g_cm T n)), (8, .int (nI 2)), (7, .int (g_gs T n)), (6, .int (T (24 + ((hN T n))))), (5, .int (g_rm T (hN T n))), (4, .int (T (75 + n))), (3, .int (nI ((hN T n)))), (0, .ref (z.o)), (1, .int (nI n)), (2, .ref oa)]) hx hb dL_isPourSo_283 hl (by decide) rfl (fun ls hl => ?_)
        refine lv_iload hx hb dL_isPourSo_285 (lv_at hl 0 rfl) ?_
        refine lv_if_eq (tgt := 318) hx hb dL_isPourSo_287 (by decide) (fun c27 => absurd c27 (by decide)) (fun c27 => ?_)
        refine lv_iload hx hb dL_isPourSo_290 (lv_at hl 3 rfl) ?_
        refine lv_if_eq (tgt := 316) hx hb dL_isPourSo_292 (by decide) (fun c28 => absurd c28 (by decide)) (fun c28 => ?_)
        refine lv_iload hx hb dL_isPourSo_295 (lv_at hl 0 rfl) ?_
        refine lv_iconst (v := nI 3) hx hb dL_isPourSo_297 (by decide) ?_
        refine q_neN (tgt := 316) hx hb (by omega) (by omega) dL_isPourSo_298 (by decide) (fun c29 => absurd c29 (by decide)) (fun c29 => ?_)
        refine lv_iload hx hb dL_isPourSo_301 (lv_at hl 7 rfl) ?_
        refine lv_if_le (tgt := 316) hx hb dL_isPourSo_303 (by decide) (fun c30 => absurd c30 (by decide)) (fun c30 => ?_)
        refine lv_iload hx hb dL_isPourSo_306 (lv_at hl 2 rfl) ?_
        refine lv_iconst (v := (-1)) hx hb dL_isPourSo_308 (by decide) ?_
        refine lv_icmp_ne (tgt := 316) hx hb dL_isPourSo_309 (by decide) (fun c31 => absurd c31 (fun z => z (rfl))) (fun c31 => ?_)
        refine lv_iconst (v := nI 1) hx hb dL_isPourSo_312 (by decide) ?_
        refine lv_goto (tgt := 317) hx hb dL_isPourSo_313 (by decide) ?_
        exact hret _ _ _ _ _ ⟨sn, hsn, ol, S, Y, G, P, ch, hol, hP⟩ trivial hO hS dL_isPourSo_317
      refine lv_icmp_le (tgt := 136) hx hb dL_isPourSo_125 (by decide) (fun c32 => ?_) (fun c32 => ?_)
      ·
        refine lv_iconst (v := nI 0) hx hb dL_isPourSo_136 (by decide) ?_
        rw [ov_le hI hn3 c32] at J137
        exact J137
      ·
        refine lv_iload hx hb dL_isPourSo_128 (lv_at hl 0 rfl) ?_
        refine lv_iload hx hb dL_isPourSo_130 (lv_at hl 4 rfl) ?_
        refine lv_isub hx hb dL_isPourSo_132 ?_
        refine lv_goto (tgt := 137) hx hb dL_isPourSo_133 (by decide) ?_
        rw [ov_gt hI hn3 c32] at J137
        exact J137
    refine lv_icmp_le (tgt := 117) hx hb dL_isPourSo_109 (by decide) (fun c33 => ?_) (fun c33 => ?_)
    ·
      refine lv_iload hx hb dL_isPourSo_117 (lv_at hl 0 rfl) ?_
      rw [cm_le c33] at J119
      exact J119
    ·
      refine lv_iload hx hb dL_isPourSo_112 (lv_at hl 5 rfl) ?_
      refine lv_goto (tgt := 119) hx hb dL_isPourSo_114 (by decide) ?_
      rw [cm_gt c33] at J119
      exact J119
  refine lv_if_ne (tgt := 100) hx hb dL_isPourSo_93 (by decide) (fun c34 => ?_) (fun c34 => ?_)
  ·
    refine lv_iload hx hb dL_isPourSo_100 (lv_at hl 1 rfl) ?_
    rw [dv_1 hI hn3 c34] at J102
    exact J102
  ·
    refine lv_iconst (v := nI 1) hx hb dL_isPourSo_96 (by decide) ?_
    refine lv_goto (tgt := 102) hx hb dL_isPourSo_97 (by decide) ?_
    rw [dv_0 c34] at J102
    exact J102
theorem L_isPourSo (l : Launch) (hl9 : l.stackTraces = false) (D : va_G) (st : Nat → Nat) (z : Ad) (oa : Nat) (hoa : ¬ AX z oa) (hDX : va_D (fun _ => True) (wX z 0 0 0 f00 f00 f00 (fun _ => f00) 0 (0, 0, 0, 0) (fun _ => 0))) (g : Int32) (sn : Nat) (hsn : sn ≤ 6) (T : Nat → Int32) (B : Nat) (hI : Inv B T) (hB2 : B + 33600 < 2000000000) (n : Nat) (hn3 : n < 3) : k_H l yL_isPourSo wsL_isPourSo { frames := 9, cells := 1, slots := 6, locals := 164 } [.ref z.o, .int (nI n), .ref oa] st D z oa (OS z D sn T) g (nI 1) (fun H => ∃ sn', sn' ≤ 6 ∧ OS z D sn' T H) (fun _ => True) := by
  by_cases hf : T (75 + n) = 0
  · exact L_isPourSo_1 l hl9 D st z oa hoa hDX g sn hsn T B hI hB2 n hn3 hf
  · by_cases hr : g_rm T (hN T n) = 0
    · exact L_isPourSo_2 l hl9 D st z oa hoa hDX g sn hsn T B hI hB2 n hn3 hf hr
    · exact L_isPourSo_0 l hl9 D st z oa hoa hDX g sn hsn T B hI hB2 n hn3 hf hr
