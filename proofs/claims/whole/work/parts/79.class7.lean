theorem hr_t {f : Nat → Int32} {k : Nat} {t : Int32} (h : ¬ g_hr f k t = 0) : f (75 + k) + t ≤ nI 200 := by
  by_cases h2 : nI 200 < f (75 + k) + t
  · exact absurd (show g_hr f k t = 0 from if_pos h2) h
  · exact Int32.not_lt.mp h2
theorem hr_f {f : Nat → Int32} {k : Nat} {t : Int32} (h : g_hr f k t = 0) : ¬ f (75 + k) + t ≤ nI 200 := fun z => by
  have h2 : g_hr f k t = nI 1 := if_neg (Int32.not_lt.mpr z)
  rw [h2] at h
  exact absurd h (by decide)
set_option maxHeartbeats 4000000 in
set_option maxRecDepth 100000 in
theorem m2_doErrand_98 (l : Launch) (D : va_G) (z : Ad) (ol sn hs : Nat) (T S Y : Nat → Int32) (G : Nat → Nat → Int32) (len : Nat) (P : PS) (ch : Nat → Nat) (B : Nat) (hI : Inv B T) (u t : Nat) (hB : B + 1600 < 2000000000) (hu3 : u < 3) (ht : 1 ≤ t ∧ t ≤ 200) (hD : va_D (fun _ => True) (wX z ol sn hs T S Y G len P ch)) : q_I l yX2_doErrand wsX2_doErrand { frames := 5, cells := 0, slots := 0, locals := 118 } [.ref (z.o), .int (nI 98), .int (nI u), .int (nI t)] (q_bp D (wX z ol sn hs T S Y G len P ch) (tyX z)) (fun v => v = p_b (e_ok T 98 u t)) (fun H => va_P D vwCl (wX z ol sn hs (if e_ok T 98 u t then e_do T 98 u t else T) S Y G len P ch) H) (AX z) 0 0 := by
  refine q_goI (cc := cX2_doErrand) (maxL := 4) (ty := .boolean) (lv0 := [(0, .ref (z.o)), (1, .int (nI 98)), (2, .int (nI u)), (3, .int (nI t))]) (by decide) rfl (Nat.le_of_ble_eq_true rfl) rfl ?_
  intro p e s m args below meth c Q ls hx hb hml hts hown hP hK hl hret
  have hi2 : ∀ w ∈ wsX20, w ∈ wsX2_doErrand := by decide +kernel
  have hfl12 := hts (.fieldLink RX2 12 "WhisperedPots" "table" "LWhisperedPots$Table;") (by decide +kernel)
  have hS : va_S (AX z) s.heap s.heap [] := va_S.rf
  refine lv_iload_n hx hb dX2_doErrand_0 rfl (lv_at hl 1 rfl) ?_
  refine lv_lookup (off := 51) (tgt := 52) hx hb dX2_doErrand_1 (by decide) (by decide +kernel) (by decide) ?_
  refine lv_aload_n hx hb dX2_doErrand_52 rfl (lv_at hl 0 rfl) ?_
  refine va_get (D := D) (ci := 2) (v := .ref (z.ad 0)) (C := RX2) (T := TX2) (N := 8) hx hb hts hi2 hown hK hP 0 rfl rfl 0 (by decide) hfl12 (fun _ h9 => h9) rfl dX2_doErrand_53 ?_
  refine lv_iload_n hx hb dX2_doErrand_56 rfl (lv_at hl 2 rfl) ?_
  refine lv_iload_n hx hb dX2_doErrand_57 rfl (lv_at hl 3 rfl) ?_
  refine q_ciR (va_runV (rm := { frames := 0, cells := 0, slots := 0, locals := 0 }) (As := [.int (nI u), .int (nI t)]) (rest := []) ⟨hx, hb, hml, hown, hts⟩ (m1_hasRoomFor l D z.cI (z.ad 0) (z.rd 0) u T (nI t) hu3) (cwV 2 hts gX2_doErrand_X1_hasRoomFor rfl rfl rfl (by decide +kernel) ⟨Nat.le_of_ble_eq_true rfl, Nat.le_of_ble_eq_true rfl⟩) (q_pV (ci := 1) (q0 := 0) (hP.sub (ws' := wT (z.ad 0) (z.rd 0) z.cI T) [1, 10] rfl) (hK.sub [0] rfl) rfl rfl) rfl rfl hl.1 rfl (lv_room (Nat.le_of_ble_eq_true rfl)) dX2_doErrand_58 ⟨Nat.le_of_ble_eq_true rfl, Nat.le_of_ble_eq_true rfl⟩) hP hS (fun x1 H locs e1 hP hS => ?_)
  have e1 : x1 = g_hr T u (nI t) := e1
  refine lv_if_ne (tgt := 66) hx hb dX2_doErrand_61 (by decide) (fun c2 => ?_) (fun c2 => ?_)
  ·
    refine lv_aload_n hx hb dX2_doErrand_66 rfl (lv_at hl 0 rfl) ?_
    refine va_get (D := D) (ci := 2) (v := .ref (z.ad 0)) (C := RX2) (T := TX2) (N := 8) hx hb hts hi2 hown hK hP 0 rfl rfl 0 (by decide) hfl12 (fun _ h9 => h9) rfl dX2_doErrand_67 ?_
    refine lv_iload_n hx hb dX2_doErrand_70 rfl (lv_at hl 2 rfl) ?_
    refine lv_iload_n hx hb dX2_doErrand_71 rfl (lv_at hl 3 rfl) ?_
    refine q_ci1 (i := 10) (ws' := wX z ol sn hs (g_brew T u (nI t)) S Y G len P ch) (va_runV (rm := { frames := 0, cells := 0, slots := 0, locals := 0 }) (As := [.int (nI u), .int (nI t)]) (rest := []) ⟨hx, hb, hml, hown, hts⟩ (m1_brewInto l D z.cI (z.ad 0) (z.rd 0) u T (nI t) hu3 (wX_ne hD)) (cwV 2 hts gX2_doErrand_X1_brewInto rfl rfl rfl (by decide +kernel) ⟨Nat.le_of_ble_eq_true rfl, Nat.le_of_ble_eq_true rfl⟩) (q_pV (ci := 1) (q0 := 0) (hP.sub (ws' := wT (z.ad 0) (z.rd 0) z.cI T) [1, 10] rfl) (hK.sub [0] rfl) rfl rfl) rfl rfl hl.1 rfl (lv_room (Nat.le_of_ble_eq_true rfl)) dX2_doErrand_72 ⟨Nat.le_of_ble_eq_true rfl, Nat.le_of_ble_eq_true rfl⟩) hP hD hS rfl (AX_i 10 rfl) rfl (fun x3 H locs e3 hP hD hS => ?_)
    obtain ⟨f3, hf3⟩ : ∃ z, z = g_brew T u (nI t) := ⟨_, rfl⟩
    rw [← hf3] at hP hD
    have e3 : x3 = g_brew T u (nI t) (75 + u) := e3
    refine lv_pop hx hb dX2_doErrand_75 rfl ?_
    refine lv_iconst (v := nI 1) hx hb dX2_doErrand_76 (by decide) ?_
    have heo : e_ok T 98 u t = true := decide_eq_true (by have h9 := c2; rw [e1] at h9; exact hr_t h9)
    subst hf3
    refine hret _ _ _ _ _ rfl ?_ (by rw [heo]; exact hP) hS dX2_doErrand_77
    rw [heo]
    rfl
  ·
    refine lv_iconst (v := nI 0) hx hb dX2_doErrand_64 (by decide) ?_
    have heo : e_ok T 98 u t = false := decide_eq_false (by have h9 := c2; rw [e1] at h9; exact hr_f h9)
    refine hret _ _ _ _ _ rfl ?_ (by rw [heo]; exact hP) hS dX2_doErrand_65
    rw [heo]
    rfl
set_option maxHeartbeats 4000000 in
set_option maxRecDepth 100000 in
theorem m2_doErrand_112 (l : Launch) (D : va_G) (z : Ad) (ol sn hs : Nat) (T S Y : Nat → Int32) (G : Nat → Nat → Int32) (len : Nat) (P : PS) (ch : Nat → Nat) (B : Nat) (hI : Inv B T) (u t : Nat) (hB : B + 1600 < 2000000000) (hu3 : u < 3) (hD : va_D (fun _ => True) (wX z ol sn hs T S Y G len P ch)) : q_I l yX2_doErrand wsX2_doErrand { frames := 5, cells := 0, slots := 0, locals := 118 } [.ref (z.o), .int (nI 112), .int (nI u), .int (nI t)] (q_bp D (wX z ol sn hs T S Y G len P ch) (tyX z)) (fun v => v = p_b (e_ok T 112 u t)) (fun H => va_P D vwCl (wX z ol sn hs (if e_ok T 112 u t then e_do T 112 u t else T) S Y G len P ch) H) (AX z) 0 0 := by
  refine q_goI (cc := cX2_doErrand) (maxL := 4) (ty := .boolean) (lv0 := [(0, .ref (z.o)), (1, .int (nI 112)), (2, .int (nI u)), (3, .int (nI t))]) (by decide) rfl (Nat.le_of_ble_eq_true rfl) rfl ?_
  intro p e s m args below meth c Q ls hx hb hml hts hown hP hK hl hret
  have hi2 : ∀ w ∈ wsX20, w ∈ wsX2_doErrand := by decide +kernel
  have hfl12 := hts (.fieldLink RX2 12 "WhisperedPots" "table" "LWhisperedPots$Table;") (by decide +kernel)
  have hS : va_S (AX z) s.heap s.heap [] := va_S.rf
  refine lv_iload_n hx hb dX2_doErrand_0 rfl (lv_at hl 1 rfl) ?_
  refine lv_lookup (off := 77) (tgt := 78) hx hb dX2_doErrand_1 (by decide) (by decide +kernel) (by decide) ?_
  refine lv_aload_n hx hb dX2_doErrand_78 rfl (lv_at hl 0 rfl) ?_
  refine va_get (D := D) (ci := 2) (v := .ref (z.ad 0)) (C := RX2) (T := TX2) (N := 8) hx hb hts hi2 hown hK hP 0 rfl rfl 0 (by decide) hfl12 (fun _ h9 => h9) rfl dX2_doErrand_79 ?_
  refine lv_iload_n hx hb dX2_doErrand_82 rfl (lv_at hl 2 rfl) ?_
  refine q_ciR (va_runV (rm := { frames := 1, cells := 0, slots := 0, locals := 21 }) (As := [.int (nI u)]) (rest := []) ⟨hx, hb, hml, hown, hts⟩ (m1_whyNotPour l D z.cI (z.ad 0) (z.rd 0) u T hu3 (hI.ok1 hu3)) (cwV 1 hts gX2_doErrand_X1_whyNotPour rfl rfl rfl (by decide +kernel) ⟨Nat.le_of_ble_eq_true rfl, Nat.le_of_ble_eq_true rfl⟩) (q_pV (ci := 1) (q0 := 0) (hP.sub (ws' := wT (z.ad 0) (z.rd 0) z.cI T) [1, 10] rfl) (hK.sub [0] rfl) rfl rfl) rfl rfl hl.1 rfl (lv_room (Nat.le_of_ble_eq_true rfl)) dX2_doErrand_83 ⟨Nat.le_of_ble_eq_true rfl, Nat.le_of_ble_eq_true rfl⟩) hP hS (fun x1 H locs e1 hP hS => ?_)
  have e1 : x1 = g_wy T u := e1
  refine lv_if_eq (tgt := 91) hx hb dX2_doErrand_86 (by decide) (fun c2 => ?_) (fun c2 => ?_)
  ·
    refine lv_aload_n hx hb dX2_doErrand_91 rfl (lv_at hl 0 rfl) ?_
    refine va_get (D := D) (ci := 2) (v := .ref (z.ad 0)) (C := RX2) (T := TX2) (N := 8) hx hb hts hi2 hown hK hP 0 rfl rfl 0 (by decide) hfl12 (fun _ h9 => h9) rfl dX2_doErrand_92 ?_
    refine lv_iload_n hx hb dX2_doErrand_95 rfl (lv_at hl 2 rfl) ?_
    refine q_ci1 (i := 10) (ws' := wX z ol sn hs (g_pour T u) S Y G len P ch) (va_runV (rm := { frames := 3, cells := 0, slots := 0, locals := 69 }) (As := [.int (nI u)]) (rest := []) ⟨hx, hb, hml, hown, hts⟩ (m1_pourFrom l D z.cI (z.ad 0) (z.rd 0) u T hu3 (hI.ok1 hu3) (wX_ne hD)) (cwV 1 hts gX2_doErrand_X1_pourFrom rfl rfl rfl (by decide +kernel) ⟨Nat.le_of_ble_eq_true rfl, Nat.le_of_ble_eq_true rfl⟩) (q_pV (ci := 1) (q0 := 0) (hP.sub (ws' := wT (z.ad 0) (z.rd 0) z.cI T) [1, 10] rfl) (hK.sub [0] rfl) rfl rfl) rfl rfl hl.1 rfl (lv_room (Nat.le_of_ble_eq_true rfl)) dX2_doErrand_96 ⟨Nat.le_of_ble_eq_true rfl, Nat.le_of_ble_eq_true rfl⟩) hP hD hS rfl (AX_i 10 rfl) rfl (fun x3 H locs e3 hP hD hS => ?_)
    obtain ⟨f3, hf3⟩ : ∃ z, z = g_pour T u := ⟨_, rfl⟩
    rw [← hf3] at hP hD
    have e3 : x3 = g_ov T u := e3
    refine lv_pop hx hb dX2_doErrand_99 rfl ?_
    refine lv_iconst (v := nI 1) hx hb dX2_doErrand_100 (by decide) ?_
    have heo : e_ok T 112 u t = true := decide_eq_true (by rw [← e1]; exact c2)
    subst hf3
    refine hret _ _ _ _ _ rfl ?_ (by rw [heo]; exact hP) hS dX2_doErrand_101
    rw [heo]
    rfl
  ·
    refine lv_iconst (v := nI 0) hx hb dX2_doErrand_89 (by decide) ?_
    have heo : e_ok T 112 u t = false := decide_eq_false (by rw [← e1]; exact c2)
    refine hret _ _ _ _ _ rfl ?_ (by rw [heo]; exact hP) hS dX2_doErrand_90
    rw [heo]
    rfl
set_option maxHeartbeats 4000000 in
set_option maxRecDepth 100000 in
theorem m2_doErrand_110 (l : Launch) (D : va_G) (z : Ad) (ol sn hs : Nat) (T S Y : Nat → Int32) (G : Nat → Nat → Int32) (len : Nat) (P : PS) (ch : Nat → Nat) (B : Nat) (hI : Inv B T) (u t : Nat) (hB : B + 1600 < 2000000000) (hu3 : u < 3) (hD : va_D (fun _ => True) (wX z ol sn hs T S Y G len P ch)) : q_I l yX2_doErrand wsX2_doErrand { frames := 5, cells := 0, slots := 0, locals := 118 } [.ref (z.o), .int (nI 110), .int (nI u), .int (nI t)] (q_bp D (wX z ol sn hs T S Y G len P ch) (tyX z)) (fun v => v = p_b (e_ok T 110 u t)) (fun H => va_P D vwCl (wX z ol sn hs (if e_ok T 110 u t then e_do T 110 u t else T) S Y G len P ch) H) (AX z) 0 0 := by
  refine q_goI (cc := cX2_doErrand) (maxL := 4) (ty := .boolean) (lv0 := [(0, .ref (z.o)), (1, .int (nI 110)), (2, .int (nI u)), (3, .int (nI t))]) (by decide) rfl (Nat.le_of_ble_eq_true rfl) rfl ?_
  intro p e s m args below meth c Q ls hx hb hml hts hown hP hK hl hret
  have hi2 : ∀ w ∈ wsX20, w ∈ wsX2_doErrand := by decide +kernel
  have hfl12 := hts (.fieldLink RX2 12 "WhisperedPots" "table" "LWhisperedPots$Table;") (by decide +kernel)
  have hS : va_S (AX z) s.heap s.heap [] := va_S.rf
  refine lv_iload_n hx hb dX2_doErrand_0 rfl (lv_at hl 1 rfl) ?_
  refine lv_lookup (off := 101) (tgt := 102) hx hb dX2_doErrand_1 (by decide) (by decide +kernel) (by decide) ?_
  refine lv_aload_n hx hb dX2_doErrand_102 rfl (lv_at hl 0 rfl) ?_
  refine va_get (D := D) (ci := 2) (v := .ref (z.ad 0)) (C := RX2) (T := TX2) (N := 8) hx hb hts hi2 hown hK hP 0 rfl rfl 0 (by decide) hfl12 (fun _ h9 => h9) rfl dX2_doErrand_103 ?_
  refine lv_iload_n hx hb dX2_doErrand_106 rfl (lv_at hl 2 rfl) ?_
  refine lv_iconst (v := nI 1) hx hb dX2_doErrand_107 (by decide) ?_
  refine q_ci1 (i := 10) (ws' := wX z ol sn hs (g_hand T u 1) S Y G len P ch) (va_runV (rm := { frames := 2, cells := 0, slots := 0, locals := 44 }) (As := [.int (nI u), .int (nI 1)]) (rest := []) ⟨hx, hb, hml, hown, hts⟩ (m1_handOn l D z.cI (z.ad 0) (z.rd 0) u 1 T hu3 (hI.ok1 hu3) (hI.ok2 hu3) (by decide) (wX_ne hD)) (cwV 2 hts gX2_doErrand_X1_handOn rfl rfl rfl (by decide +kernel) ⟨Nat.le_of_ble_eq_true rfl, Nat.le_of_ble_eq_true rfl⟩) (q_pV (ci := 1) (q0 := 0) (hP.sub (ws' := wT (z.ad 0) (z.rd 0) z.cI T) [1, 10] rfl) (hK.sub [0] rfl) rfl rfl) rfl rfl hl.1 rfl (lv_room (Nat.le_of_ble_eq_true rfl)) dX2_doErrand_108 ⟨Nat.le_of_ble_eq_true rfl, Nat.le_of_ble_eq_true rfl⟩) hP hD hS rfl (AX_i 10 rfl) rfl (fun x1 H locs e1 hP hD hS => ?_)
  obtain ⟨f1, hf1⟩ : ∃ z, z = g_hand T u 1 := ⟨_, rfl⟩
  rw [← hf1] at hP hD
  have e1 : x1 = nI ((hN T u + 1) % 8) := e1
  refine lv_pop hx hb dX2_doErrand_111 rfl ?_
  refine lv_iconst (v := nI 1) hx hb dX2_doErrand_112 (by decide) ?_
  have heo : e_ok T 110 u t = true := rfl
  subst hf1
  refine hret _ _ _ _ _ rfl ?_ (by rw [heo]; exact hP) hS dX2_doErrand_113
  rw [heo]
  rfl
set_option maxHeartbeats 4000000 in
set_option maxRecDepth 100000 in
theorem m2_doErrand_108 (l : Launch) (D : va_G) (z : Ad) (ol sn hs : Nat) (T S Y : Nat → Int32) (G : Nat → Nat → Int32) (len : Nat) (P : PS) (ch : Nat → Nat) (B : Nat) (hI : Inv B T) (u t : Nat) (hB : B + 1600 < 2000000000) (hu3 : u < 3) (hD : va_D (fun _ => True) (wX z ol sn hs T S Y G len P ch)) : q_I l yX2_doErrand wsX2_doErrand { frames := 5, cells := 0, slots := 0, locals := 118 } [.ref (z.o), .int (nI 108), .int (nI u), .int (nI t)] (q_bp D (wX z ol sn hs T S Y G len P ch) (tyX z)) (fun v => v = p_b (e_ok T 108 u t)) (fun H => va_P D vwCl (wX z ol sn hs (if e_ok T 108 u t then e_do T 108 u t else T) S Y G len P ch) H) (AX z) 0 0 := by
  refine q_goI (cc := cX2_doErrand) (maxL := 4) (ty := .boolean) (lv0 := [(0, .ref (z.o)), (1, .int (nI 108)), (2, .int (nI u)), (3, .int (nI t))]) (by decide) rfl (Nat.le_of_ble_eq_true rfl) rfl ?_
  intro p e s m args below meth c Q ls hx hb hml hts hown hP hK hl hret
  have hi2 : ∀ w ∈ wsX20, w ∈ wsX2_doErrand := by decide +kernel
  have hfl12 := hts (.fieldLink RX2 12 "WhisperedPots" "table" "LWhisperedPots$Table;") (by decide +kernel)
  have hS : va_S (AX z) s.heap s.heap [] := va_S.rf
  refine lv_iload_n hx hb dX2_doErrand_0 rfl (lv_at hl 1 rfl) ?_
  refine lv_lookup (off := 113) (tgt := 114) hx hb dX2_doErrand_1 (by decide) (by decide +kernel) (by decide) ?_
  refine lv_aload_n hx hb dX2_doErrand_114 rfl (lv_at hl 0 rfl) ?_
  refine va_get (D := D) (ci := 2) (v := .ref (z.ad 0)) (C := RX2) (T := TX2) (N := 8) hx hb hts hi2 hown hK hP 0 rfl rfl 0 (by decide) hfl12 (fun _ h9 => h9) rfl dX2_doErrand_115 ?_
  refine lv_iload_n hx hb dX2_doErrand_118 rfl (lv_at hl 2 rfl) ?_
  refine lv_bipush (v := nI 7) hx hb dX2_doErrand_119 (by decide) ?_
  refine q_ci1 (i := 10) (ws' := wX z ol sn hs (g_hand T u 7) S Y G len P ch) (va_runV (rm := { frames := 2, cells := 0, slots := 0, locals := 44 }) (As := [.int (nI u), .int (nI 7)]) (rest := []) ⟨hx, hb, hml, hown, hts⟩ (m1_handOn l D z.cI (z.ad 0) (z.rd 0) u 7 T hu3 (hI.ok1 hu3) (hI.ok2 hu3) (by decide) (wX_ne hD)) (cwV 2 hts gX2_doErrand_X1_handOn rfl rfl rfl (by decide +kernel) ⟨Nat.le_of_ble_eq_true rfl, Nat.le_of_ble_eq_true rfl⟩) (q_pV (ci := 1) (q0 := 0) (hP.sub (ws' := wT (z.ad 0) (z.rd 0) z.cI T) [1, 10] rfl) (hK.sub [0] rfl) rfl rfl) rfl rfl hl.1 rfl (lv_room (Nat.le_of_ble_eq_true rfl)) dX2_doErrand_121 ⟨Nat.le_of_ble_eq_true rfl, Nat.le_of_ble_eq_true rfl⟩) hP hD hS rfl (AX_i 10 rfl) rfl (fun x1 H locs e1 hP hD hS => ?_)
  obtain ⟨f1, hf1⟩ : ∃ z, z = g_hand T u 7 := ⟨_, rfl⟩
  rw [← hf1] at hP hD
  have e1 : x1 = nI ((hN T u + 7) % 8) := e1
  refine lv_pop hx hb dX2_doErrand_124 rfl ?_
  refine lv_iconst (v := nI 1) hx hb dX2_doErrand_125 (by decide) ?_
  have heo : e_ok T 108 u t = true := rfl
  subst hf1
  refine hret _ _ _ _ _ rfl ?_ (by rw [heo]; exact hP) hS dX2_doErrand_126
  rw [heo]
  rfl
set_option maxHeartbeats 4000000 in
set_option maxRecDepth 100000 in
theorem m2_doErrand_114 (l : Launch) (D : va_G) (z : Ad) (ol sn hs : Nat) (T S Y : Nat → Int32) (G : Nat → Nat → Int32) (len : Nat) (P : PS) (ch : Nat → Nat) (B : Nat) (hI : Inv B T) (u t : Nat) (hB : B + 1600 < 2000000000) (hu3 : u < 3) (hD : va_D (fun _ => True) (wX z ol sn hs T S Y G len P ch)) : q_I l yX2_doErrand wsX2_doErrand { frames := 5, cells := 0, slots := 0, locals := 118 } [.ref (z.o), .int (nI 114), .int (nI u), .int (nI t)] (q_bp D (wX z ol sn hs T S Y G len P ch) (tyX z)) (fun v => v = p_b (e_ok T 114 u t)) (fun H => va_P D vwCl (wX z ol sn hs (if e_ok T 114 u t then e_do T 114 u t else T) S Y G len P ch) H) (AX z) 0 0 := by
  refine q_goI (cc := cX2_doErrand) (maxL := 4) (ty := .boolean) (lv0 := [(0, .ref (z.o)), (1, .int (nI 114)), (2, .int (nI u)), (3, .int (nI t))]) (by decide) rfl (Nat.le_of_ble_eq_true rfl) rfl ?_
  intro p e s m args below meth c Q ls hx hb hml hts hown hP hK hl hret
  have hi2 : ∀ w ∈ wsX20, w ∈ wsX2_doErrand := by decide +kernel
  have hfl12 := hts (.fieldLink RX2 12 "WhisperedPots" "table" "LWhisperedPots$Table;") (by decide +kernel)
  have hS : va_S (AX z) s.heap s.heap [] := va_S.rf
  refine lv_iload_n hx hb dX2_doErrand_0 rfl (lv_at hl 1 rfl) ?_
  refine lv_lookup (off := 126) (tgt := 127) hx hb dX2_doErrand_1 (by decide) (by decide +kernel) (by decide) ?_
  refine lv_aload_n hx hb dX2_doErrand_127 rfl (lv_at hl 0 rfl) ?_
  refine va_get (D := D) (ci := 2) (v := .ref (z.ad 0)) (C := RX2) (T := TX2) (N := 8) hx hb hts hi2 hown hK hP 0 rfl rfl 0 (by decide) hfl12 (fun _ h9 => h9) rfl dX2_doErrand_128 ?_
  refine lv_iload_n hx hb dX2_doErrand_131 rfl (lv_at hl 2 rfl) ?_
  refine q_ci1 (i := 10) (ws' := wX z ol sn hs (g_rn 8 T u) S Y G len P ch) (va_runV (rm := { frames := 4, cells := 0, slots := 0, locals := 93 }) (As := [.int (nI u)]) (rest := []) ⟨hx, hb, hml, hown, hts⟩ (m1_goRound l D z.cI (z.ad 0) (z.rd 0) u T hu3 (rn_ok hu3 8 hI (by omega)) (wX_ne hD)) (cwV 1 hts gX2_doErrand_X1_goRound rfl rfl rfl (by decide +kernel) ⟨Nat.le_of_ble_eq_true rfl, Nat.le_of_ble_eq_true rfl⟩) (q_pV (ci := 1) (q0 := 0) (hP.sub (ws' := wT (z.ad 0) (z.rd 0) z.cI T) [1, 10] rfl) (hK.sub [0] rfl) rfl rfl) rfl rfl hl.1 rfl (lv_room (Nat.le_of_ble_eq_true rfl)) dX2_doErrand_132 ⟨Nat.le_of_ble_eq_true rfl, Nat.le_of_ble_eq_true rfl⟩) hP hD hS rfl (AX_i 10 rfl) rfl (fun x1 H locs e1 hP hD hS => ?_)
  obtain ⟨f1, hf1⟩ : ∃ z, z = g_rn 8 T u := ⟨_, rfl⟩
  rw [← hf1] at hP hD
  have e1 : x1 = nI (g_rc 8 T u) := e1
  refine lv_pop hx hb dX2_doErrand_135 rfl ?_
  refine lv_iconst (v := nI 1) hx hb dX2_doErrand_136 (by decide) ?_
  have heo : e_ok T 114 u t = true := rfl
  subst hf1
  refine hret _ _ _ _ _ rfl ?_ (by rw [heo]; exact hP) hS dX2_doErrand_137
  rw [heo]
  rfl
set_option maxHeartbeats 4000000 in
set_option maxRecDepth 100000 in
theorem m2_doErrand_115 (l : Launch) (D : va_G) (z : Ad) (ol sn hs : Nat) (T S Y : Nat → Int32) (G : Nat → Nat → Int32) (len : Nat) (P : PS) (ch : Nat → Nat) (B : Nat) (hI : Inv B T) (u t : Nat) (hB : B + 1600 < 2000000000) (hu3 : u < 8) (hD : va_D (fun _ => True) (wX z ol sn hs T S Y G len P ch)) : q_I l yX2_doErrand wsX2_doErrand { frames := 5, cells := 0, slots := 0, locals := 118 } [.ref (z.o), .int (nI 115), .int (nI u), .int (nI t)] (q_bp D (wX z ol sn hs T S Y G len P ch) (tyX z)) (fun v => v = p_b (e_ok T 115 u t)) (fun H => va_P D vwCl (wX z ol sn hs (if e_ok T 115 u t then e_do T 115 u t else T) S Y G len P ch) H) (AX z) 0 0 := by
  refine q_goI (cc := cX2_doErrand) (maxL := 4) (ty := .boolean) (lv0 := [(0, .ref (z.o)), (1, .int (nI 115)), (2, .int (nI u)), (3, .int (nI t))]) (by decide) rfl (Nat.le_of_ble_eq_true rfl) rfl ?_
  intro p e s m args below meth c Q ls hx hb hml hts hown hP hK hl hret
  have hi2 : ∀ w ∈ wsX20, w ∈ wsX2_doErrand := by decide +kernel
  have hfl12 := hts (.fieldLink RX2 12 "WhisperedPots" "table" "LWhisperedPots$Table;") (by decide +kernel)
  have hS : va_S (AX z) s.heap s.heap [] := va_S.rf
  refine lv_iload_n hx hb dX2_doErrand_0 rfl (lv_at hl 1 rfl) ?_
  refine lv_lookup (off := 137) (tgt := 138) hx hb dX2_doErrand_1 (by decide) (by decide +kernel) (by decide) ?_
  refine lv_aload_n hx hb dX2_doErrand_138 rfl (lv_at hl 0 rfl) ?_
  refine va_get (D := D) (ci := 2) (v := .ref (z.ad 0)) (C := RX2) (T := TX2) (N := 8) hx hb hts hi2 hown hK hP 0 rfl rfl 0 (by decide) hfl12 (fun _ h9 => h9) rfl dX2_doErrand_139 ?_
  refine lv_iload_n hx hb dX2_doErrand_142 rfl (lv_at hl 2 rfl) ?_
  refine q_ci1 (i := 10) (ws' := wX z ol sn hs (g_drink T u) S Y G len P ch) (va_runV (rm := { frames := 1, cells := 0, slots := 0, locals := 34 }) (As := [.int (nI u)]) (rest := []) ⟨hx, hb, hml, hown, hts⟩ (m1_drinkFrom l D z.cI (z.ad 0) (z.rd 0) u T hu3 (wX_ne hD)) (cwV 1 hts gX2_doErrand_X1_drinkFrom rfl rfl rfl (by decide +kernel) ⟨Nat.le_of_ble_eq_true rfl, Nat.le_of_ble_eq_true rfl⟩) (q_pV (ci := 1) (q0 := 0) (hP.sub (ws' := wT (z.ad 0) (z.rd 0) z.cI T) [1, 10] rfl) (hK.sub [0] rfl) rfl rfl) rfl rfl hl.1 rfl (lv_room (Nat.le_of_ble_eq_true rfl)) dX2_doErrand_143 ⟨Nat.le_of_ble_eq_true rfl, Nat.le_of_ble_eq_true rfl⟩) hP hD hS rfl (AX_i 10 rfl) rfl (fun x1 H locs e1 hP hD hS => ?_)
  obtain ⟨f1, hf1⟩ : ∃ z, z = g_drink T u := ⟨_, rfl⟩
  rw [← hf1] at hP hD
  have e1 : x1 = g_dr T u := e1
  refine lv_pop hx hb dX2_doErrand_146 rfl ?_
  refine lv_iconst (v := nI 1) hx hb dX2_doErrand_147 (by decide) ?_
  have heo : e_ok T 115 u t = true := rfl
  subst hf1
  refine hret _ _ _ _ _ rfl ?_ (by rw [heo]; exact hP) hS dX2_doErrand_148
  rw [heo]
  rfl
theorem m2_doErrand (l : Launch) (D : va_G) (z : Ad) (ol sn hs : Nat) (T S Y : Nat → Int32) (G : Nat → Nat → Int32) (len : Nat) (P : PS) (ch : Nat → Nat) (B : Nat) (hI : Inv B T) (c u t : Nat) (hB : B + 1600 < 2000000000) (hlt : p_let c = true) (hu : u < p_many c) (ht : c = 98 → 1 ≤ t ∧ t ≤ 200) (hD : va_D (fun _ => True) (wX z ol sn hs T S Y G len P ch)) : q_I l yX2_doErrand wsX2_doErrand { frames := 5, cells := 0, slots := 0, locals := 118 } [.ref z.o, .int (nI c), .int (nI u), .int (nI t)] (q_bp D (wX z ol sn hs T S Y G len P ch) (tyX z)) (fun v => v = p_b (e_ok T c u t)) (fun H => va_P D vwCl (wX z ol sn hs (if e_ok T c u t then e_do T c u t else T) S Y G len P ch) H) (AX z) 0 0 := by
  rcases p_let_s hlt with rfl | rfl | rfl | rfl | rfl | rfl
  · exact m2_doErrand_98 l D z ol sn hs T S Y G len P ch B hI u t hB hu (ht rfl) hD
  · exact m2_doErrand_112 l D z ol sn hs T S Y G len P ch B hI u t hB hu hD
  · exact m2_doErrand_110 l D z ol sn hs T S Y G len P ch B hI u t hB hu hD
  · exact m2_doErrand_108 l D z ol sn hs T S Y G len P ch B hI u t hB hu hD
  · exact m2_doErrand_114 l D z ol sn hs T S Y G len P ch B hI u t hB hu hD
  · exact m2_doErrand_115 l D z ol sn hs T S Y G len P ch B hI u t hB hu hD
