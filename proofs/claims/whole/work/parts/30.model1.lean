set_option maxHeartbeats 4000000 in
set_option maxRecDepth 100000 in
theorem m3_of (l : Launch) (D : va_G) (g w : Nat) (hg : g < 100) (hw : w < 100) : q_I l yX3_of wsX3_of { frames := 0, cells := 0, slots := 0, locals := 0 } [.int (nI g), .int (nI w)] (q_bp D ([]) []) (fun v => v = nI (9 * g + w)) (fun H => True) (fun _ => False) 0 0 := by
  refine q_goI (cc := cX3_of) (maxL := 2) (ty := .int) (lv0 := [(0, .int (nI g)), (1, .int (nI w))]) (by decide) rfl (Nat.le_of_ble_eq_true rfl) rfl ?_
  intro p e s m args below meth c Q ls hx hb hml hts hown hP hK hl hret
  have hS : va_S (fun _ => False) s.heap s.heap [] := va_S.rf
  refine lv_iconst (v := nI 0) hx hb dX3_of_0 (by decide) ?_
  refine lv_bipush (v := nI 9) hx hb dX3_of_1 (by decide) ?_
  refine lv_iload_n hx hb dX3_of_3 rfl (lv_at hl 0 rfl) ?_
  refine q_mulN hx hb (9 * g) (by omega) dX3_of_4 ?_
  refine q_addN hx hb (9 * g) (by omega) dX3_of_5 ?_
  refine lv_iload_n hx hb dX3_of_6 rfl (lv_at hl 1 rfl) ?_
  refine q_addN hx hb (9 * g + w) (by omega) dX3_of_7 ?_
  refine hret _ _ _ _ _ rfl ?_ trivial hS dX3_of_8
  rfl
set_option maxHeartbeats 4000000 in
set_option maxRecDepth 100000 in
theorem m3_ofPot (l : Launch) (D : va_G) (k w : Nat) (hk : k < 100) (hw : w < 100) : q_I l yX3_ofPot wsX3_ofPot { frames := 0, cells := 0, slots := 0, locals := 0 } [.int (nI k), .int (nI w)] (q_bp D ([]) []) (fun v => v = nI (72 + 5 * k + w)) (fun H => True) (fun _ => False) 0 0 := by
  refine q_goI (cc := cX3_ofPot) (maxL := 2) (ty := .int) (lv0 := [(0, .int (nI k)), (1, .int (nI w))]) (by decide) rfl (Nat.le_of_ble_eq_true rfl) rfl ?_
  intro p e s m args below meth c Q ls hx hb hml hts hown hP hK hl hret
  have hS : va_S (fun _ => False) s.heap s.heap [] := va_S.rf
  refine lv_bipush (v := nI 72) hx hb dX3_ofPot_0 (by decide) ?_
  refine lv_iconst (v := nI 5) hx hb dX3_ofPot_2 (by decide) ?_
  refine lv_iload_n hx hb dX3_ofPot_3 rfl (lv_at hl 0 rfl) ?_
  refine q_mulN hx hb (5 * k) (by omega) dX3_ofPot_4 ?_
  refine q_addN hx hb (72 + 5 * k) (by omega) dX3_ofPot_5 ?_
  refine lv_iload_n hx hb dX3_ofPot_6 rfl (lv_at hl 1 rfl) ?_
  refine q_addN hx hb (72 + 5 * k + w) (by omega) dX3_ofPot_7 ?_
  refine hret _ _ _ _ _ rfl ?_ trivial hS dX3_ofPot_8
  rfl
set_option maxHeartbeats 4000000 in
set_option maxRecDepth 100000 in
theorem m3_size (l : Launch) (D : va_G) (x : Int32) : q_I l yX3_size wsX3_size { frames := 0, cells := 0, slots := 0, locals := 0 } [.int x] (q_bp D ([]) []) (fun v => v = (if x < 0 then 0 - x else x)) (fun H => True) (fun _ => False) 0 0 := by
  refine q_goI (cc := cX3_size) (maxL := 1) (ty := .int) (lv0 := [(0, .int x)]) (by decide) rfl (Nat.le_of_ble_eq_true rfl) rfl ?_
  intro p e s m args below meth c Q ls hx hb hml hts hown hP hK hl hret
  have hS : va_S (fun _ => False) s.heap s.heap [] := va_S.rf
  refine lv_iload_n hx hb dX3_size_0 rfl (lv_at hl 0 rfl) ?_
  refine lv_if_ge (tgt := 9) hx hb dX3_size_1 (by decide) (fun c1 => ?_) (fun c1 => ?_)
  ·
    have d1 := q_ge1 c1
    refine lv_iload_n hx hb dX3_size_9 rfl (lv_at hl 0 rfl) ?_
    refine hret _ _ _ _ _ rfl ?_ trivial hS dX3_size_10
    first | (rw [if_neg d1]; done) | (rw [if_pos d1, q_neg]; done)
  ·
    have d1 := q_ge2 c1
    refine lv_iload_n hx hb dX3_size_4 rfl (lv_at hl 0 rfl) ?_
    refine lv_ineg hx hb dX3_size_5 ?_
    refine lv_goto (tgt := 10) hx hb dX3_size_6 (by decide) ?_
    refine hret _ _ _ _ _ rfl ?_ trivial hS dX3_size_10
    first | (rw [if_neg d1]; done) | (rw [if_pos d1, q_neg]; done)
set_option maxHeartbeats 4000000 in
set_option maxRecDepth 100000 in
theorem m3_with (l : Launch) (D : va_G) (cI : ClassId) (o ps k : Nat) (fs : List Value) (f : Nat → Int32) (h1 : fs[1]? = some (.ref ps)) (B : Nat) (hI : Inv B f) (hk : k < 3) : q_I l yX3_with wsX3_with { frames := 1, cells := 0, slots := 0, locals := 21 } [.ref o, .int (nI k)] (q_bp D (wS o ps cI fs f) [(cI, .int)]) (fun v => v = nI (hN f k)) (fun H => True) (fun _ => False) 0 0 := by
  refine q_goI (cc := cX3_with) (maxL := 2) (ty := .int) (lv0 := [(0, .ref o), (1, .int (nI k))]) (by decide) rfl (Nat.le_of_ble_eq_true rfl) rfl ?_
  intro p e s m args below meth c Q ls hx hb hml hts hown hP hK hl hret
  have hi3 : ∀ w ∈ wsX30, w ∈ wsX3_with := by decide +kernel
  have hfl7 := hts (.fieldLink RX3 7 "WhisperedPotsModel" "s" "[I") (by decide +kernel)
  have hS : va_S (fun _ => False) s.heap s.heap [] := va_S.rf
  have hO := hI.ok1 hk
  have h8 := hO.2
  refine lv_aload_n hx hb dX3_with_0 rfl (lv_at hl 0 rfl) ?_
  refine va_get (D := D) (ci := 3) (v := .ref ps) (C := RX3) (T := TX3) (N := 15) hx hb hts hi3 hown hK hP 0 rfl rfl 1 (by decide) hfl7 (fun _ h9 => h9) h1 dX3_with_1 ?_
  refine lv_iload_n hx hb dX3_with_4 rfl (lv_at hl 1 rfl) ?_
  refine lv_iconst (v := nI 0) hx hb dX3_with_5 (by decide) ?_
  refine q_ciR (va_runS (rm := { frames := 0, cells := 0, slots := 0, locals := 0 }) (As := [.int (nI k), .int (nI 0)]) (rest := [.ref ps]) ⟨hx, hb, hml, hown, hts⟩ (m3_ofPot l D k 0 (by omega) (by omega)) (va_cwS 2 hts gX3_with_X3_ofPot rfl rfl rfl (by decide +kernel) ⟨Nat.le_of_ble_eq_true rfl, Nat.le_of_ble_eq_true rfl⟩) (q_pS (hP.sub [] rfl) (hK.sub [] rfl)) rfl rfl hl.1 rfl (lv_room (Nat.le_of_ble_eq_true rfl)) dX3_with_6 ⟨Nat.le_of_ble_eq_true rfl, Nat.le_of_ble_eq_true rfl⟩) hP hS (fun x1 H locs e1 hP hS => ?_)
  have e1 : x1 = (nI (72 + 5 * k)) := Eq.trans e1 (congrArg nI (by omega))
  subst e1
  refine q_ld hx hb hK hP 1 0 rfl rfl (j := (72 + 5 * k)) (v := (nI ((hN f k)))) (by omega) (by omega) ((rr_at (pm_p0 (by omega))).trans hO.1) dX3_with_9 ?_
  refine hret _ _ _ _ _ rfl ?_ trivial hS dX3_with_10
  rfl
set_option maxHeartbeats 4000000 in
set_option maxRecDepth 100000 in
theorem m3_weight (l : Launch) (D : va_G) (cI : ClassId) (o ps k : Nat) (fs : List Value) (f : Nat → Int32) (h1 : fs[1]? = some (.ref ps)) (hk : k < 3) : q_I l yX3_weight wsX3_weight { frames := 1, cells := 0, slots := 0, locals := 21 } [.ref o, .int (nI k)] (q_bp D (wS o ps cI fs f) [(cI, .int)]) (fun v => v = g_wt f k) (fun H => True) (fun _ => False) 0 0 := by
  refine q_goI (cc := cX3_weight) (maxL := 2) (ty := .int) (lv0 := [(0, .ref o), (1, .int (nI k))]) (by decide) rfl (Nat.le_of_ble_eq_true rfl) rfl ?_
  intro p e s m args below meth c Q ls hx hb hml hts hown hP hK hl hret
  have hi3 : ∀ w ∈ wsX30, w ∈ wsX3_weight := by decide +kernel
  have hfl7 := hts (.fieldLink RX3 7 "WhisperedPotsModel" "s" "[I") (by decide +kernel)
  have hS : va_S (fun _ => False) s.heap s.heap [] := va_S.rf
  refine lv_aload_n hx hb dX3_weight_0 rfl (lv_at hl 0 rfl) ?_
  refine va_get (D := D) (ci := 3) (v := .ref ps) (C := RX3) (T := TX3) (N := 15) hx hb hts hi3 hown hK hP 0 rfl rfl 1 (by decide) hfl7 (fun _ h9 => h9) h1 dX3_weight_1 ?_
  refine lv_iload_n hx hb dX3_weight_4 rfl (lv_at hl 1 rfl) ?_
  refine lv_iconst (v := nI 1) hx hb dX3_weight_5 (by decide) ?_
  refine q_ciR (va_runS (rm := { frames := 0, cells := 0, slots := 0, locals := 0 }) (As := [.int (nI k), .int (nI 1)]) (rest := [.ref ps]) ⟨hx, hb, hml, hown, hts⟩ (m3_ofPot l D k 1 (by omega) (by omega)) (va_cwS 2 hts gX3_weight_X3_ofPot rfl rfl rfl (by decide +kernel) ⟨Nat.le_of_ble_eq_true rfl, Nat.le_of_ble_eq_true rfl⟩) (q_pS (hP.sub [] rfl) (hK.sub [] rfl)) rfl rfl hl.1 rfl (lv_room (Nat.le_of_ble_eq_true rfl)) dX3_weight_6 ⟨Nat.le_of_ble_eq_true rfl, Nat.le_of_ble_eq_true rfl⟩) hP hS (fun x1 H locs e1 hP hS => ?_)
  have e1 : x1 = (nI (73 + 5 * k)) := Eq.trans e1 (congrArg nI (by omega))
  subst e1
  refine q_ld hx hb hK hP 1 0 rfl rfl (j := (73 + 5 * k)) (v := f (75 + k)) (by omega) (by omega) (rr_at (pm_p1 (by omega))) dX3_weight_9 ?_
  refine lv_bipush (v := nI 20) hx hb dX3_weight_10 (by decide) ?_
  refine lv_idiv hx hb dX3_weight_12 (by first | decide | assumption) ?_
  refine lv_bipush (v := nI 20) hx hb dX3_weight_13 (by decide) ?_
  refine lv_imul hx hb dX3_weight_15 ?_
  refine hret _ _ _ _ _ rfl ?_ trivial hS dX3_weight_16
  unfold g_wt
  rw [q_ss]
set_option maxHeartbeats 4000000 in
set_option maxRecDepth 100000 in
theorem m3_guess (l : Launch) (D : va_G) (cI : ClassId) (o ps k : Nat) (fs : List Value) (f : Nat → Int32) (h1 : fs[1]? = some (.ref ps)) (B : Nat) (hI : Inv B f) (hk : k < 3) : q_I l yX3_guess wsX3_guess { frames := 2, cells := 0, slots := 0, locals := 42 } [.ref o, .int (nI k)] (q_bp D (wS o ps cI fs f) [(cI, .int)]) (fun v => v = g_gs f k) (fun H => True) (fun _ => False) 0 0 := by
  refine q_goI (cc := cX3_guess) (maxL := 3) (ty := .int) (lv0 := [(0, .ref o), (1, .int (nI k))]) (by decide) rfl (Nat.le_of_ble_eq_true rfl) rfl ?_
  intro p e s m args below meth c Q ls hx hb hml hts hown hP hK hl hret
  have hi3 : ∀ w ∈ wsX30, w ∈ wsX3_guess := by decide +kernel
  have hfl7 := hts (.fieldLink RX3 7 "WhisperedPotsModel" "s" "[I") (by decide +kernel)
  have hS : va_S (fun _ => False) s.heap s.heap [] := va_S.rf
  have hO := hI.ok1 hk
  have h8 := hO.2
  refine lv_aload_n hx hb dX3_guess_0 rfl (lv_at hl 0 rfl) ?_
  refine va_get (D := D) (ci := 3) (v := .ref ps) (C := RX3) (T := TX3) (N := 15) hx hb hts hi3 hown hK hP 0 rfl rfl 1 (by decide) hfl7 (fun _ h9 => h9) h1 dX3_guess_1 ?_
  refine lv_aload_n hx hb dX3_guess_4 rfl (lv_at hl 0 rfl) ?_
  refine lv_iload_n hx hb dX3_guess_5 rfl (lv_at hl 1 rfl) ?_
  refine q_ciR (va_runV (rm := { frames := 1, cells := 0, slots := 0, locals := 21 }) (As := [.int (nI k)]) (rest := [.ref ps]) ⟨hx, hb, hml, hown, hts⟩ (m3_with l D cI o ps k fs f h1 B hI hk) (cwV 1 hts gX3_guess_X3_with rfl rfl rfl (by decide +kernel) ⟨Nat.le_of_ble_eq_true rfl, Nat.le_of_ble_eq_true rfl⟩) (q_pV (ci := 3) (q0 := 0) hP hK rfl rfl) rfl rfl hl.1 rfl (lv_room (Nat.le_of_ble_eq_true rfl)) dX3_guess_6 ⟨Nat.le_of_ble_eq_true rfl, Nat.le_of_ble_eq_true rfl⟩) hP hS (fun x1 H locs e1 hP hS => ?_)
  have e1 : x1 = (nI ((hN f k))) := Eq.trans e1 (congrArg nI (by omega))
  subst e1
  refine lv_iconst (v := nI 3) hx hb dX3_guess_9 (by decide) ?_
  refine q_ciR (va_runS (rm := { frames := 0, cells := 0, slots := 0, locals := 0 }) (As := [.int (nI ((hN f k))), .int (nI 3)]) (rest := [.ref ps]) ⟨hx, hb, hml, hown, hts⟩ (m3_of l D ((hN f k)) 3 (by omega) (by omega)) (va_cwS 2 hts gX3_guess_X3_of rfl rfl rfl (by decide +kernel) ⟨Nat.le_of_ble_eq_true rfl, Nat.le_of_ble_eq_true rfl⟩) (q_pS (hP.sub [] rfl) (hK.sub [] rfl)) rfl rfl hl.1 rfl (lv_room (Nat.le_of_ble_eq_true rfl)) dX3_guess_10 ⟨Nat.le_of_ble_eq_true rfl, Nat.le_of_ble_eq_true rfl⟩) hP hS (fun x2 H locs e2 hP hS => ?_)
  have e2 : x2 = (nI (3 + 9 * (hN f k))) := Eq.trans e2 (congrArg nI (by omega))
  subst e2
  refine q_ld hx hb hK hP 1 0 rfl rfl (j := (3 + 9 * (hN f k))) (v := f (24 + (hN f k))) (by omega) (by omega) (rr_at (pm_g3 (by omega))) dX3_guess_13 ?_
  refine lv_topi (fun x3 e3 => ?_)
  refine lv_istore_n (lv' := [(2, .int x3), (0, .ref o), (1, .int (nI k))]) hx hb dX3_guess_14 rfl hl (by decide) rfl (fun ls hl => ?_)
  refine lv_aload_n hx hb dX3_guess_15 rfl (lv_at hl 1 rfl) ?_
  refine va_get (D := D) (ci := 3) (v := .ref ps) (C := RX3) (T := TX3) (N := 15) hx hb hts hi3 hown hK hP 0 rfl rfl 1 (by decide) hfl7 (fun _ h9 => h9) h1 dX3_guess_16 ?_
  refine lv_iload_n hx hb dX3_guess_19 rfl (lv_at hl 2 rfl) ?_
  refine lv_iconst (v := nI 2) hx hb dX3_guess_20 (by decide) ?_
  refine q_ciR (va_runS (rm := { frames := 0, cells := 0, slots := 0, locals := 0 }) (As := [.int (nI k), .int (nI 2)]) (rest := [.ref ps]) ⟨hx, hb, hml, hown, hts⟩ (m3_ofPot l D k 2 (by omega) (by omega)) (va_cwS 2 hts gX3_guess_X3_ofPot rfl rfl rfl (by decide +kernel) ⟨Nat.le_of_ble_eq_true rfl, Nat.le_of_ble_eq_true rfl⟩) (q_pS (hP.sub [] rfl) (hK.sub [] rfl)) rfl rfl hl.1 rfl (lv_room (Nat.le_of_ble_eq_true rfl)) dX3_guess_21 ⟨Nat.le_of_ble_eq_true rfl, Nat.le_of_ble_eq_true rfl⟩) hP hS (fun x4 H locs e4 hP hS => ?_)
  have e4 : x4 = (nI (74 + 5 * k)) := Eq.trans e4 (congrArg nI (by omega))
  subst e4
  refine q_ld hx hb hK hP 1 0 rfl rfl (j := (74 + 5 * k)) (v := f (78 + k)) (by omega) (by omega) (rr_at (pm_p2 (by omega))) dX3_guess_24 ?_
  refine lv_iload_n hx hb dX3_guess_25 rfl (lv_at hl 0 rfl) ?_
  refine lv_imul hx hb dX3_guess_26 ?_
  refine lv_aload_n hx hb dX3_guess_27 rfl (lv_at hl 1 rfl) ?_
  refine lv_iload_n hx hb dX3_guess_28 rfl (lv_at hl 2 rfl) ?_
  refine q_ciR (va_runV (rm := { frames := 1, cells := 0, slots := 0, locals := 21 }) (As := [.int (nI k)]) (rest := [.int ((f (78 + k)) * x3)]) ⟨hx, hb, hml, hown, hts⟩ (m3_weight l D cI o ps k fs f h1 hk) (cwV 1 hts gX3_guess_X3_weight rfl rfl rfl (by decide +kernel) ⟨Nat.le_of_ble_eq_true rfl, Nat.le_of_ble_eq_true rfl⟩) (q_pV (ci := 3) (q0 := 0) hP hK rfl rfl) rfl rfl hl.1 rfl (lv_room (Nat.le_of_ble_eq_true rfl)) dX3_guess_29 ⟨Nat.le_of_ble_eq_true rfl, Nat.le_of_ble_eq_true rfl⟩) hP hS (fun x5 H locs e5 hP hS => ?_)
  have e5 : x5 = g_wt f k := e5
  refine lv_bipush (v := nI 10) hx hb dX3_guess_32 (by decide) ?_
  refine lv_iload_n hx hb dX3_guess_34 rfl (lv_at hl 0 rfl) ?_
  refine lv_isub hx hb dX3_guess_35 ?_
  refine lv_imul hx hb dX3_guess_36 ?_
  refine lv_iadd hx hb dX3_guess_37 ?_
  refine lv_bipush (v := nI 10) hx hb dX3_guess_38 (by decide) ?_
  refine lv_idiv hx hb dX3_guess_40 (by first | decide | assumption) ?_
  refine hret _ _ _ _ _ rfl ?_ trivial hS dX3_guess_41
  subst e5 e3
  rfl
set_option maxHeartbeats 4000000 in
set_option maxRecDepth 100000 in
theorem m3_room (l : Launch) (D : va_G) (cI : ClassId) (o ps g : Nat) (fs : List Value) (f : Nat → Int32) (h1 : fs[1]? = some (.ref ps)) (hg : g < 8) : q_I l yX3_room wsX3_room { frames := 1, cells := 0, slots := 0, locals := 21 } [.ref o, .int (nI g)] (q_bp D (wS o ps cI fs f) [(cI, .int)]) (fun v => v = g_rm f g) (fun H => True) (fun _ => False) 0 0 := by
  refine q_goI (cc := cX3_room) (maxL := 2) (ty := .int) (lv0 := [(0, .ref o), (1, .int (nI g))]) (by decide) rfl (Nat.le_of_ble_eq_true rfl) rfl ?_
  intro p e s m args below meth c Q ls hx hb hml hts hown hP hK hl hret
  have hi3 : ∀ w ∈ wsX30, w ∈ wsX3_room := by decide +kernel
  have hfl7 := hts (.fieldLink RX3 7 "WhisperedPotsModel" "s" "[I") (by decide +kernel)
  have hS : va_S (fun _ => False) s.heap s.heap [] := va_S.rf
  refine lv_aload_n hx hb dX3_room_0 rfl (lv_at hl 0 rfl) ?_
  refine va_get (D := D) (ci := 3) (v := .ref ps) (C := RX3) (T := TX3) (N := 15) hx hb hts hi3 hown hK hP 0 rfl rfl 1 (by decide) hfl7 (fun _ h9 => h9) h1 dX3_room_1 ?_
  refine lv_iload_n hx hb dX3_room_4 rfl (lv_at hl 1 rfl) ?_
  refine lv_iconst (v := nI 0) hx hb dX3_room_5 (by decide) ?_
  refine q_ciR (va_runS (rm := { frames := 0, cells := 0, slots := 0, locals := 0 }) (As := [.int (nI g), .int (nI 0)]) (rest := [.ref ps]) ⟨hx, hb, hml, hown, hts⟩ (m3_of l D g 0 (by omega) (by omega)) (va_cwS 2 hts gX3_room_X3_of rfl rfl rfl (by decide +kernel) ⟨Nat.le_of_ble_eq_true rfl, Nat.le_of_ble_eq_true rfl⟩) (q_pS (hP.sub [] rfl) (hK.sub [] rfl)) rfl rfl hl.1 rfl (lv_room (Nat.le_of_ble_eq_true rfl)) dX3_room_6 ⟨Nat.le_of_ble_eq_true rfl, Nat.le_of_ble_eq_true rfl⟩) hP hS (fun x1 H locs e1 hP hS => ?_)
  have e1 : x1 = (nI (9 * g)) := Eq.trans e1 (congrArg nI (by omega))
  subst e1
  refine q_ld hx hb hK hP 1 0 rfl rfl (j := (9 * g)) (v := f g) (by omega) (by omega) (rr_at (pm_g0 (by omega))) dX3_room_9 ?_
  refine lv_aload_n hx hb dX3_room_10 rfl (lv_at hl 0 rfl) ?_
  refine va_get (D := D) (ci := 3) (v := .ref ps) (C := RX3) (T := TX3) (N := 15) hx hb hts hi3 hown hK hP 0 rfl rfl 1 (by decide) hfl7 (fun _ h9 => h9) h1 dX3_room_11 ?_
  refine lv_iload_n hx hb dX3_room_14 rfl (lv_at hl 1 rfl) ?_
  refine lv_iconst (v := nI 1) hx hb dX3_room_15 (by decide) ?_
  refine q_ciR (va_runS (rm := { frames := 0, cells := 0, slots := 0, locals := 0 }) (As := [.int (nI g), .int (nI 1)]) (rest := [.ref ps, .int (f g)]) ⟨hx, hb, hml, hown, hts⟩ (m3_of l D g 1 (by omega) (by omega)) (va_cwS 2 hts gX3_room_X3_of rfl rfl rfl (by decide +kernel) ⟨Nat.le_of_ble_eq_true rfl, Nat.le_of_ble_eq_true rfl⟩) (q_pS (hP.sub [] rfl) (hK.sub [] rfl)) rfl rfl hl.1 rfl (lv_room (Nat.le_of_ble_eq_true rfl)) dX3_room_16 ⟨Nat.le_of_ble_eq_true rfl, Nat.le_of_ble_eq_true rfl⟩) hP hS (fun x2 H locs e2 hP hS => ?_)
  have e2 : x2 = (nI (1 + 9 * g)) := Eq.trans e2 (congrArg nI (by omega))
  subst e2
  refine q_ld hx hb hK hP 1 0 rfl rfl (j := (1 + 9 * g)) (v := f (8 + g)) (by omega) (by omega) (rr_at (pm_g1 (by omega))) dX3_room_19 ?_
  refine lv_isub hx hb dX3_room_20 ?_
  refine hret _ _ _ _ _ rfl ?_ trivial hS dX3_room_21
  rfl
set_option maxHeartbeats 4000000 in
set_option maxRecDepth 100000 in
theorem m3_hindrance (l : Launch) (D : va_G) (cI : ClassId) (o ps k : Nat) (fs : List Value) (f : Nat → Int32) (h1 : fs[1]? = some (.ref ps)) (B : Nat) (hI : Inv B f) (hk : k < 3) : q_I l yX3_hindrance wsX3_hindrance { frames := 2, cells := 0, slots := 0, locals := 42 } [.ref o, .int (nI k)] (q_bp D (wS o ps cI fs f) [(cI, .int)]) (fun v => v = g_wy f k) (fun H => True) (fun _ => False) 0 0 := by
  refine q_goI (cc := cX3_hindrance) (maxL := 2) (ty := .int) (lv0 := [(0, .ref o), (1, .int (nI k))]) (by decide) rfl (Nat.le_of_ble_eq_true rfl) rfl ?_
  intro p e s m args below meth c Q ls hx hb hml hts hown hP hK hl hret
  have hi3 : ∀ w ∈ wsX30, w ∈ wsX3_hindrance := by decide +kernel
  have hfl7 := hts (.fieldLink RX3 7 "WhisperedPotsModel" "s" "[I") (by decide +kernel)
  have hS : va_S (fun _ => False) s.heap s.heap [] := va_S.rf
  have hO := hI.ok1 hk
  have h8 := hO.2
  refine lv_aload_n hx hb dX3_hindrance_0 rfl (lv_at hl 0 rfl) ?_
  refine va_get (D := D) (ci := 3) (v := .ref ps) (C := RX3) (T := TX3) (N := 15) hx hb hts hi3 hown hK hP 0 rfl rfl 1 (by decide) hfl7 (fun _ h9 => h9) h1 dX3_hindrance_1 ?_
  refine lv_iload_n hx hb dX3_hindrance_4 rfl (lv_at hl 1 rfl) ?_
  refine lv_iconst (v := nI 1) hx hb dX3_hindrance_5 (by decide) ?_
  refine q_ciR (va_runS (rm := { frames := 0, cells := 0, slots := 0, locals := 0 }) (As := [.int (nI k), .int (nI 1)]) (rest := [.ref ps]) ⟨hx, hb, hml, hown, hts⟩ (m3_ofPot l D k 1 (by omega) (by omega)) (va_cwS 2 hts gX3_hindrance_X3_ofPot rfl rfl rfl (by decide +kernel) ⟨Nat.le_of_ble_eq_true rfl, Nat.le_of_ble_eq_true rfl⟩) (q_pS (hP.sub [] rfl) (hK.sub [] rfl)) rfl rfl hl.1 rfl (lv_room (Nat.le_of_ble_eq_true rfl)) dX3_hindrance_6 ⟨Nat.le_of_ble_eq_true rfl, Nat.le_of_ble_eq_true rfl⟩) hP hS (fun x1 H locs e1 hP hS => ?_)
  have e1 : x1 = (nI (73 + 5 * k)) := Eq.trans e1 (congrArg nI (by omega))
  subst e1
  refine q_ld hx hb hK hP 1 0 rfl rfl (j := (73 + 5 * k)) (v := f (75 + k)) (by omega) (by omega) (rr_at (pm_p1 (by omega))) dX3_hindrance_9 ?_
  refine lv_if_ne (tgt := 17) hx hb dX3_hindrance_10 (by decide) (fun c2 => ?_) (fun c2 => ?_)
  ·
    refine lv_aload_n hx hb dX3_hindrance_17 rfl (lv_at hl 0 rfl) ?_
    refine lv_aload_n hx hb dX3_hindrance_18 rfl (lv_at hl 0 rfl) ?_
    refine lv_iload_n hx hb dX3_hindrance_19 rfl (lv_at hl 1 rfl) ?_
    refine q_ciR (va_runV (rm := { frames := 1, cells := 0, slots := 0, locals := 21 }) (As := [.int (nI k)]) (rest := [.ref o]) ⟨hx, hb, hml, hown, hts⟩ (m3_with l D cI o ps k fs f h1 B hI hk) (cwV 1 hts gX3_hindrance_X3_with rfl rfl rfl (by decide +kernel) ⟨Nat.le_of_ble_eq_true rfl, Nat.le_of_ble_eq_true rfl⟩) (q_pV (ci := 3) (q0 := 0) hP hK rfl rfl) rfl rfl hl.1 rfl (lv_room (Nat.le_of_ble_eq_true rfl)) dX3_hindrance_20 ⟨Nat.le_of_ble_eq_true rfl, Nat.le_of_ble_eq_true rfl⟩) hP hS (fun x3 H locs e3 hP hS => ?_)
    have e3 : x3 = (nI ((hN f k))) := Eq.trans e3 (congrArg nI (by omega))
    subst e3
    refine q_ciR (va_runV (rm := { frames := 1, cells := 0, slots := 0, locals := 21 }) (As := [.int (nI ((hN f k)))]) (rest := []) ⟨hx, hb, hml, hown, hts⟩ (m3_room l D cI o ps ((hN f k)) fs f h1 (by omega)) (cwV 1 hts gX3_hindrance_X3_room rfl rfl rfl (by decide +kernel) ⟨Nat.le_of_ble_eq_true rfl, Nat.le_of_ble_eq_true rfl⟩) (q_pV (ci := 3) (q0 := 0) hP hK rfl rfl) rfl rfl hl.1 rfl (lv_room (Nat.le_of_ble_eq_true rfl)) dX3_hindrance_23 ⟨Nat.le_of_ble_eq_true rfl, Nat.le_of_ble_eq_true rfl⟩) hP hS (fun x4 H locs e4 hP hS => ?_)
    have e4 : x4 = g_rm f ((hN f k)) := e4
    refine lv_if_ne (tgt := 33) hx hb dX3_hindrance_26 (by decide) (fun c5 => ?_) (fun c5 => ?_)
    ·
      refine lv_iconst (v := nI 0) hx hb dX3_hindrance_33 (by decide) ?_
      refine hret _ _ _ _ _ rfl ?_ trivial hS dX3_hindrance_34
      subst e4
      simp only [g_wy, c2, c5, ↓reduceIte]
    ·
      refine lv_iconst (v := nI 2) hx hb dX3_hindrance_29 (by decide) ?_
      refine lv_goto (tgt := 34) hx hb dX3_hindrance_30 (by decide) ?_
      refine hret _ _ _ _ _ rfl ?_ trivial hS dX3_hindrance_34
      subst e4
      simp only [g_wy, c2, c5, ↓reduceIte]
  ·
    refine lv_iconst (v := nI 1) hx hb dX3_hindrance_13 (by decide) ?_
    refine lv_goto (tgt := 34) hx hb dX3_hindrance_14 (by decide) ?_
    refine hret _ _ _ _ _ rfl ?_ trivial hS dX3_hindrance_34
    simp only [g_wy, c2, ↓reduceIte]
set_option maxHeartbeats 4000000 in
set_option maxRecDepth 100000 in
theorem m3_wouldCome (l : Launch) (D : va_G) (cI : ClassId) (o ps k : Nat) (fs : List Value) (f : Nat → Int32) (h1 : fs[1]? = some (.ref ps)) (B : Nat) (hI : Inv B f) (hk : k < 3) : q_I l yX3_wouldCome wsX3_wouldCome { frames := 3, cells := 0, slots := 0, locals := 64 } [.ref o, .int (nI k)] (q_bp D (wS o ps cI fs f) [(cI, .int)]) (fun v => v = g_cm f k) (fun H => True) (fun _ => False) 0 0 := by
  refine q_goI (cc := cX3_wouldCome) (maxL := 5) (ty := .int) (lv0 := [(0, .ref o), (1, .int (nI k))]) (by decide) rfl (Nat.le_of_ble_eq_true rfl) rfl ?_
  intro p e s m args below meth c Q ls hx hb hml hts hown hP hK hl hret
  have hi3 : ∀ w ∈ wsX30, w ∈ wsX3_wouldCome := by decide +kernel
  have hfl7 := hts (.fieldLink RX3 7 "WhisperedPotsModel" "s" "[I") (by decide +kernel)
  have hS : va_S (fun _ => False) s.heap s.heap [] := va_S.rf
  have hO := hI.ok1 hk
  have h8 := hO.2
  refine lv_aload_n hx hb dX3_wouldCome_0 rfl (lv_at hl 0 rfl) ?_
  refine va_get (D := D) (ci := 3) (v := .ref ps) (C := RX3) (T := TX3) (N := 15) hx hb hts hi3 hown hK hP 0 rfl rfl 1 (by decide) hfl7 (fun _ h9 => h9) h1 dX3_wouldCome_1 ?_
  refine lv_iload_n hx hb dX3_wouldCome_4 rfl (lv_at hl 1 rfl) ?_
  refine lv_iconst (v := nI 1) hx hb dX3_wouldCome_5 (by decide) ?_
  refine q_ciR (va_runS (rm := { frames := 0, cells := 0, slots := 0, locals := 0 }) (As := [.int (nI k), .int (nI 1)]) (rest := [.ref ps]) ⟨hx, hb, hml, hown, hts⟩ (m3_ofPot l D k 1 (by omega) (by omega)) (va_cwS 2 hts gX3_wouldCome_X3_ofPot rfl rfl rfl (by decide +kernel) ⟨Nat.le_of_ble_eq_true rfl, Nat.le_of_ble_eq_true rfl⟩) (q_pS (hP.sub [] rfl) (hK.sub [] rfl)) rfl rfl hl.1 rfl (lv_room (Nat.le_of_ble_eq_true rfl)) dX3_wouldCome_6 ⟨Nat.le_of_ble_eq_true rfl, Nat.le_of_ble_eq_true rfl⟩) hP hS (fun x1 H locs e1 hP hS => ?_)
  have e1 : x1 = (nI (73 + 5 * k)) := Eq.trans e1 (congrArg nI (by omega))
  subst e1
  refine q_ld hx hb hK hP 1 0 rfl rfl (j := (73 + 5 * k)) (v := f (75 + k)) (by omega) (by omega) (rr_at (pm_p1 (by omega))) dX3_wouldCome_9 ?_
  refine lv_topi (fun x2 e2 => ?_)
  refine lv_istore_n (lv' := [(2, .int x2), (0, .ref o), (1, .int (nI k))]) hx hb dX3_wouldCome_10 rfl hl (by decide) rfl (fun ls hl => ?_)
  refine lv_aload_n hx hb dX3_wouldCome_11 rfl (lv_at hl 1 rfl) ?_
  refine lv_iload_n hx hb dX3_wouldCome_12 rfl (lv_at hl 2 rfl) ?_
  refine q_ciR (va_runV (rm := { frames := 2, cells := 0, slots := 0, locals := 42 }) (As := [.int (nI k)]) (rest := []) ⟨hx, hb, hml, hown, hts⟩ (m3_guess l D cI o ps k fs f h1 B hI hk) (cwV 1 hts gX3_wouldCome_X3_guess rfl rfl rfl (by decide +kernel) ⟨Nat.le_of_ble_eq_true rfl, Nat.le_of_ble_eq_true rfl⟩) (q_pV (ci := 3) (q0 := 0) hP hK rfl rfl) rfl rfl hl.1 rfl (lv_room (Nat.le_of_ble_eq_true rfl)) dX3_wouldCome_13 ⟨Nat.le_of_ble_eq_true rfl, Nat.le_of_ble_eq_true rfl⟩) hP hS (fun x3 H locs e3 hP hS => ?_)
  have e3 : x3 = g_gs f k := e3
  refine lv_istore_n (lv' := [(3, .int x3), (2, .int x2), (0, .ref o), (1, .int (nI k))]) hx hb dX3_wouldCome_16 rfl hl (by decide) rfl (fun ls hl => ?_)
  refine lv_aload_n hx hb dX3_wouldCome_17 rfl (lv_at hl 2 rfl) ?_
  refine lv_aload_n hx hb dX3_wouldCome_18 rfl (lv_at hl 2 rfl) ?_
  refine lv_iload_n hx hb dX3_wouldCome_19 rfl (lv_at hl 3 rfl) ?_
  refine q_ciR (va_runV (rm := { frames := 1, cells := 0, slots := 0, locals := 21 }) (As := [.int (nI k)]) (rest := [.ref o]) ⟨hx, hb, hml, hown, hts⟩ (m3_with l D cI o ps k fs f h1 B hI hk) (cwV 1 hts gX3_wouldCome_X3_with rfl rfl rfl (by decide +kernel) ⟨Nat.le_of_ble_eq_true rfl, Nat.le_of_ble_eq_true rfl⟩) (q_pV (ci := 3) (q0 := 0) hP hK rfl rfl) rfl rfl hl.1 rfl (lv_room (Nat.le_of_ble_eq_true rfl)) dX3_wouldCome_20 ⟨Nat.le_of_ble_eq_true rfl, Nat.le_of_ble_eq_true rfl⟩) hP hS (fun x4 H locs e4 hP hS => ?_)
  have e4 : x4 = (nI ((hN f k))) := Eq.trans e4 (congrArg nI (by omega))
  subst e4
  refine q_ciR (va_runV (rm := { frames := 1, cells := 0, slots := 0, locals := 21 }) (As := [.int (nI ((hN f k)))]) (rest := []) ⟨hx, hb, hml, hown, hts⟩ (m3_room l D cI o ps ((hN f k)) fs f h1 (by omega)) (cwV 1 hts gX3_wouldCome_X3_room rfl rfl rfl (by decide +kernel) ⟨Nat.le_of_ble_eq_true rfl, Nat.le_of_ble_eq_true rfl⟩) (q_pV (ci := 3) (q0 := 0) hP hK rfl rfl) rfl rfl hl.1 rfl (lv_room (Nat.le_of_ble_eq_true rfl)) dX3_wouldCome_23 ⟨Nat.le_of_ble_eq_true rfl, Nat.le_of_ble_eq_true rfl⟩) hP hS (fun x5 H locs e5 hP hS => ?_)
  have e5 : x5 = g_rm f ((hN f k)) := e5
  refine lv_iload_n hx hb dX3_wouldCome_26 rfl (lv_at hl 1 rfl) ?_
  refine lv_imul hx hb dX3_wouldCome_27 ?_
  refine lv_iload_n hx hb dX3_wouldCome_28 rfl (lv_at hl 0 rfl) ?_
  refine lv_if_ne (tgt := 36) hx hb dX3_wouldCome_29 (by decide) (fun c6 => ?_) (fun c6 => ?_)
  ·
    refine lv_iload_n hx hb dX3_wouldCome_36 rfl (lv_at hl 0 rfl) ?_
    refine lv_idiv hx hb dX3_wouldCome_37 (by first | decide | assumption) ?_
    refine lv_topi (fun x7 e7 => ?_)
    refine lv_istore (lv' := [(4, .int x7), (3, .int x3), (2, .int x2), (0, .ref o), (1, .int (nI k))]) hx hb dX3_wouldCome_38 hl (by decide) rfl (fun ls hl => ?_)
    refine lv_iload hx hb dX3_wouldCome_40 (lv_at hl 0 rfl) ?_
    refine lv_iload_n hx hb dX3_wouldCome_42 rfl (lv_at hl 2 rfl) ?_
    refine lv_icmp_ge (tgt := 51) hx hb dX3_wouldCome_43 (by decide) (fun c8 => ?_) (fun c8 => ?_)
    ·
      refine lv_iload_n hx hb dX3_wouldCome_51 rfl (lv_at hl 2 rfl) ?_
      refine hret _ _ _ _ _ rfl ?_ trivial hS dX3_wouldCome_52
      subst e7 e5 e3 e2
      have hd := dv_eq (hI.gs hk).1
      rw [if_neg c6] at hd
      simp only [g_cm, g_c0, ← hd, c8, ↓reduceIte]
    ·
      refine lv_iload hx hb dX3_wouldCome_46 (lv_at hl 0 rfl) ?_
      refine lv_goto (tgt := 52) hx hb dX3_wouldCome_48 (by decide) ?_
      refine hret _ _ _ _ _ rfl ?_ trivial hS dX3_wouldCome_52
      subst e7 e5 e3 e2
      have hd := dv_eq (hI.gs hk).1
      rw [if_neg c6] at hd
      simp only [g_cm, g_c0, ← hd, c8, ↓reduceIte]
  ·
    refine lv_iconst (v := nI 1) hx hb dX3_wouldCome_32 (by decide) ?_
    refine lv_goto (tgt := 37) hx hb dX3_wouldCome_33 (by decide) ?_
    refine lv_idiv hx hb dX3_wouldCome_37 (by first | decide | assumption) ?_
    refine lv_topi (fun x9 e9 => ?_)
    refine lv_istore (lv' := [(4, .int x9), (3, .int x3), (2, .int x2), (0, .ref o), (1, .int (nI k))]) hx hb dX3_wouldCome_38 hl (by decide) rfl (fun ls hl => ?_)
    refine lv_iload hx hb dX3_wouldCome_40 (lv_at hl 0 rfl) ?_
    refine lv_iload_n hx hb dX3_wouldCome_42 rfl (lv_at hl 2 rfl) ?_
    refine lv_icmp_ge (tgt := 51) hx hb dX3_wouldCome_43 (by decide) (fun c10 => ?_) (fun c10 => ?_)
    ·
      refine lv_iload_n hx hb dX3_wouldCome_51 rfl (lv_at hl 2 rfl) ?_
      refine hret _ _ _ _ _ rfl ?_ trivial hS dX3_wouldCome_52
      subst e9 e5 e3 e2
      have hd := dv_eq (hI.gs hk).1
      rw [if_pos c6] at hd
      simp only [g_cm, g_c0, ← hd, c10, ↓reduceIte]
    ·
      refine lv_iload hx hb dX3_wouldCome_46 (lv_at hl 0 rfl) ?_
      refine lv_goto (tgt := 52) hx hb dX3_wouldCome_48 (by decide) ?_
      refine hret _ _ _ _ _ rfl ?_ trivial hS dX3_wouldCome_52
      subst e9 e5 e3 e2
      have hd := dv_eq (hI.gs hk).1
      rw [if_pos c6] at hd
      simp only [g_cm, g_c0, ← hd, c10, ↓reduceIte]
set_option maxHeartbeats 4000000 in
set_option maxRecDepth 100000 in
theorem m3_wouldSpill (l : Launch) (D : va_G) (cI : ClassId) (o ps k : Nat) (fs : List Value) (f : Nat → Int32) (h1 : fs[1]? = some (.ref ps)) (B : Nat) (hI : Inv B f) (hk : k < 3) : q_I l yX3_wouldSpill wsX3_wouldSpill { frames := 4, cells := 0, slots := 0, locals := 88 } [.ref o, .int (nI k)] (q_bp D (wS o ps cI fs f) [(cI, .int)]) (fun v => v = g_ov f k) (fun H => True) (fun _ => False) 0 0 := by
  refine q_goI (cc := cX3_wouldSpill) (maxL := 3) (ty := .int) (lv0 := [(0, .ref o), (1, .int (nI k))]) (by decide) rfl (Nat.le_of_ble_eq_true rfl) rfl ?_
  intro p e s m args below meth c Q ls hx hb hml hts hown hP hK hl hret
  have hS : va_S (fun _ => False) s.heap s.heap [] := va_S.rf
  have hO := hI.ok1 hk
  have h8 := hO.2
  refine lv_aload_n hx hb dX3_wouldSpill_0 rfl (lv_at hl 0 rfl) ?_
  refine lv_iload_n hx hb dX3_wouldSpill_1 rfl (lv_at hl 1 rfl) ?_
  refine q_ciR (va_runV (rm := { frames := 3, cells := 0, slots := 0, locals := 64 }) (As := [.int (nI k)]) (rest := []) ⟨hx, hb, hml, hown, hts⟩ (m3_wouldCome l D cI o ps k fs f h1 B hI hk) (cwV 1 hts gX3_wouldSpill_X3_wouldCome rfl rfl rfl (by decide +kernel) ⟨Nat.le_of_ble_eq_true rfl, Nat.le_of_ble_eq_true rfl⟩) (q_pV (ci := 3) (q0 := 0) hP hK rfl rfl) rfl rfl hl.1 rfl (lv_room (Nat.le_of_ble_eq_true rfl)) dX3_wouldSpill_2 ⟨Nat.le_of_ble_eq_true rfl, Nat.le_of_ble_eq_true rfl⟩) hP hS (fun x1 H locs e1 hP hS => ?_)
  have e1 : x1 = g_cm f k := e1
  refine lv_aload_n hx hb dX3_wouldSpill_5 rfl (lv_at hl 0 rfl) ?_
  refine lv_aload_n hx hb dX3_wouldSpill_6 rfl (lv_at hl 0 rfl) ?_
  refine lv_iload_n hx hb dX3_wouldSpill_7 rfl (lv_at hl 1 rfl) ?_
  refine q_ciR (va_runV (rm := { frames := 1, cells := 0, slots := 0, locals := 21 }) (As := [.int (nI k)]) (rest := [.ref o, .int x1]) ⟨hx, hb, hml, hown, hts⟩ (m3_with l D cI o ps k fs f h1 B hI hk) (cwV 1 hts gX3_wouldSpill_X3_with rfl rfl rfl (by decide +kernel) ⟨Nat.le_of_ble_eq_true rfl, Nat.le_of_ble_eq_true rfl⟩) (q_pV (ci := 3) (q0 := 0) hP hK rfl rfl) rfl rfl hl.1 rfl (lv_room (Nat.le_of_ble_eq_true rfl)) dX3_wouldSpill_8 ⟨Nat.le_of_ble_eq_true rfl, Nat.le_of_ble_eq_true rfl⟩) hP hS (fun x2 H locs e2 hP hS => ?_)
  have e2 : x2 = (nI ((hN f k))) := Eq.trans e2 (congrArg nI (by omega))
  subst e2
  refine q_ciR (va_runV (rm := { frames := 1, cells := 0, slots := 0, locals := 21 }) (As := [.int (nI ((hN f k)))]) (rest := [.int x1]) ⟨hx, hb, hml, hown, hts⟩ (m3_room l D cI o ps ((hN f k)) fs f h1 (by omega)) (cwV 1 hts gX3_wouldSpill_X3_room rfl rfl rfl (by decide +kernel) ⟨Nat.le_of_ble_eq_true rfl, Nat.le_of_ble_eq_true rfl⟩) (q_pV (ci := 3) (q0 := 0) hP hK rfl rfl) rfl rfl hl.1 rfl (lv_room (Nat.le_of_ble_eq_true rfl)) dX3_wouldSpill_11 ⟨Nat.le_of_ble_eq_true rfl, Nat.le_of_ble_eq_true rfl⟩) hP hS (fun x3 H locs e3 hP hS => ?_)
  have e3 : x3 = g_rm f ((hN f k)) := e3
  refine lv_isub hx hb dX3_wouldSpill_14 ?_
  refine lv_topi (fun x4 e4 => ?_)
  refine lv_istore_n (lv' := [(2, .int x4), (0, .ref o), (1, .int (nI k))]) hx hb dX3_wouldSpill_15 rfl hl (by decide) rfl (fun ls hl => ?_)
  refine lv_iload_n hx hb dX3_wouldSpill_16 rfl (lv_at hl 0 rfl) ?_
  refine lv_if_le (tgt := 24) hx hb dX3_wouldSpill_17 (by decide) (fun c5 => ?_) (fun c5 => ?_)
  ·
    refine lv_iconst (v := nI 0) hx hb dX3_wouldSpill_24 (by decide) ?_
    refine hret _ _ _ _ _ rfl ?_ trivial hS dX3_wouldSpill_25
    rw [← sp_ov]
    subst e4 e3 e1
    simp only [g_sp, c5, ↓reduceIte]
  ·
    refine lv_iload_n hx hb dX3_wouldSpill_20 rfl (lv_at hl 0 rfl) ?_
    refine lv_goto (tgt := 25) hx hb dX3_wouldSpill_21 (by decide) ?_
    refine hret _ _ _ _ _ rfl ?_ trivial hS dX3_wouldSpill_25
    rw [← sp_ov]
    subst e4 e3 e1
    simp only [g_sp, c5, ↓reduceIte]
set_option maxHeartbeats 4000000 in
set_option maxRecDepth 100000 in
theorem m3_trustThen (l : Launch) (D : va_G) (cI : ClassId) (o ps k : Nat) (fs : List Value) (f : Nat → Int32) (h1 : fs[1]? = some (.ref ps)) (B : Nat) (hI : Inv B f) (hk : k < 3) : q_I l yX3_trustThen wsX3_trustThen { frames := 2, cells := 0, slots := 0, locals := 42 } [.ref o, .int (nI k)] (q_bp D (wS o ps cI fs f) [(cI, .int)]) (fun v => v = g_tr f k) (fun H => True) (fun _ => False) 0 0 := by
  refine q_goI (cc := cX3_trustThen) (maxL := 5) (ty := .int) (lv0 := [(0, .ref o), (1, .int (nI k))]) (by decide) rfl (Nat.le_of_ble_eq_true rfl) rfl ?_
  intro p e s m args below meth c Q ls hx hb hml hts hown hP hK hl hret
  have hi3 : ∀ w ∈ wsX30, w ∈ wsX3_trustThen := by decide +kernel
  have hfl7 := hts (.fieldLink RX3 7 "WhisperedPotsModel" "s" "[I") (by decide +kernel)
  have hS : va_S (fun _ => False) s.heap s.heap [] := va_S.rf
  have hO := hI.ok1 hk
  have h8 := hO.2
  refine lv_aload_n hx hb dX3_trustThen_0 rfl (lv_at hl 0 rfl) ?_
  refine va_get (D := D) (ci := 3) (v := .ref ps) (C := RX3) (T := TX3) (N := 15) hx hb hts hi3 hown hK hP 0 rfl rfl 1 (by decide) hfl7 (fun _ h9 => h9) h1 dX3_trustThen_1 ?_
  refine lv_iload_n hx hb dX3_trustThen_4 rfl (lv_at hl 1 rfl) ?_
  refine lv_iconst (v := nI 1) hx hb dX3_trustThen_5 (by decide) ?_
  refine q_ciR (va_runS (rm := { frames := 0, cells := 0, slots := 0, locals := 0 }) (As := [.int (nI k), .int (nI 1)]) (rest := [.ref ps]) ⟨hx, hb, hml, hown, hts⟩ (m3_ofPot l D k 1 (by omega) (by omega)) (va_cwS 2 hts gX3_trustThen_X3_ofPot rfl rfl rfl (by decide +kernel) ⟨Nat.le_of_ble_eq_true rfl, Nat.le_of_ble_eq_true rfl⟩) (q_pS (hP.sub [] rfl) (hK.sub [] rfl)) rfl rfl hl.1 rfl (lv_room (Nat.le_of_ble_eq_true rfl)) dX3_trustThen_6 ⟨Nat.le_of_ble_eq_true rfl, Nat.le_of_ble_eq_true rfl⟩) hP hS (fun x1 H locs e1 hP hS => ?_)
  have e1 : x1 = (nI (73 + 5 * k)) := Eq.trans e1 (congrArg nI (by omega))
  subst e1
  refine q_ld hx hb hK hP 1 0 rfl rfl (j := (73 + 5 * k)) (v := f (75 + k)) (by omega) (by omega) (rr_at (pm_p1 (by omega))) dX3_trustThen_9 ?_
  refine lv_topi (fun x2 e2 => ?_)
  refine lv_istore_n (lv' := [(2, .int x2), (0, .ref o), (1, .int (nI k))]) hx hb dX3_trustThen_10 rfl hl (by decide) rfl (fun ls hl => ?_)
  refine lv_aload_n hx hb dX3_trustThen_11 rfl (lv_at hl 1 rfl) ?_
  refine va_get (D := D) (ci := 3) (v := .ref ps) (C := RX3) (T := TX3) (N := 15) hx hb hts hi3 hown hK hP 0 rfl rfl 1 (by decide) hfl7 (fun _ h9 => h9) h1 dX3_trustThen_12 ?_
  refine lv_iload_n hx hb dX3_trustThen_15 rfl (lv_at hl 2 rfl) ?_
  refine lv_iconst (v := nI 2) hx hb dX3_trustThen_16 (by decide) ?_
  refine q_ciR (va_runS (rm := { frames := 0, cells := 0, slots := 0, locals := 0 }) (As := [.int (nI k), .int (nI 2)]) (rest := [.ref ps]) ⟨hx, hb, hml, hown, hts⟩ (m3_ofPot l D k 2 (by omega) (by omega)) (va_cwS 2 hts gX3_trustThen_X3_ofPot rfl rfl rfl (by decide +kernel) ⟨Nat.le_of_ble_eq_true rfl, Nat.le_of_ble_eq_true rfl⟩) (q_pS (hP.sub [] rfl) (hK.sub [] rfl)) rfl rfl hl.1 rfl (lv_room (Nat.le_of_ble_eq_true rfl)) dX3_trustThen_17 ⟨Nat.le_of_ble_eq_true rfl, Nat.le_of_ble_eq_true rfl⟩) hP hS (fun x3 H locs e3 hP hS => ?_)
  have e3 : x3 = (nI (74 + 5 * k)) := Eq.trans e3 (congrArg nI (by omega))
  subst e3
  refine q_ld hx hb hK hP 1 0 rfl rfl (j := (74 + 5 * k)) (v := f (78 + k)) (by omega) (by omega) (rr_at (pm_p2 (by omega))) dX3_trustThen_20 ?_
  refine lv_iload_n hx hb dX3_trustThen_21 rfl (lv_at hl 0 rfl) ?_
  refine lv_isub hx hb dX3_trustThen_22 ?_
  refine q_ciR (va_runS (rm := { frames := 0, cells := 0, slots := 0, locals := 0 }) (As := [.int ((f (78 + k)) - x2)]) (rest := []) ⟨hx, hb, hml, hown, hts⟩ (m3_size l D ((f (78 + k)) - x2)) (va_cwS 1 hts gX3_trustThen_X3_size rfl rfl rfl (by decide +kernel) ⟨Nat.le_of_ble_eq_true rfl, Nat.le_of_ble_eq_true rfl⟩) (q_pS (hP.sub [] rfl) (hK.sub [] rfl)) rfl rfl hl.1 rfl (lv_room (Nat.le_of_ble_eq_true rfl)) dX3_trustThen_23 ⟨Nat.le_of_ble_eq_true rfl, Nat.le_of_ble_eq_true rfl⟩) hP hS (fun x4 H locs e4 hP hS => ?_)
  have e4 : x4 = (if ((f (78 + k)) - x2) < 0 then 0 - ((f (78 + k)) - x2) else ((f (78 + k)) - x2)) := e4
  refine lv_aload_n hx hb dX3_trustThen_26 rfl (lv_at hl 1 rfl) ?_
  refine lv_iload_n hx hb dX3_trustThen_27 rfl (lv_at hl 2 rfl) ?_
  refine q_ciR (va_runV (rm := { frames := 1, cells := 0, slots := 0, locals := 21 }) (As := [.int (nI k)]) (rest := [.int x4]) ⟨hx, hb, hml, hown, hts⟩ (m3_weight l D cI o ps k fs f h1 hk) (cwV 1 hts gX3_trustThen_X3_weight rfl rfl rfl (by decide +kernel) ⟨Nat.le_of_ble_eq_true rfl, Nat.le_of_ble_eq_true rfl⟩) (q_pV (ci := 3) (q0 := 0) hP hK rfl rfl) rfl rfl hl.1 rfl (lv_room (Nat.le_of_ble_eq_true rfl)) dX3_trustThen_28 ⟨Nat.le_of_ble_eq_true rfl, Nat.le_of_ble_eq_true rfl⟩) hP hS (fun x5 H locs e5 hP hS => ?_)
  have e5 : x5 = g_wt f k := e5
  refine lv_iload_n hx hb dX3_trustThen_31 rfl (lv_at hl 0 rfl) ?_
  refine lv_isub hx hb dX3_trustThen_32 ?_
  refine q_ciR (va_runS (rm := { frames := 0, cells := 0, slots := 0, locals := 0 }) (As := [.int (x5 - x2)]) (rest := [.int x4]) ⟨hx, hb, hml, hown, hts⟩ (m3_size l D (x5 - x2)) (va_cwS 1 hts gX3_trustThen_X3_size rfl rfl rfl (by decide +kernel) ⟨Nat.le_of_ble_eq_true rfl, Nat.le_of_ble_eq_true rfl⟩) (q_pS (hP.sub [] rfl) (hK.sub [] rfl)) rfl rfl hl.1 rfl (lv_room (Nat.le_of_ble_eq_true rfl)) dX3_trustThen_33 ⟨Nat.le_of_ble_eq_true rfl, Nat.le_of_ble_eq_true rfl⟩) hP hS (fun x6 H locs e6 hP hS => ?_)
  have e6 : x6 = (if (x5 - x2) < 0 then 0 - (x5 - x2) else (x5 - x2)) := e6
  refine lv_isub hx hb dX3_trustThen_36 ?_
  refine lv_topi (fun x7 e7 => ?_)
  refine lv_istore_n (lv' := [(3, .int x7), (2, .int x2), (0, .ref o), (1, .int (nI k))]) hx hb dX3_trustThen_37 rfl hl (by decide) rfl (fun ls hl => ?_)
  refine lv_aload_n hx hb dX3_trustThen_38 rfl (lv_at hl 2 rfl) ?_
  refine va_get (D := D) (ci := 3) (v := .ref ps) (C := RX3) (T := TX3) (N := 15) hx hb hts hi3 hown hK hP 0 rfl rfl 1 (by decide) hfl7 (fun _ h9 => h9) h1 dX3_trustThen_39 ?_
  refine lv_aload_n hx hb dX3_trustThen_42 rfl (lv_at hl 2 rfl) ?_
  refine lv_iload_n hx hb dX3_trustThen_43 rfl (lv_at hl 3 rfl) ?_
  refine q_ciR (va_runV (rm := { frames := 1, cells := 0, slots := 0, locals := 21 }) (As := [.int (nI k)]) (rest := [.ref ps]) ⟨hx, hb, hml, hown, hts⟩ (m3_with l D cI o ps k fs f h1 B hI hk) (cwV 1 hts gX3_trustThen_X3_with rfl rfl rfl (by decide +kernel) ⟨Nat.le_of_ble_eq_true rfl, Nat.le_of_ble_eq_true rfl⟩) (q_pV (ci := 3) (q0 := 0) hP hK rfl rfl) rfl rfl hl.1 rfl (lv_room (Nat.le_of_ble_eq_true rfl)) dX3_trustThen_44 ⟨Nat.le_of_ble_eq_true rfl, Nat.le_of_ble_eq_true rfl⟩) hP hS (fun x8 H locs e8 hP hS => ?_)
  have e8 : x8 = (nI ((hN f k))) := Eq.trans e8 (congrArg nI (by omega))
  subst e8
  refine lv_iconst (v := nI 3) hx hb dX3_trustThen_47 (by decide) ?_
  refine q_ciR (va_runS (rm := { frames := 0, cells := 0, slots := 0, locals := 0 }) (As := [.int (nI ((hN f k))), .int (nI 3)]) (rest := [.ref ps]) ⟨hx, hb, hml, hown, hts⟩ (m3_of l D ((hN f k)) 3 (by omega) (by omega)) (va_cwS 2 hts gX3_trustThen_X3_of rfl rfl rfl (by decide +kernel) ⟨Nat.le_of_ble_eq_true rfl, Nat.le_of_ble_eq_true rfl⟩) (q_pS (hP.sub [] rfl) (hK.sub [] rfl)) rfl rfl hl.1 rfl (lv_room (Nat.le_of_ble_eq_true rfl)) dX3_trustThen_48 ⟨Nat.le_of_ble_eq_true rfl, Nat.le_of_ble_eq_true rfl⟩) hP hS (fun x9 H locs e9 hP hS => ?_)
  have e9 : x9 = (nI (3 + 9 * (hN f k))) := Eq.trans e9 (congrArg nI (by omega))
  subst e9
  refine q_ld hx hb hK hP 1 0 rfl rfl (j := (3 + 9 * (hN f k))) (v := f (24 + (hN f k))) (by omega) (by omega) (rr_at (pm_g3 (by omega))) dX3_trustThen_51 ?_
  refine lv_iload_n hx hb dX3_trustThen_52 rfl (lv_at hl 0 rfl) ?_
  refine lv_if_ge (tgt := 60) hx hb dX3_trustThen_53 (by decide) (fun c10 => ?_) (fun c10 => ?_)
  ·
    have d10 := q_ge1 c10
    refine lv_iload_n hx hb dX3_trustThen_60 rfl (lv_at hl 0 rfl) ?_
    refine lv_if_le (tgt := 68) hx hb dX3_trustThen_61 (by decide) (fun c11 => ?_) (fun c11 => ?_)
    ·
      refine lv_iconst (v := nI 0) hx hb dX3_trustThen_68 (by decide) ?_
      refine lv_iadd hx hb dX3_trustThen_69 ?_
      refine lv_topi (fun x12 e12 => ?_)
      refine lv_istore (lv' := [(4, .int x12), (3, .int x7), (2, .int x2), (0, .ref o), (1, .int (nI k))]) hx hb dX3_trustThen_70 hl (by decide) rfl (fun ls hl => ?_)
      refine lv_iload hx hb dX3_trustThen_72 (lv_at hl 0 rfl) ?_
      refine lv_if_ge (tgt := 81) hx hb dX3_trustThen_74 (by decide) (fun c13 => ?_) (fun c13 => ?_)
      ·
        have d13 := q_ge1 c13
        refine lv_iload hx hb dX3_trustThen_81 (lv_at hl 0 rfl) ?_
        refine lv_bipush (v := nI 10) hx hb dX3_trustThen_83 (by decide) ?_
        refine lv_icmp_le (tgt := 93) hx hb dX3_trustThen_85 (by decide) (fun c14 => ?_) (fun c14 => ?_)
        ·
          refine lv_iload hx hb dX3_trustThen_93 (lv_at hl 0 rfl) ?_
          refine hret _ _ _ _ _ rfl ?_ trivial hS dX3_trustThen_95
          rw [← b_tr_eq hI hk]
          subst e12 e7 e6 e5 e4 e2
          simp only [b_tr, b_t0, r_by, d10, c11, d13, c14, ↓reduceIte]
        ·
          refine lv_bipush (v := nI 10) hx hb dX3_trustThen_88 (by decide) ?_
          refine lv_goto (tgt := 95) hx hb dX3_trustThen_90 (by decide) ?_
          refine hret _ _ _ _ _ rfl ?_ trivial hS dX3_trustThen_95
          rw [← b_tr_eq hI hk]
          subst e12 e7 e6 e5 e4 e2
          simp only [b_tr, b_t0, r_by, d10, c11, d13, c14, ↓reduceIte]
      ·
        have d13 := q_ge2 c13
        refine lv_iconst (v := nI 0) hx hb dX3_trustThen_77 (by decide) ?_
        refine lv_goto (tgt := 95) hx hb dX3_trustThen_78 (by decide) ?_
        refine hret _ _ _ _ _ rfl ?_ trivial hS dX3_trustThen_95
        rw [← b_tr_eq hI hk]
        subst e12 e7 e6 e5 e4 e2
        simp only [b_tr, b_t0, r_by, d10, c11, d13, ↓reduceIte]
    ·
      refine lv_iconst (v := (-1)) hx hb dX3_trustThen_64 (by decide) ?_
      refine lv_goto (tgt := 69) hx hb dX3_trustThen_65 (by decide) ?_
      refine lv_iadd hx hb dX3_trustThen_69 ?_
      refine lv_topi (fun x15 e15 => ?_)
      refine lv_istore (lv' := [(4, .int x15), (3, .int x7), (2, .int x2), (0, .ref o), (1, .int (nI k))]) hx hb dX3_trustThen_70 hl (by decide) rfl (fun ls hl => ?_)
      refine lv_iload hx hb dX3_trustThen_72 (lv_at hl 0 rfl) ?_
      refine lv_if_ge (tgt := 81) hx hb dX3_trustThen_74 (by decide) (fun c16 => ?_) (fun c16 => ?_)
      ·
        have d16 := q_ge1 c16
        refine lv_iload hx hb dX3_trustThen_81 (lv_at hl 0 rfl) ?_
        refine lv_bipush (v := nI 10) hx hb dX3_trustThen_83 (by decide) ?_
        refine lv_icmp_le (tgt := 93) hx hb dX3_trustThen_85 (by decide) (fun c17 => ?_) (fun c17 => ?_)
        ·
          refine lv_iload hx hb dX3_trustThen_93 (lv_at hl 0 rfl) ?_
          refine hret _ _ _ _ _ rfl ?_ trivial hS dX3_trustThen_95
          rw [← b_tr_eq hI hk]
          subst e15 e7 e6 e5 e4 e2
          simp only [b_tr, b_t0, r_by, d10, c11, d16, c17, ↓reduceIte]
        ·
          refine lv_bipush (v := nI 10) hx hb dX3_trustThen_88 (by decide) ?_
          refine lv_goto (tgt := 95) hx hb dX3_trustThen_90 (by decide) ?_
          refine hret _ _ _ _ _ rfl ?_ trivial hS dX3_trustThen_95
          rw [← b_tr_eq hI hk]
          subst e15 e7 e6 e5 e4 e2
          simp only [b_tr, b_t0, r_by, d10, c11, d16, c17, ↓reduceIte]
      ·
        have d16 := q_ge2 c16
        refine lv_iconst (v := nI 0) hx hb dX3_trustThen_77 (by decide) ?_
        refine lv_goto (tgt := 95) hx hb dX3_trustThen_78 (by decide) ?_
        refine hret _ _ _ _ _ rfl ?_ trivial hS dX3_trustThen_95
        rw [← b_tr_eq hI hk]
        subst e15 e7 e6 e5 e4 e2
        simp only [b_tr, b_t0, r_by, d10, c11, d16, ↓reduceIte]
  ·
    have d10 := q_ge2 c10
    refine lv_iconst (v := nI 1) hx hb dX3_trustThen_56 (by decide) ?_
    refine lv_goto (tgt := 69) hx hb dX3_trustThen_57 (by decide) ?_
    refine lv_iadd hx hb dX3_trustThen_69 ?_
    refine lv_topi (fun x18 e18 => ?_)
    refine lv_istore (lv' := [(4, .int x18), (3, .int x7), (2, .int x2), (0, .ref o), (1, .int (nI k))]) hx hb dX3_trustThen_70 hl (by decide) rfl (fun ls hl => ?_)
    refine lv_iload hx hb dX3_trustThen_72 (lv_at hl 0 rfl) ?_
    refine lv_if_ge (tgt := 81) hx hb dX3_trustThen_74 (by decide) (fun c19 => ?_) (fun c19 => ?_)
    ·
      have d19 := q_ge1 c19
      refine lv_iload hx hb dX3_trustThen_81 (lv_at hl 0 rfl) ?_
      refine lv_bipush (v := nI 10) hx hb dX3_trustThen_83 (by decide) ?_
      refine lv_icmp_le (tgt := 93) hx hb dX3_trustThen_85 (by decide) (fun c20 => ?_) (fun c20 => ?_)
      ·
        refine lv_iload hx hb dX3_trustThen_93 (lv_at hl 0 rfl) ?_
        refine hret _ _ _ _ _ rfl ?_ trivial hS dX3_trustThen_95
        rw [← b_tr_eq hI hk]
        subst e18 e7 e6 e5 e4 e2
        simp only [b_tr, b_t0, r_by, d10, d19, c20, ↓reduceIte]
      ·
        refine lv_bipush (v := nI 10) hx hb dX3_trustThen_88 (by decide) ?_
        refine lv_goto (tgt := 95) hx hb dX3_trustThen_90 (by decide) ?_
        refine hret _ _ _ _ _ rfl ?_ trivial hS dX3_trustThen_95
        rw [← b_tr_eq hI hk]
        subst e18 e7 e6 e5 e4 e2
        simp only [b_tr, b_t0, r_by, d10, d19, c20, ↓reduceIte]
    ·
      have d19 := q_ge2 c19
      refine lv_iconst (v := nI 0) hx hb dX3_trustThen_77 (by decide) ?_
      refine lv_goto (tgt := 95) hx hb dX3_trustThen_78 (by decide) ?_
      refine hret _ _ _ _ _ rfl ?_ trivial hS dX3_trustThen_95
      rw [← b_tr_eq hI hk]
      subst e18 e7 e6 e5 e4 e2
      simp only [b_tr, b_t0, r_by, d10, d19, ↓reduceIte]
set_option maxHeartbeats 4000000 in
set_option maxRecDepth 100000 in
theorem m3_pours (l : Launch) (D : va_G) (cI : ClassId) (o ps k : Nat) (fs : List Value) (f : Nat → Int32) (h1 : fs[1]? = some (.ref ps)) (B : Nat) (hI : Inv B f) (hk : k < 3) (hne : o ≠ ps) : q_I l yX3_pours wsX3_pours { frames := 5, cells := 0, slots := 0, locals := 110 } [.ref o, .int (nI k)] (q_bp D (wS o ps cI fs f) [(cI, .int)]) (fun v => v = g_ov f k) (fun H => va_at D vwCl (ps, .inl (cI, 138, .inl (rr (g_pour f k)))) H) (fun q => q = ps) 0 0 := by
  refine q_goI (cc := cX3_pours) (maxL := 6) (ty := .int) (lv0 := [(0, .ref o), (1, .int (nI k))]) (by decide) rfl (Nat.le_of_ble_eq_true rfl) rfl ?_
  intro p e s m args below meth c Q ls hx hb hml hts hown hP hK hl hret
  have hi3 : ∀ w ∈ wsX30, w ∈ wsX3_pours := by decide +kernel
  have hfl7 := hts (.fieldLink RX3 7 "WhisperedPotsModel" "s" "[I") (by decide +kernel)
  have hS : va_S (fun q => q = ps) s.heap s.heap [] := va_S.rf
  have hD : va_D (fun _ => True) (wS o ps cI fs f) := q_dT hne
  have hO := hI.ok1 hk
  have h8 := hO.2
  refine lv_aload_n hx hb dX3_pours_0 rfl (lv_at hl 0 rfl) ?_
  refine lv_iload_n hx hb dX3_pours_1 rfl (lv_at hl 1 rfl) ?_
  refine q_ciR (va_runV (rm := { frames := 1, cells := 0, slots := 0, locals := 21 }) (As := [.int (nI k)]) (rest := []) ⟨hx, hb, hml, hown, hts⟩ (m3_with l D cI o ps k fs f h1 B hI hk) (cwV 1 hts gX3_pours_X3_with rfl rfl rfl (by decide +kernel) ⟨Nat.le_of_ble_eq_true rfl, Nat.le_of_ble_eq_true rfl⟩) (q_pV (ci := 3) (q0 := 0) hP hK rfl rfl) rfl rfl hl.1 rfl (lv_room (Nat.le_of_ble_eq_true rfl)) dX3_pours_2 ⟨Nat.le_of_ble_eq_true rfl, Nat.le_of_ble_eq_true rfl⟩) hP hS (fun x1 H locs e1 hP hS => ?_)
  have e1 : x1 = (nI ((hN f k))) := Eq.trans e1 (congrArg nI (by omega))
  subst e1
  refine lv_istore_n (lv' := [(2, .int (nI ((hN f k)))), (0, .ref o), (1, .int (nI k))]) hx hb dX3_pours_5 rfl hl (by decide) rfl (fun ls hl => ?_)
  refine lv_aload_n hx hb dX3_pours_6 rfl (lv_at hl 1 rfl) ?_
  refine lv_iload_n hx hb dX3_pours_7 rfl (lv_at hl 2 rfl) ?_
  refine q_ciR (va_runV (rm := { frames := 3, cells := 0, slots := 0, locals := 64 }) (As := [.int (nI k)]) (rest := []) ⟨hx, hb, hml, hown, hts⟩ (m3_wouldCome l D cI o ps k fs f h1 B hI hk) (cwV 1 hts gX3_pours_X3_wouldCome rfl rfl rfl (by decide +kernel) ⟨Nat.le_of_ble_eq_true rfl, Nat.le_of_ble_eq_true rfl⟩) (q_pV (ci := 3) (q0 := 0) hP hK rfl rfl) rfl rfl hl.1 rfl (lv_room (Nat.le_of_ble_eq_true rfl)) dX3_pours_8 ⟨Nat.le_of_ble_eq_true rfl, Nat.le_of_ble_eq_true rfl⟩) hP hS (fun x2 H locs e2 hP hS => ?_)
  have e2 : x2 = g_cm f k := e2
  refine lv_istore_n (lv' := [(3, .int x2), (2, .int (nI ((hN f k)))), (0, .ref o), (1, .int (nI k))]) hx hb dX3_pours_11 rfl hl (by decide) rfl (fun ls hl => ?_)
  refine lv_aload_n hx hb dX3_pours_12 rfl (lv_at hl 2 rfl) ?_
  refine lv_iload_n hx hb dX3_pours_13 rfl (lv_at hl 3 rfl) ?_
  refine q_ciR (va_runV (rm := { frames := 4, cells := 0, slots := 0, locals := 88 }) (As := [.int (nI k)]) (rest := []) ⟨hx, hb, hml, hown, hts⟩ (m3_wouldSpill l D cI o ps k fs f h1 B hI hk) (cwV 1 hts gX3_pours_X3_wouldSpill rfl rfl rfl (by decide +kernel) ⟨Nat.le_of_ble_eq_true rfl, Nat.le_of_ble_eq_true rfl⟩) (q_pV (ci := 3) (q0 := 0) hP hK rfl rfl) rfl rfl hl.1 rfl (lv_room (Nat.le_of_ble_eq_true rfl)) dX3_pours_14 ⟨Nat.le_of_ble_eq_true rfl, Nat.le_of_ble_eq_true rfl⟩) hP hS (fun x3 H locs e3 hP hS => ?_)
  have e3 : x3 = g_ov f k := e3
  refine lv_istore (lv' := [(4, .int x3), (3, .int x2), (2, .int (nI ((hN f k)))), (0, .ref o), (1, .int (nI k))]) hx hb dX3_pours_17 hl (by decide) rfl (fun ls hl => ?_)
  refine lv_aload_n hx hb dX3_pours_19 rfl (lv_at hl 3 rfl) ?_
  refine lv_iload_n hx hb dX3_pours_20 rfl (lv_at hl 4 rfl) ?_
  refine q_ciR (va_runV (rm := { frames := 2, cells := 0, slots := 0, locals := 42 }) (As := [.int (nI k)]) (rest := []) ⟨hx, hb, hml, hown, hts⟩ (m3_trustThen l D cI o ps k fs f h1 B hI hk) (cwV 1 hts gX3_pours_X3_trustThen rfl rfl rfl (by decide +kernel) ⟨Nat.le_of_ble_eq_true rfl, Nat.le_of_ble_eq_true rfl⟩) (q_pV (ci := 3) (q0 := 0) hP hK rfl rfl) rfl rfl hl.1 rfl (lv_room (Nat.le_of_ble_eq_true rfl)) dX3_pours_21 ⟨Nat.le_of_ble_eq_true rfl, Nat.le_of_ble_eq_true rfl⟩) hP hS (fun x4 H locs e4 hP hS => ?_)
  have e4 : x4 = g_tr f k := e4
  refine lv_istore (lv' := [(5, .int x4), (4, .int x3), (3, .int x2), (2, .int (nI ((hN f k)))), (0, .ref o), (1, .int (nI k))]) hx hb dX3_pours_24 hl (by decide) rfl (fun ls hl => ?_)
  refine lv_aload_n hx hb dX3_pours_26 rfl (lv_at hl 4 rfl) ?_
  refine va_get (D := D) (ci := 3) (v := .ref ps) (C := RX3) (T := TX3) (N := 15) hx hb hts hi3 hown hK hP 0 rfl rfl 1 (by decide) hfl7 (fun _ h9 => h9) h1 dX3_pours_27 ?_
  refine lv_iload_n hx hb dX3_pours_30 rfl (lv_at hl 5 rfl) ?_
  refine lv_iconst (v := nI 1) hx hb dX3_pours_31 (by decide) ?_
  refine q_ciR (va_runS (rm := { frames := 0, cells := 0, slots := 0, locals := 0 }) (As := [.int (nI k), .int (nI 1)]) (rest := [.ref ps]) ⟨hx, hb, hml, hown, hts⟩ (m3_ofPot l D k 1 (by omega) (by omega)) (va_cwS 2 hts gX3_pours_X3_ofPot rfl rfl rfl (by decide +kernel) ⟨Nat.le_of_ble_eq_true rfl, Nat.le_of_ble_eq_true rfl⟩) (q_pS (hP.sub [] rfl) (hK.sub [] rfl)) rfl rfl hl.1 rfl (lv_room (Nat.le_of_ble_eq_true rfl)) dX3_pours_32 ⟨Nat.le_of_ble_eq_true rfl, Nat.le_of_ble_eq_true rfl⟩) hP hS (fun x5 H locs e5 hP hS => ?_)
  have e5 : x5 = (nI (73 + 5 * k)) := Eq.trans e5 (congrArg nI (by omega))
  subst e5
  refine lv_dup2_11 hx hb dX3_pours_35 rfl rfl ?_
  refine q_ld hx hb hK hP 1 0 rfl rfl (j := (73 + 5 * k)) (v := f (75 + k)) (by omega) (by omega) (rr_at (pm_p1 (by omega))) dX3_pours_36 ?_
  refine lv_iload_n hx hb dX3_pours_37 rfl (lv_at hl 2 rfl) ?_
  refine lv_isub hx hb dX3_pours_38 ?_
  refine lv_topi (fun x6 e6 => ?_)
  refine q_stR hx hb hK hP hD hS 1 0 rfl rfl rfl (j := (73 + 5 * k)) (i := (75 + k)) (by omega) (by omega) (pm_p1 (by omega)) (fun g => wS o ps cI fs g) (fun _ => rfl) dX3_pours_39 (fun H locs f7 hf7 hP hD hS => ?_)
  refine lv_aload_n hx hb dX3_pours_40 rfl (lv_at hl 4 rfl) ?_
  refine va_get (D := D) (ci := 3) (v := .ref ps) (C := RX3) (T := TX3) (N := 15) hx hb hts hi3 hown hK hP 0 rfl rfl 1 (by decide) hfl7 (fun _ h9 => h9) h1 dX3_pours_41 ?_
  refine lv_iload_n hx hb dX3_pours_44 rfl (lv_at hl 3 rfl) ?_
  refine lv_iconst (v := nI 1) hx hb dX3_pours_45 (by decide) ?_
  refine q_ciR (va_runS (rm := { frames := 0, cells := 0, slots := 0, locals := 0 }) (As := [.int (nI ((hN f k))), .int (nI 1)]) (rest := [.ref ps]) ⟨hx, hb, hml, hown, hts⟩ (m3_of l D ((hN f k)) 1 (by omega) (by omega)) (va_cwS 2 hts gX3_pours_X3_of rfl rfl rfl (by decide +kernel) ⟨Nat.le_of_ble_eq_true rfl, Nat.le_of_ble_eq_true rfl⟩) (q_pS (hP.sub [] rfl) (hK.sub [] rfl)) rfl rfl hl.1 rfl (lv_room (Nat.le_of_ble_eq_true rfl)) dX3_pours_46 ⟨Nat.le_of_ble_eq_true rfl, Nat.le_of_ble_eq_true rfl⟩) hP hS (fun x8 H locs e8 hP hS => ?_)
  have e8 : x8 = (nI (1 + 9 * (hN f k))) := Eq.trans e8 (congrArg nI (by omega))
  subst e8
  refine lv_dup2_11 hx hb dX3_pours_49 rfl rfl ?_
  refine q_ld hx hb hK hP 1 0 rfl rfl (j := (1 + 9 * (hN f k))) (v := f7 (8 + (hN f k))) (by omega) (by omega) (rr_at (pm_g1 (by omega))) dX3_pours_50 ?_
  refine lv_iload_n hx hb dX3_pours_51 rfl (lv_at hl 2 rfl) ?_
  refine lv_iload hx hb dX3_pours_52 (lv_at hl 1 rfl) ?_
  refine lv_isub hx hb dX3_pours_54 ?_
  refine lv_iadd hx hb dX3_pours_55 ?_
  refine lv_topi (fun x9 e9 => ?_)
  refine q_stR hx hb hK hP hD hS 1 0 rfl rfl rfl (j := (1 + 9 * (hN f k))) (i := (8 + (hN f k))) (by omega) (by omega) (pm_g1 (by omega)) (fun g => wS o ps cI fs g) (fun _ => rfl) dX3_pours_56 (fun H locs f10 hf10 hP hD hS => ?_)
  refine lv_aload_n hx hb dX3_pours_57 rfl (lv_at hl 4 rfl) ?_
  refine va_get (D := D) (ci := 3) (v := .ref ps) (C := RX3) (T := TX3) (N := 15) hx hb hts hi3 hown hK hP 0 rfl rfl 1 (by decide) hfl7 (fun _ h9 => h9) h1 dX3_pours_58 ?_
  refine lv_iload_n hx hb dX3_pours_61 rfl (lv_at hl 3 rfl) ?_
  refine lv_bipush (v := nI 7) hx hb dX3_pours_62 (by decide) ?_
  refine q_ciR (va_runS (rm := { frames := 0, cells := 0, slots := 0, locals := 0 }) (As := [.int (nI ((hN f k))), .int (nI 7)]) (rest := [.ref ps]) ⟨hx, hb, hml, hown, hts⟩ (m3_of l D ((hN f k)) 7 (by omega) (by omega)) (va_cwS 2 hts gX3_pours_X3_of rfl rfl rfl (by decide +kernel) ⟨Nat.le_of_ble_eq_true rfl, Nat.le_of_ble_eq_true rfl⟩) (q_pS (hP.sub [] rfl) (hK.sub [] rfl)) rfl rfl hl.1 rfl (lv_room (Nat.le_of_ble_eq_true rfl)) dX3_pours_64 ⟨Nat.le_of_ble_eq_true rfl, Nat.le_of_ble_eq_true rfl⟩) hP hS (fun x11 H locs e11 hP hS => ?_)
  have e11 : x11 = (nI (7 + 9 * (hN f k))) := Eq.trans e11 (congrArg nI (by omega))
  subst e11
  refine lv_dup2_11 hx hb dX3_pours_67 rfl rfl ?_
  refine q_ld hx hb hK hP 1 0 rfl rfl (j := (7 + 9 * (hN f k))) (v := f10 (56 + (hN f k))) (by omega) (by omega) (rr_at (pm_g7 (by omega))) dX3_pours_68 ?_
  refine lv_iload hx hb dX3_pours_69 (lv_at hl 1 rfl) ?_
  refine lv_iadd hx hb dX3_pours_71 ?_
  refine lv_topi (fun x12 e12 => ?_)
  refine q_stR hx hb hK hP hD hS 1 0 rfl rfl rfl (j := (7 + 9 * (hN f k))) (i := (56 + (hN f k))) (by omega) (by omega) (pm_g7 (by omega)) (fun g => wS o ps cI fs g) (fun _ => rfl) dX3_pours_72 (fun H locs f13 hf13 hP hD hS => ?_)
  refine lv_aload_n hx hb dX3_pours_73 rfl (lv_at hl 4 rfl) ?_
  refine va_get (D := D) (ci := 3) (v := .ref ps) (C := RX3) (T := TX3) (N := 15) hx hb hts hi3 hown hK hP 0 rfl rfl 1 (by decide) hfl7 (fun _ h9 => h9) h1 dX3_pours_74 ?_
  refine lv_iload_n hx hb dX3_pours_77 rfl (lv_at hl 3 rfl) ?_
  refine lv_iconst (v := nI 5) hx hb dX3_pours_78 (by decide) ?_
  refine q_ciR (va_runS (rm := { frames := 0, cells := 0, slots := 0, locals := 0 }) (As := [.int (nI ((hN f k))), .int (nI 5)]) (rest := [.ref ps]) ⟨hx, hb, hml, hown, hts⟩ (m3_of l D ((hN f k)) 5 (by omega) (by omega)) (va_cwS 2 hts gX3_pours_X3_of rfl rfl rfl (by decide +kernel) ⟨Nat.le_of_ble_eq_true rfl, Nat.le_of_ble_eq_true rfl⟩) (q_pS (hP.sub [] rfl) (hK.sub [] rfl)) rfl rfl hl.1 rfl (lv_room (Nat.le_of_ble_eq_true rfl)) dX3_pours_79 ⟨Nat.le_of_ble_eq_true rfl, Nat.le_of_ble_eq_true rfl⟩) hP hS (fun x14 H locs e14 hP hS => ?_)
  have e14 : x14 = (nI (5 + 9 * (hN f k))) := Eq.trans e14 (congrArg nI (by omega))
  subst e14
  refine lv_dup2_11 hx hb dX3_pours_82 rfl rfl ?_
  refine q_ld hx hb hK hP 1 0 rfl rfl (j := (5 + 9 * (hN f k))) (v := f13 (40 + (hN f k))) (by omega) (by omega) (rr_at (pm_g5 (by omega))) dX3_pours_83 ?_
  refine lv_iload hx hb dX3_pours_84 (lv_at hl 1 rfl) ?_
  refine lv_if_le (tgt := 93) hx hb dX3_pours_86 (by decide) (fun c15 => ?_) (fun c15 => ?_)
  ·
    refine lv_iconst (v := nI 0) hx hb dX3_pours_93 (by decide) ?_
    refine lv_iadd hx hb dX3_pours_94 ?_
    refine lv_topi (fun x16 e16 => ?_)
    refine q_stR hx hb hK hP hD hS 1 0 rfl rfl rfl (j := (5 + 9 * (hN f k))) (i := (40 + (hN f k))) (by omega) (by omega) (pm_g5 (by omega)) (fun g => wS o ps cI fs g) (fun _ => rfl) dX3_pours_95 (fun H locs f17 hf17 hP hD hS => ?_)
    refine lv_aload_n hx hb dX3_pours_96 rfl (lv_at hl 4 rfl) ?_
    refine va_get (D := D) (ci := 3) (v := .ref ps) (C := RX3) (T := TX3) (N := 15) hx hb hts hi3 hown hK hP 0 rfl rfl 1 (by decide) hfl7 (fun _ h9 => h9) h1 dX3_pours_97 ?_
    refine lv_iload_n hx hb dX3_pours_100 rfl (lv_at hl 3 rfl) ?_
    refine lv_bipush (v := nI 8) hx hb dX3_pours_101 (by decide) ?_
    refine q_ciR (va_runS (rm := { frames := 0, cells := 0, slots := 0, locals := 0 }) (As := [.int (nI ((hN f k))), .int (nI 8)]) (rest := [.ref ps]) ⟨hx, hb, hml, hown, hts⟩ (m3_of l D ((hN f k)) 8 (by omega) (by omega)) (va_cwS 2 hts gX3_pours_X3_of rfl rfl rfl (by decide +kernel) ⟨Nat.le_of_ble_eq_true rfl, Nat.le_of_ble_eq_true rfl⟩) (q_pS (hP.sub [] rfl) (hK.sub [] rfl)) rfl rfl hl.1 rfl (lv_room (Nat.le_of_ble_eq_true rfl)) dX3_pours_103 ⟨Nat.le_of_ble_eq_true rfl, Nat.le_of_ble_eq_true rfl⟩) hP hS (fun x18 H locs e18 hP hS => ?_)
    have e18 : x18 = (nI (8 + 9 * (hN f k))) := Eq.trans e18 (congrArg nI (by omega))
    subst e18
    refine lv_dup2_11 hx hb dX3_pours_106 rfl rfl ?_
    refine q_ld hx hb hK hP 1 0 rfl rfl (j := (8 + 9 * (hN f k))) (v := f17 (64 + (hN f k))) (by omega) (by omega) (rr_at (pm_g8 (by omega))) dX3_pours_107 ?_
    refine lv_iload_n hx hb dX3_pours_108 rfl (lv_at hl 2 rfl) ?_
    refine lv_iadd hx hb dX3_pours_109 ?_
    refine lv_topi (fun x19 e19 => ?_)
    refine q_stR hx hb hK hP hD hS 1 0 rfl rfl rfl (j := (8 + 9 * (hN f k))) (i := (64 + (hN f k))) (by omega) (by omega) (pm_g8 (by omega)) (fun g => wS o ps cI fs g) (fun _ => rfl) dX3_pours_110 (fun H locs f20 hf20 hP hD hS => ?_)
    refine lv_aload_n hx hb dX3_pours_111 rfl (lv_at hl 4 rfl) ?_
    refine va_get (D := D) (ci := 3) (v := .ref ps) (C := RX3) (T := TX3) (N := 15) hx hb hts hi3 hown hK hP 0 rfl rfl 1 (by decide) hfl7 (fun _ h9 => h9) h1 dX3_pours_112 ?_
    refine lv_iload_n hx hb dX3_pours_115 rfl (lv_at hl 3 rfl) ?_
    refine lv_iconst (v := nI 3) hx hb dX3_pours_116 (by decide) ?_
    refine q_ciR (va_runS (rm := { frames := 0, cells := 0, slots := 0, locals := 0 }) (As := [.int (nI ((hN f k))), .int (nI 3)]) (rest := [.ref ps]) ⟨hx, hb, hml, hown, hts⟩ (m3_of l D ((hN f k)) 3 (by omega) (by omega)) (va_cwS 2 hts gX3_pours_X3_of rfl rfl rfl (by decide +kernel) ⟨Nat.le_of_ble_eq_true rfl, Nat.le_of_ble_eq_true rfl⟩) (q_pS (hP.sub [] rfl) (hK.sub [] rfl)) rfl rfl hl.1 rfl (lv_room (Nat.le_of_ble_eq_true rfl)) dX3_pours_117 ⟨Nat.le_of_ble_eq_true rfl, Nat.le_of_ble_eq_true rfl⟩) hP hS (fun x21 H locs e21 hP hS => ?_)
    have e21 : x21 = (nI (3 + 9 * (hN f k))) := Eq.trans e21 (congrArg nI (by omega))
    subst e21
    refine lv_iload hx hb dX3_pours_120 (lv_at hl 0 rfl) ?_
    refine q_stR hx hb hK hP hD hS 1 0 rfl rfl rfl (j := (3 + 9 * (hN f k))) (i := (24 + (hN f k))) (by omega) (by omega) (pm_g3 (by omega)) (fun g => wS o ps cI fs g) (fun _ => rfl) dX3_pours_122 (fun H locs f22 hf22 hP hD hS => ?_)
    refine lv_aload_n hx hb dX3_pours_123 rfl (lv_at hl 4 rfl) ?_
    refine va_get (D := D) (ci := 3) (v := .ref ps) (C := RX3) (T := TX3) (N := 15) hx hb hts hi3 hown hK hP 0 rfl rfl 1 (by decide) hfl7 (fun _ h9 => h9) h1 dX3_pours_124 ?_
    refine lv_sipush (v := nI 136) hx hb dX3_pours_127 (by decide) ?_
    refine lv_dup2_11 hx hb dX3_pours_130 rfl rfl ?_
    refine q_ld hx hb hK hP 1 0 rfl rfl (j := 136) (v := f22 136) (by omega) (by omega) (rr_at (pm_id (by omega))) dX3_pours_131 ?_
    refine lv_iconst (v := nI 1) hx hb dX3_pours_132 (by decide) ?_
    refine lv_iadd hx hb dX3_pours_133 ?_
    refine lv_topi (fun x23 e23 => ?_)
    refine q_stR hx hb hK hP hD hS 1 0 rfl rfl rfl (j := 136) (i := 136) (by omega) (by omega) (pm_id (by omega)) (fun g => wS o ps cI fs g) (fun _ => rfl) dX3_pours_134 (fun H locs f24 hf24 hP hD hS => ?_)
    refine lv_aload_n hx hb dX3_pours_135 rfl (lv_at hl 4 rfl) ?_
    refine va_get (D := D) (ci := 3) (v := .ref ps) (C := RX3) (T := TX3) (N := 15) hx hb hts hi3 hown hK hP 0 rfl rfl 1 (by decide) hfl7 (fun _ h9 => h9) h1 dX3_pours_136 ?_
    refine lv_sipush (v := nI 137) hx hb dX3_pours_139 (by decide) ?_
    refine lv_dup2_11 hx hb dX3_pours_142 rfl rfl ?_
    refine q_ld hx hb hK hP 1 0 rfl rfl (j := 137) (v := f24 137) (by omega) (by omega) (rr_at (pm_id (by omega))) dX3_pours_143 ?_
    refine lv_iload hx hb dX3_pours_144 (lv_at hl 1 rfl) ?_
    refine lv_if_le (tgt := 153) hx hb dX3_pours_146 (by decide) (fun c25 => ?_) (fun c25 => absurd c15 c25)
    refine lv_iconst (v := nI 0) hx hb dX3_pours_153 (by decide) ?_
    refine lv_iadd hx hb dX3_pours_154 ?_
    refine lv_topi (fun x26 e26 => ?_)
    refine q_stR hx hb hK hP hD hS 1 0 rfl rfl rfl (j := 137) (i := 137) (by omega) (by omega) (pm_id (by omega)) (fun g => wS o ps cI fs g) (fun _ => rfl) dX3_pours_155 (fun H locs f27 hf27 hP hD hS => ?_)
    refine lv_iload hx hb dX3_pours_156 (lv_at hl 1 rfl) ?_
    have hE : f27 = g_pour f k := by
      subst hf27 e26 hf24 e23 hf22 hf20 e19 hf17 e16 hf13 e12 hf10 e9 hf7 e6 e4 e3 e2
      rw [← r_pour_eq (b := nI 0) hk h8 (by rw [if_pos c15])]
      rfl
    refine hret _ _ _ _ _ rfl ?_ (by rw [← hE]; exact hP 1 _ rfl) hS dX3_pours_158
    subst hf27 e26 hf24 e23 hf22 hf20 e19 hf17 e16 hf13 e12 hf10 e9 hf7 e6 e4 e3 e2
    first | rfl | skip
  ·
    refine lv_iconst (v := nI 1) hx hb dX3_pours_89 (by decide) ?_
    refine lv_goto (tgt := 94) hx hb dX3_pours_90 (by decide) ?_
    refine lv_iadd hx hb dX3_pours_94 ?_
    refine lv_topi (fun x28 e28 => ?_)
    refine q_stR hx hb hK hP hD hS 1 0 rfl rfl rfl (j := (5 + 9 * (hN f k))) (i := (40 + (hN f k))) (by omega) (by omega) (pm_g5 (by omega)) (fun g => wS o ps cI fs g) (fun _ => rfl) dX3_pours_95 (fun H locs f29 hf29 hP hD hS => ?_)
    refine lv_aload_n hx hb dX3_pours_96 rfl (lv_at hl 4 rfl) ?_
    refine va_get (D := D) (ci := 3) (v := .ref ps) (C := RX3) (T := TX3) (N := 15) hx hb hts hi3 hown hK hP 0 rfl rfl 1 (by decide) hfl7 (fun _ h9 => h9) h1 dX3_pours_97 ?_
    refine lv_iload_n hx hb dX3_pours_100 rfl (lv_at hl 3 rfl) ?_
    refine lv_bipush (v := nI 8) hx hb dX3_pours_101 (by decide) ?_
    refine q_ciR (va_runS (rm := { frames := 0, cells := 0, slots := 0, locals := 0 }) (As := [.int (nI ((hN f k))), .int (nI 8)]) (rest := [.ref ps]) ⟨hx, hb, hml, hown, hts⟩ (m3_of l D ((hN f k)) 8 (by omega) (by omega)) (va_cwS 2 hts gX3_pours_X3_of rfl rfl rfl (by decide +kernel) ⟨Nat.le_of_ble_eq_true rfl, Nat.le_of_ble_eq_true rfl⟩) (q_pS (hP.sub [] rfl) (hK.sub [] rfl)) rfl rfl hl.1 rfl (lv_room (Nat.le_of_ble_eq_true rfl)) dX3_pours_103 ⟨Nat.le_of_ble_eq_true rfl, Nat.le_of_ble_eq_true rfl⟩) hP hS (fun x30 H locs e30 hP hS => ?_)
    have e30 : x30 = (nI (8 + 9 * (hN f k))) := Eq.trans e30 (congrArg nI (by omega))
    subst e30
    refine lv_dup2_11 hx hb dX3_pours_106 rfl rfl ?_
    refine q_ld hx hb hK hP 1 0 rfl rfl (j := (8 + 9 * (hN f k))) (v := f29 (64 + (hN f k))) (by omega) (by omega) (rr_at (pm_g8 (by omega))) dX3_pours_107 ?_
    refine lv_iload_n hx hb dX3_pours_108 rfl (lv_at hl 2 rfl) ?_
    refine lv_iadd hx hb dX3_pours_109 ?_
    refine lv_topi (fun x31 e31 => ?_)
    refine q_stR hx hb hK hP hD hS 1 0 rfl rfl rfl (j := (8 + 9 * (hN f k))) (i := (64 + (hN f k))) (by omega) (by omega) (pm_g8 (by omega)) (fun g => wS o ps cI fs g) (fun _ => rfl) dX3_pours_110 (fun H locs f32 hf32 hP hD hS => ?_)
    refine lv_aload_n hx hb dX3_pours_111 rfl (lv_at hl 4 rfl) ?_
    refine va_get (D := D) (ci := 3) (v := .ref ps) (C := RX3) (T := TX3) (N := 15) hx hb hts hi3 hown hK hP 0 rfl rfl 1 (by decide) hfl7 (fun _ h9 => h9) h1 dX3_pours_112 ?_
    refine lv_iload_n hx hb dX3_pours_115 rfl (lv_at hl 3 rfl) ?_
    refine lv_iconst (v := nI 3) hx hb dX3_pours_116 (by decide) ?_
    refine q_ciR (va_runS (rm := { frames := 0, cells := 0, slots := 0, locals := 0 }) (As := [.int (nI ((hN f k))), .int (nI 3)]) (rest := [.ref ps]) ⟨hx, hb, hml, hown, hts⟩ (m3_of l D ((hN f k)) 3 (by omega) (by omega)) (va_cwS 2 hts gX3_pours_X3_of rfl rfl rfl (by decide +kernel) ⟨Nat.le_of_ble_eq_true rfl, Nat.le_of_ble_eq_true rfl⟩) (q_pS (hP.sub [] rfl) (hK.sub [] rfl)) rfl rfl hl.1 rfl (lv_room (Nat.le_of_ble_eq_true rfl)) dX3_pours_117 ⟨Nat.le_of_ble_eq_true rfl, Nat.le_of_ble_eq_true rfl⟩) hP hS (fun x33 H locs e33 hP hS => ?_)
    have e33 : x33 = (nI (3 + 9 * (hN f k))) := Eq.trans e33 (congrArg nI (by omega))
    subst e33
    refine lv_iload hx hb dX3_pours_120 (lv_at hl 0 rfl) ?_
    refine q_stR hx hb hK hP hD hS 1 0 rfl rfl rfl (j := (3 + 9 * (hN f k))) (i := (24 + (hN f k))) (by omega) (by omega) (pm_g3 (by omega)) (fun g => wS o ps cI fs g) (fun _ => rfl) dX3_pours_122 (fun H locs f34 hf34 hP hD hS => ?_)
    refine lv_aload_n hx hb dX3_pours_123 rfl (lv_at hl 4 rfl) ?_
    refine va_get (D := D) (ci := 3) (v := .ref ps) (C := RX3) (T := TX3) (N := 15) hx hb hts hi3 hown hK hP 0 rfl rfl 1 (by decide) hfl7 (fun _ h9 => h9) h1 dX3_pours_124 ?_
    refine lv_sipush (v := nI 136) hx hb dX3_pours_127 (by decide) ?_
    refine lv_dup2_11 hx hb dX3_pours_130 rfl rfl ?_
    refine q_ld hx hb hK hP 1 0 rfl rfl (j := 136) (v := f34 136) (by omega) (by omega) (rr_at (pm_id (by omega))) dX3_pours_131 ?_
    refine lv_iconst (v := nI 1) hx hb dX3_pours_132 (by decide) ?_
    refine lv_iadd hx hb dX3_pours_133 ?_
    refine lv_topi (fun x35 e35 => ?_)
    refine q_stR hx hb hK hP hD hS 1 0 rfl rfl rfl (j := 136) (i := 136) (by omega) (by omega) (pm_id (by omega)) (fun g => wS o ps cI fs g) (fun _ => rfl) dX3_pours_134 (fun H locs f36 hf36 hP hD hS => ?_)
    refine lv_aload_n hx hb dX3_pours_135 rfl (lv_at hl 4 rfl) ?_
    refine va_get (D := D) (ci := 3) (v := .ref ps) (C := RX3) (T := TX3) (N := 15) hx hb hts hi3 hown hK hP 0 rfl rfl 1 (by decide) hfl7 (fun _ h9 => h9) h1 dX3_pours_136 ?_
    refine lv_sipush (v := nI 137) hx hb dX3_pours_139 (by decide) ?_
    refine lv_dup2_11 hx hb dX3_pours_142 rfl rfl ?_
    refine q_ld hx hb hK hP 1 0 rfl rfl (j := 137) (v := f36 137) (by omega) (by omega) (rr_at (pm_id (by omega))) dX3_pours_143 ?_
    refine lv_iload hx hb dX3_pours_144 (lv_at hl 1 rfl) ?_
    refine lv_if_le (tgt := 153) hx hb dX3_pours_146 (by decide) (fun c37 => absurd c37 c15) (fun c37 => ?_)
    refine lv_iconst (v := nI 1) hx hb dX3_pours_149 (by decide) ?_
    refine lv_goto (tgt := 154) hx hb dX3_pours_150 (by decide) ?_
    refine lv_iadd hx hb dX3_pours_154 ?_
    refine lv_topi (fun x38 e38 => ?_)
    refine q_stR hx hb hK hP hD hS 1 0 rfl rfl rfl (j := 137) (i := 137) (by omega) (by omega) (pm_id (by omega)) (fun g => wS o ps cI fs g) (fun _ => rfl) dX3_pours_155 (fun H locs f39 hf39 hP hD hS => ?_)
    refine lv_iload hx hb dX3_pours_156 (lv_at hl 1 rfl) ?_
    have hE : f39 = g_pour f k := by
      subst hf39 e38 hf36 e35 hf34 hf32 e31 hf29 e28 hf13 e12 hf10 e9 hf7 e6 e4 e3 e2
      rw [← r_pour_eq (b := nI 1) hk h8 (by rw [if_neg c15])]
      rfl
    refine hret _ _ _ _ _ rfl ?_ (by rw [← hE]; exact hP 1 _ rfl) hS dX3_pours_158
    subst hf39 e38 hf36 e35 hf34 hf32 e31 hf29 e28 hf13 e12 hf10 e9 hf7 e6 e4 e3 e2
    first | rfl | skip
