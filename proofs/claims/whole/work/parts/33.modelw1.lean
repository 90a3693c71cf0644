set_option maxHeartbeats 4000000 in
set_option maxRecDepth 100000 in
theorem m3_in (l : Launch) (D : va_G) (x lo hi : Int32) : q_I l yX3_in wsX3_in { frames := 0, cells := 0, slots := 0, locals := 0 } [.int x, .int lo, .int hi] (q_bp D ([]) []) (fun v => v = p_b (q_in lo hi x)) (fun H => True) (fun _ => False) 0 0 := by
  refine q_goI (cc := cX3_in) (maxL := 3) (ty := .boolean) (lv0 := [(0, .int x), (1, .int lo), (2, .int hi)]) (by decide) rfl (Nat.le_of_ble_eq_true rfl) rfl ?_
  intro p e s m args below meth c Q ls hx hb hml hts hown hP hK hl hret
  have hS : va_S (fun _ => False) s.heap s.heap [] := va_S.rf
  refine lv_iload_n hx hb dX3_in_0 rfl (lv_at hl 0 rfl) ?_
  refine lv_iload_n hx hb dX3_in_1 rfl (lv_at hl 1 rfl) ?_
  refine lv_icmp_lt (tgt := 14) hx hb dX3_in_2 (by decide) (fun c1 => ?_) (fun c1 => ?_)
  ·
    refine lv_iconst (v := nI 0) hx hb dX3_in_14 (by decide) ?_
    refine hret _ _ _ _ _ (by decide) ?_ trivial hS dX3_in_15
    have h5 : ¬ lo ≤ x := by rw [← q_nlt]; exact fun z => z c1
    simp only [q_in, p_b, decide_eq_false h5, Bool.false_and]
    rfl
  ·
    refine lv_iload_n hx hb dX3_in_5 rfl (lv_at hl 0 rfl) ?_
    refine lv_iload_n hx hb dX3_in_6 rfl (lv_at hl 2 rfl) ?_
    refine lv_icmp_gt (tgt := 14) hx hb dX3_in_7 (by decide) (fun c2 => ?_) (fun c2 => ?_)
    ·
      refine lv_iconst (v := nI 0) hx hb dX3_in_14 (by decide) ?_
      refine hret _ _ _ _ _ (by decide) ?_ trivial hS dX3_in_15
      have h5 : lo ≤ x := by rw [← q_nlt]; exact c1
      have h6 : ¬ x ≤ hi := by rw [← q_nlt]; exact fun z => z c2
      simp only [q_in, p_b, decide_eq_false h6, Bool.and_false]
      rfl
    ·
      refine lv_iconst (v := nI 1) hx hb dX3_in_10 (by decide) ?_
      refine lv_goto (tgt := 15) hx hb dX3_in_11 (by decide) ?_
      refine hret _ _ _ _ _ (by decide) ?_ trivial hS dX3_in_15
      have h5 : lo ≤ x := by rw [← q_nlt]; exact c1
      have h6 : x ≤ hi := by rw [← q_nlt]; exact c2
      simp only [q_in, p_b, decide_eq_true h5, decide_eq_true h6]
      rfl
set_option maxHeartbeats 4000000 in
set_option maxRecDepth 100000 in
theorem m3_isGuest (l : Launch) (D : va_G) (x : Int32) : q_I l yX3_isGuest wsX3_isGuest { frames := 1, cells := 0, slots := 0, locals := 22 } [.int x] (q_bp D ([]) []) (fun v => v = p_b (q_in (nI 0) (nI 7) x)) (fun H => True) (fun _ => False) 0 0 := by
  refine q_goI (cc := cX3_isGuest) (maxL := 1) (ty := .boolean) (lv0 := [(0, .int x)]) (by decide) rfl (Nat.le_of_ble_eq_true rfl) rfl ?_
  intro p e s m args below meth c Q ls hx hb hml hts hown hP hK hl hret
  have hS : va_S (fun _ => False) s.heap s.heap [] := va_S.rf
  refine lv_iload_n hx hb dX3_isGuest_0 rfl (lv_at hl 0 rfl) ?_
  refine lv_iconst (v := nI 0) hx hb dX3_isGuest_1 (by decide) ?_
  refine lv_bipush (v := nI 7) hx hb dX3_isGuest_2 (by decide) ?_
  refine q_ciR (va_runS (rm := { frames := 0, cells := 0, slots := 0, locals := 0 }) (As := [.int x, .int (nI 0), .int (nI 7)]) (rest := []) ⟨hx, hb, hml, hown, hts⟩ (m3_in l D x (nI 0) (nI 7)) (va_cwS 3 hts gX3_isGuest_X3_in rfl rfl rfl (by decide +kernel) ⟨Nat.le_of_ble_eq_true rfl, Nat.le_of_ble_eq_true rfl⟩) (q_pS (hP.sub [] rfl) (hK.sub [] rfl)) rfl rfl hl.1 rfl (lv_room (Nat.le_of_ble_eq_true rfl)) dX3_isGuest_4 ⟨Nat.le_of_ble_eq_true rfl, Nat.le_of_ble_eq_true rfl⟩) hP hS (fun x1 H locs e1 hP hS => ?_)
  have e1 : x1 = p_b (q_in (nI 0) (nI 7) x) := e1
  exact hret _ _ _ _ _ (by rw [e1]; unfold p_b; split <;> rfl) e1 trivial hS dX3_isGuest_7
set_option maxHeartbeats 4000000 in
set_option maxRecDepth 100000 in
theorem m3_isPot (l : Launch) (D : va_G) (x : Int32) : q_I l yX3_isPot wsX3_isPot { frames := 1, cells := 0, slots := 0, locals := 22 } [.int x] (q_bp D ([]) []) (fun v => v = p_b (q_in (nI 0) (nI 2) x)) (fun H => True) (fun _ => False) 0 0 := by
  refine q_goI (cc := cX3_isPot) (maxL := 1) (ty := .boolean) (lv0 := [(0, .int x)]) (by decide) rfl (Nat.le_of_ble_eq_true rfl) rfl ?_
  intro p e s m args below meth c Q ls hx hb hml hts hown hP hK hl hret
  have hS : va_S (fun _ => False) s.heap s.heap [] := va_S.rf
  refine lv_iload_n hx hb dX3_isPot_0 rfl (lv_at hl 0 rfl) ?_
  refine lv_iconst (v := nI 0) hx hb dX3_isPot_1 (by decide) ?_
  refine lv_iconst (v := nI 2) hx hb dX3_isPot_2 (by decide) ?_
  refine q_ciR (va_runS (rm := { frames := 0, cells := 0, slots := 0, locals := 0 }) (As := [.int x, .int (nI 0), .int (nI 2)]) (rest := []) ⟨hx, hb, hml, hown, hts⟩ (m3_in l D x (nI 0) (nI 2)) (va_cwS 3 hts gX3_isPot_X3_in rfl rfl rfl (by decide +kernel) ⟨Nat.le_of_ble_eq_true rfl, Nat.le_of_ble_eq_true rfl⟩) (q_pS (hP.sub [] rfl) (hK.sub [] rfl)) rfl rfl hl.1 rfl (lv_room (Nat.le_of_ble_eq_true rfl)) dX3_isPot_3 ⟨Nat.le_of_ble_eq_true rfl, Nat.le_of_ble_eq_true rfl⟩) hP hS (fun x1 H locs e1 hP hS => ?_)
  have e1 : x1 = p_b (q_in (nI 0) (nI 2) x) := e1
  exact hret _ _ _ _ _ (by rw [e1]; unfold p_b; split <;> rfl) e1 trivial hS dX3_isPot_6
set_option maxHeartbeats 4000000 in
set_option maxRecDepth 100000 in
theorem m3_holds0 (l : Launch) (D : va_G) (cI : ClassId) (o : Nat) (fs : List Value) (hF : 0 < fs.length) : q_I l yX3_holds wsX3_holds { frames := 0, cells := 0, slots := 0, locals := 0 } [.ref o, .int (nI 0)] (q_bp D ([(o, .inr (3, fs))]) []) (fun v => v = nI 1) (fun H => va_at D vwCl (o, .inr (3, fs.set 0 (.int (nI 0)))) H) (fun q => q = o) 0 0 := by
  refine q_goI (cc := cX3_holds) (maxL := 2) (ty := .boolean) (lv0 := [(0, .ref o), (1, .int (nI 0))]) (by decide) rfl (Nat.le_of_ble_eq_true rfl) rfl ?_
  intro p e s m args below meth c Q ls hx hb hml hts hown hP hK hl hret
  have hi3 : ∀ w ∈ wsX30, w ∈ wsX3_holds := by decide +kernel
  have hfl32 := hts (.fieldLink RX3 32 "WhisperedPotsModel" "thrown" "I") (by decide +kernel)
  have hS : va_S (fun q => q = o) s.heap s.heap [] := va_S.rf
  have hD : va_D (fun _ => True) [(o, (.inr (3, fs) : va_E))] := q_d1
  refine lv_aload_n hx hb dX3_holds_0 rfl (lv_at hl 0 rfl) ?_
  refine lv_iload_n hx hb dX3_holds_1 rfl (lv_at hl 1 rfl) ?_
  refine q_pt (D := D) (ci := 3) (v := .int (nI 0)) (ty := .int) (C := RX3) (T := TX3) (N := 15) hx hb hts hi3 tyX3 tyX3_ok nmX3 hown hK hP hD hS rfl 0 rfl rfl 0 (by decide) hfl32 (fun _ h9 => h9) rfl (by decide +kernel) rfl rfl hF (ws' := [(o, .inr (3, fs.set 0 (.int (nI 0))))]) rfl dX3_holds_2 (fun H locs hP hD hS => ?_)
  refine lv_iload_n hx hb dX3_holds_5 rfl (lv_at hl 1 rfl) ?_
  refine lv_if_ne (tgt := 13) hx hb dX3_holds_6 (by decide) (fun c1 => absurd c1 (by decide)) (fun c1 => ?_)
  refine lv_iconst (v := nI 1) hx hb dX3_holds_9 (by decide) ?_
  refine lv_goto (tgt := 14) hx hb dX3_holds_10 (by decide) ?_
  exact hret _ _ _ _ _ (by decide) rfl (hP 0 _ rfl) hS dX3_holds_14
set_option maxHeartbeats 4000000 in
set_option maxRecDepth 100000 in
theorem m3_holds1 (l : Launch) (D : va_G) (cI : ClassId) (o : Nat) (fs : List Value) (hF : 0 < fs.length) : q_I l yX3_holds wsX3_holds { frames := 0, cells := 0, slots := 0, locals := 0 } [.ref o, .int (nI 1)] (q_bp D ([(o, .inr (3, fs))]) []) (fun v => v = nI 0) (fun H => va_at D vwCl (o, .inr (3, fs.set 0 (.int (nI 1)))) H) (fun q => q = o) 0 0 := by
  refine q_goI (cc := cX3_holds) (maxL := 2) (ty := .boolean) (lv0 := [(0, .ref o), (1, .int (nI 1))]) (by decide) rfl (Nat.le_of_ble_eq_true rfl) rfl ?_
  intro p e s m args below meth c Q ls hx hb hml hts hown hP hK hl hret
  have hi3 : ∀ w ∈ wsX30, w ∈ wsX3_holds := by decide +kernel
  have hfl32 := hts (.fieldLink RX3 32 "WhisperedPotsModel" "thrown" "I") (by decide +kernel)
  have hS : va_S (fun q => q = o) s.heap s.heap [] := va_S.rf
  have hD : va_D (fun _ => True) [(o, (.inr (3, fs) : va_E))] := q_d1
  refine lv_aload_n hx hb dX3_holds_0 rfl (lv_at hl 0 rfl) ?_
  refine lv_iload_n hx hb dX3_holds_1 rfl (lv_at hl 1 rfl) ?_
  refine q_pt (D := D) (ci := 3) (v := .int (nI 1)) (ty := .int) (C := RX3) (T := TX3) (N := 15) hx hb hts hi3 tyX3 tyX3_ok nmX3 hown hK hP hD hS rfl 0 rfl rfl 0 (by decide) hfl32 (fun _ h9 => h9) rfl (by decide +kernel) rfl rfl hF (ws' := [(o, .inr (3, fs.set 0 (.int (nI 1))))]) rfl dX3_holds_2 (fun H locs hP hD hS => ?_)
  refine lv_iload_n hx hb dX3_holds_5 rfl (lv_at hl 1 rfl) ?_
  refine lv_if_ne (tgt := 13) hx hb dX3_holds_6 (by decide) (fun c1 => ?_) (fun c1 => absurd c1 (by decide))
  refine lv_iconst (v := nI 0) hx hb dX3_holds_13 (by decide) ?_
  exact hret _ _ _ _ _ (by decide) rfl (hP 0 _ rfl) hS dX3_holds_14
set_option maxHeartbeats 4000000 in
set_option maxRecDepth 100000 in
theorem m3_holds2 (l : Launch) (D : va_G) (cI : ClassId) (o : Nat) (fs : List Value) (hF : 0 < fs.length) : q_I l yX3_holds wsX3_holds { frames := 0, cells := 0, slots := 0, locals := 0 } [.ref o, .int (nI 2)] (q_bp D ([(o, .inr (3, fs))]) []) (fun v => v = nI 0) (fun H => va_at D vwCl (o, .inr (3, fs.set 0 (.int (nI 2)))) H) (fun q => q = o) 0 0 := by
  refine q_goI (cc := cX3_holds) (maxL := 2) (ty := .boolean) (lv0 := [(0, .ref o), (1, .int (nI 2))]) (by decide) rfl (Nat.le_of_ble_eq_true rfl) rfl ?_
  intro p e s m args below meth c Q ls hx hb hml hts hown hP hK hl hret
  have hi3 : ∀ w ∈ wsX30, w ∈ wsX3_holds := by decide +kernel
  have hfl32 := hts (.fieldLink RX3 32 "WhisperedPotsModel" "thrown" "I") (by decide +kernel)
  have hS : va_S (fun q => q = o) s.heap s.heap [] := va_S.rf
  have hD : va_D (fun _ => True) [(o, (.inr (3, fs) : va_E))] := q_d1
  refine lv_aload_n hx hb dX3_holds_0 rfl (lv_at hl 0 rfl) ?_
  refine lv_iload_n hx hb dX3_holds_1 rfl (lv_at hl 1 rfl) ?_
  refine q_pt (D := D) (ci := 3) (v := .int (nI 2)) (ty := .int) (C := RX3) (T := TX3) (N := 15) hx hb hts hi3 tyX3 tyX3_ok nmX3 hown hK hP hD hS rfl 0 rfl rfl 0 (by decide) hfl32 (fun _ h9 => h9) rfl (by decide +kernel) rfl rfl hF (ws' := [(o, .inr (3, fs.set 0 (.int (nI 2))))]) rfl dX3_holds_2 (fun H locs hP hD hS => ?_)
  refine lv_iload_n hx hb dX3_holds_5 rfl (lv_at hl 1 rfl) ?_
  refine lv_if_ne (tgt := 13) hx hb dX3_holds_6 (by decide) (fun c1 => ?_) (fun c1 => absurd c1 (by decide))
  refine lv_iconst (v := nI 0) hx hb dX3_holds_13 (by decide) ?_
  exact hret _ _ _ _ _ (by decide) rfl (hP 0 _ rfl) hS dX3_holds_14
set_option maxHeartbeats 4000000 in
set_option maxRecDepth 100000 in
theorem m3_holds3 (l : Launch) (D : va_G) (cI : ClassId) (o : Nat) (fs : List Value) (hF : 0 < fs.length) : q_I l yX3_holds wsX3_holds { frames := 0, cells := 0, slots := 0, locals := 0 } [.ref o, .int (nI 3)] (q_bp D ([(o, .inr (3, fs))]) []) (fun v => v = nI 0) (fun H => va_at D vwCl (o, .inr (3, fs.set 0 (.int (nI 3)))) H) (fun q => q = o) 0 0 := by
  refine q_goI (cc := cX3_holds) (maxL := 2) (ty := .boolean) (lv0 := [(0, .ref o), (1, .int (nI 3))]) (by decide) rfl (Nat.le_of_ble_eq_true rfl) rfl ?_
  intro p e s m args below meth c Q ls hx hb hml hts hown hP hK hl hret
  have hi3 : ∀ w ∈ wsX30, w ∈ wsX3_holds := by decide +kernel
  have hfl32 := hts (.fieldLink RX3 32 "WhisperedPotsModel" "thrown" "I") (by decide +kernel)
  have hS : va_S (fun q => q = o) s.heap s.heap [] := va_S.rf
  have hD : va_D (fun _ => True) [(o, (.inr (3, fs) : va_E))] := q_d1
  refine lv_aload_n hx hb dX3_holds_0 rfl (lv_at hl 0 rfl) ?_
  refine lv_iload_n hx hb dX3_holds_1 rfl (lv_at hl 1 rfl) ?_
  refine q_pt (D := D) (ci := 3) (v := .int (nI 3)) (ty := .int) (C := RX3) (T := TX3) (N := 15) hx hb hts hi3 tyX3 tyX3_ok nmX3 hown hK hP hD hS rfl 0 rfl rfl 0 (by decide) hfl32 (fun _ h9 => h9) rfl (by decide +kernel) rfl rfl hF (ws' := [(o, .inr (3, fs.set 0 (.int (nI 3))))]) rfl dX3_holds_2 (fun H locs hP hD hS => ?_)
  refine lv_iload_n hx hb dX3_holds_5 rfl (lv_at hl 1 rfl) ?_
  refine lv_if_ne (tgt := 13) hx hb dX3_holds_6 (by decide) (fun c1 => ?_) (fun c1 => absurd c1 (by decide))
  refine lv_iconst (v := nI 0) hx hb dX3_holds_13 (by decide) ?_
  exact hret _ _ _ _ _ (by decide) rfl (hP 0 _ rfl) hS dX3_holds_14
set_option maxHeartbeats 4000000 in
set_option maxRecDepth 100000 in
theorem m3_save6 (l : Launch) (D : va_G) (cI : ClassId) (o ps pa pv pn px : Nat) (f fa fv fn fx : Nat → Int32) (th kp ln sp wr le wh te : Int32) (dg : Int64) (hD : va_D (fun _ => True) (wR o ps pa pv pn px cI (oM ps pa pv pn px th (nI 6) kp ln sp wr le wh te dg) (rr f) fa fv fn fx)) : q_V l yX3_save wsX3_save { frames := 0, cells := 0, slots := 0, locals := 0 } [.ref o] (q_bp D (wR o ps pa pv pn px cI (oM ps pa pv pn px th (nI 6) kp ln sp wr le wh te dg) (rr f) fa fv fn fx) [(cI, .int)]) (fun H => va_P D vwCl (wR o ps pa pv pn px cI (oM ps pa pv pn px th (nI 6) kp ln sp wr le wh te dg) (rr f) fa (cp 690 138 (rr f) (sh 690 fv)) fn fx) H) (AM o ps pa pv pn px) 0 0 := by
  refine q_goV (cc := cX3_save) (maxL := 2) (lv0 := [(0, .ref o)]) (by decide) rfl (Nat.le_of_ble_eq_true rfl) rfl ?_
  intro p e s m args below meth c Q ls hx hb hml hts hown hP hK hl hret hnm
  have hi3 : ∀ w ∈ wsX30, w ∈ wsX3_save := by decide +kernel
  have hfl40 := hts (.fieldLink RX3 40 "WhisperedPotsModel" "savedMany" "I") (by decide +kernel)
  have hfl16 := hts (.fieldLink RX3 16 "WhisperedPotsModel" "saved" "[I") (by decide +kernel)
  have hfl7 := hts (.fieldLink RX3 7 "WhisperedPotsModel" "s" "[I") (by decide +kernel)
  have hS : va_S (AM o ps pa pv pn px) s.heap s.heap [] := va_S.rf
  refine lv_aload_n hx hb dX3_save_0 rfl (lv_at hl 0 rfl) ?_
  refine va_get (D := D) (ci := 3) (v := .int (nI 6)) (C := RX3) (T := TX3) (N := 15) hx hb hts hi3 hown hK hP 0 rfl rfl 4 (by decide) hfl40 (fun _ h9 => h9) rfl dX3_save_1 ?_
  refine lv_bipush (v := nI 6) hx hb dX3_save_4 (by decide) ?_
  refine q_neN (tgt := 50) hx hb (by omega) (by omega) dX3_save_6 (by decide) (fun c1 => absurd c1 (by decide)) (fun c1 => ?_)
  refine lv_iconst (v := nI 0) hx hb dX3_save_9 (by decide) ?_
  refine lv_istore_n (lv' := [(1, .int (nI 0)), (0, .ref o)]) hx hb dX3_save_10 rfl hl (by decide) rfl (fun ls hl => ?_)
  have LQ : ∀ (n i : Nat)  (H : Heap) (locs : List Loc) (ls : Array Slot), i + n = 690 → va_P D vwCl (wR o ps pa pv pn px cI (oM ps pa pv pn px th (nI 6) kp ln sp wr le wh te dg) (rr f) fa (sh i fv) fn fx) H → va_D (fun _ => True) (wR o ps pa pv pn px cI (oM ps pa pv pn px th (nI 6) kp ln sp wr le wh te dg) (rr f) fa (sh i fv) fn fx) → va_S (AM o ps pa pv pn px) s.heap H locs → lv_has ls 2 [(1, .int (nI i)), (0, .ref o)] → W p l e { frames := 0, cells := 0, slots := 0, locals := 0 } s m args below meth c H locs 0 0 Q (F0 m 11 ls []) := by
    intro n
    induction n with
    | zero =>
      intro i  H locs ls hi  hP hD hS hl
      obtain rfl : 690 = i := by omega
      refine lv_iload_n hx hb dX3_save_11 rfl (lv_at hl 0 rfl) ?_
      refine lv_sipush (v := nI 690) hx hb dX3_save_12 (by decide) ?_
      refine q_geN (tgt := 40) hx hb (by omega) (by omega) dX3_save_15 (by decide) (fun c2 => ?_) (fun c2 => absurd c2 (by omega))
      refine lv_aload_n hx hb dX3_save_40 rfl (lv_at hl 1 rfl) ?_
      refine lv_dup hx hb dX3_save_41 rfl ?_
      refine va_get (D := D) (ci := 3) (v := .int (nI 6)) (C := RX3) (T := TX3) (N := 15) hx hb hts hi3 hown hK hP 0 rfl rfl 4 (by decide) hfl40 (fun _ h9 => h9) rfl dX3_save_42 ?_
      refine lv_iconst (v := nI 1) hx hb dX3_save_45 (by decide) ?_
      refine q_subN hx hb 5 (by omega) dX3_save_46 ?_
      refine q_pt (D := D) (ci := 3) (v := .int (nI 5)) (ty := .int) (C := RX3) (T := TX3) (N := 15) hx hb hts hi3 tyX3 tyX3_ok nmX3 hown hK hP hD hS (Or.inl rfl) 0 rfl rfl 4 (by decide) hfl40 (fun _ h9 => h9) rfl (by decide +kernel) rfl rfl (Nat.le_of_ble_eq_true rfl) (ws' := wR o ps pa pv pn px cI (oM ps pa pv pn px th (nI 5) kp ln sp wr le wh te dg) (rr f) fa (sh 690 fv) fn fx) rfl dX3_save_47 (fun H locs hP hD hS => ?_)
      refine lv_iconst (v := nI 0) hx hb dX3_save_50 (by decide) ?_
      refine lv_istore_n (lv' := [(1, .int (nI 0)), (0, .ref o)]) hx hb dX3_save_51 rfl hl (by decide) rfl (fun ls hl => ?_)
      have LP : ∀ (n i : Nat)  (H : Heap) (locs : List Loc) (ls : Array Slot), i + n = 138 → va_P D vwCl (wR o ps pa pv pn px cI (oM ps pa pv pn px th (nI 5) kp ln sp wr le wh te dg) (rr f) fa (cp 690 i (rr f) (sh 690 fv)) fn fx) H → va_D (fun _ => True) (wR o ps pa pv pn px cI (oM ps pa pv pn px th (nI 5) kp ln sp wr le wh te dg) (rr f) fa (cp 690 i (rr f) (sh 690 fv)) fn fx) → va_S (AM o ps pa pv pn px) s.heap H locs → lv_has ls 2 [(1, .int (nI i)), (0, .ref o)] → W p l e { frames := 0, cells := 0, slots := 0, locals := 0 } s m args below meth c H locs 0 0 Q (F0 m 52 ls []) := by
        intro n
        induction n with
        | zero =>
          intro i  H locs ls hi  hP hD hS hl
          obtain rfl : 138 = i := by omega
          refine lv_iload_n hx hb dX3_save_52 rfl (lv_at hl 0 rfl) ?_
          refine lv_sipush (v := nI 138) hx hb dX3_save_53 (by decide) ?_
          refine q_geN (tgt := 86) hx hb (by omega) (by omega) dX3_save_56 (by decide) (fun c3 => ?_) (fun c3 => absurd c3 (by omega))
          refine lv_aload_n hx hb dX3_save_86 rfl (lv_at hl 1 rfl) ?_
          refine lv_dup hx hb dX3_save_87 rfl ?_
          refine va_get (D := D) (ci := 3) (v := .int (nI 5)) (C := RX3) (T := TX3) (N := 15) hx hb hts hi3 hown hK hP 0 rfl rfl 4 (by decide) hfl40 (fun _ h9 => h9) rfl dX3_save_88 ?_
          refine lv_iconst (v := nI 1) hx hb dX3_save_91 (by decide) ?_
          refine q_addN hx hb 6 (by omega) dX3_save_92 ?_
          refine q_pt (D := D) (ci := 3) (v := .int (nI 6)) (ty := .int) (C := RX3) (T := TX3) (N := 15) hx hb hts hi3 tyX3 tyX3_ok nmX3 hown hK hP hD hS (Or.inl rfl) 0 rfl rfl 4 (by decide) hfl40 (fun _ h9 => h9) rfl (by decide +kernel) rfl rfl (Nat.le_of_ble_eq_true rfl) (ws' := wR o ps pa pv pn px cI (oM ps pa pv pn px th (nI 6) kp ln sp wr le wh te dg) (rr f) fa (cp 690 138 (rr f) (sh 690 fv)) fn fx) rfl dX3_save_93 (fun H locs hP hD hS => ?_)
          exact hret _ _ _ _ (hP) hS dX3_save_96
        | succ n ih =>
          intro i  H locs ls hi  hP hD hS hl
          refine lv_iload_n hx hb dX3_save_52 rfl (lv_at hl 0 rfl) ?_
          refine lv_sipush (v := nI 138) hx hb dX3_save_53 (by decide) ?_
          refine q_geN (tgt := 86) hx hb (by omega) (by omega) dX3_save_56 (by decide) (fun c4 => absurd c4 (by omega)) (fun c4 => ?_)
          refine lv_aload_n hx hb dX3_save_59 rfl (lv_at hl 1 rfl) ?_
          refine va_get (D := D) (ci := 3) (v := .ref pv) (C := RX3) (T := TX3) (N := 15) hx hb hts hi3 hown hK hP 0 rfl rfl 3 (by decide) hfl16 (fun _ h9 => h9) rfl dX3_save_60 ?_
          refine lv_sipush (v := nI 138) hx hb dX3_save_63 (by decide) ?_
          refine lv_aload_n hx hb dX3_save_66 rfl (lv_at hl 1 rfl) ?_
          refine va_get (D := D) (ci := 3) (v := .int (nI 5)) (C := RX3) (T := TX3) (N := 15) hx hb hts hi3 hown hK hP 0 rfl rfl 4 (by decide) hfl40 (fun _ h9 => h9) rfl dX3_save_67 ?_
          refine q_mulN hx hb 690 (by omega) dX3_save_70 ?_
          refine lv_iload_n hx hb dX3_save_71 rfl (lv_at hl 0 rfl) ?_
          refine q_addN hx hb (690 + i) (by omega) dX3_save_72 ?_
          refine lv_aload_n hx hb dX3_save_73 rfl (lv_at hl 1 rfl) ?_
          refine va_get (D := D) (ci := 3) (v := .ref ps) (C := RX3) (T := TX3) (N := 15) hx hb hts hi3 hown hK hP 0 rfl rfl 1 (by decide) hfl7 (fun _ h9 => h9) rfl dX3_save_74 ?_
          refine lv_iload_n hx hb dX3_save_77 rfl (lv_at hl 0 rfl) ?_
          refine q_ld hx hb hK hP 1 0 rfl rfl (j := i) (by omega) (by omega) rfl dX3_save_78 ?_
          refine lv_topi (fun x5 e5 => ?_)
          refine q_st hx hb hK hP hD hS 3 0 rfl rfl (Or.inr (Or.inr (Or.inr (Or.inl rfl)))) (j := (690 + i)) (by omega) (by omega) (fun g => wR o ps pa pv pn px cI (oM ps pa pv pn px th (nI 5) kp ln sp wr le wh te dg) (rr f) fa g fn fx) (fun _ => rfl) dX3_save_79 (fun H locs f6 hf6 hP hD hS => ?_)
          refine lv_iinc (v := (nI (i + 1))) (lv' := [(1, .int (nI (i + 1))), (0, .ref o)]) hx hb dX3_save_80 hl (k := 0) rfl (q_inc i 1 (i + 1) (by omega)) (by decide) rfl (fun ls hl => ?_)
          refine lv_goto (tgt := 52) hx hb dX3_save_83 (by decide) ?_
          have hw : f6 = cp 690 (i + 1) (rr f) (sh 690 fv) := by
            rw [hf6, e5]
            exact cp_1 690 i (rr f) (sh 690 fv)
          rw [hw] at hP hD
          exact ih (i + 1) _ _ _ (by omega) hP hD hS (lv_sub hl [0, 1] rfl)
      exact LP 138 0  _ _ _ (by omega)  (by rw [cp_0]; exact hP) (by rw [cp_0]; exact hD) hS (lv_sub hl [0, 1] rfl)
    | succ n ih =>
      intro i  H locs ls hi  hP hD hS hl
      refine lv_iload_n hx hb dX3_save_11 rfl (lv_at hl 0 rfl) ?_
      refine lv_sipush (v := nI 690) hx hb dX3_save_12 (by decide) ?_
      refine q_geN (tgt := 40) hx hb (by omega) (by omega) dX3_save_15 (by decide) (fun c7 => absurd c7 (by omega)) (fun c7 => ?_)
      refine lv_aload_n hx hb dX3_save_18 rfl (lv_at hl 1 rfl) ?_
      refine va_get (D := D) (ci := 3) (v := .ref pv) (C := RX3) (T := TX3) (N := 15) hx hb hts hi3 hown hK hP 0 rfl rfl 3 (by decide) hfl16 (fun _ h9 => h9) rfl dX3_save_19 ?_
      refine lv_iload_n hx hb dX3_save_22 rfl (lv_at hl 0 rfl) ?_
      refine lv_aload_n hx hb dX3_save_23 rfl (lv_at hl 1 rfl) ?_
      refine va_get (D := D) (ci := 3) (v := .ref pv) (C := RX3) (T := TX3) (N := 15) hx hb hts hi3 hown hK hP 0 rfl rfl 3 (by decide) hfl16 (fun _ h9 => h9) rfl dX3_save_24 ?_
      refine lv_iload_n hx hb dX3_save_27 rfl (lv_at hl 0 rfl) ?_
      refine lv_sipush (v := nI 138) hx hb dX3_save_28 (by decide) ?_
      refine q_addN hx hb (138 + i) (by omega) dX3_save_31 ?_
      refine q_ld hx hb hK hP 3 0 rfl rfl (j := (138 + i)) (by omega) (by omega) rfl dX3_save_32 ?_
      refine lv_topi (fun x8 e8 => ?_)
      refine q_st hx hb hK hP hD hS 3 0 rfl rfl (Or.inr (Or.inr (Or.inr (Or.inl rfl)))) (j := i) (by omega) (by omega) (fun g => wR o ps pa pv pn px cI (oM ps pa pv pn px th (nI 6) kp ln sp wr le wh te dg) (rr f) fa g fn fx) (fun _ => rfl) dX3_save_33 (fun H locs f9 hf9 hP hD hS => ?_)
      refine lv_iinc (v := (nI (i + 1))) (lv' := [(1, .int (nI (i + 1))), (0, .ref o)]) hx hb dX3_save_34 hl (k := 0) rfl (q_inc i 1 (i + 1) (by omega)) (by decide) rfl (fun ls hl => ?_)
      refine lv_goto (tgt := 11) hx hb dX3_save_37 (by decide) ?_
      have hw : f9 = sh (i + 1) fv := by
        rw [hf9, e8]
        exact sh_1 i fv
      rw [hw] at hP hD
      exact ih (i + 1) _ _ _ (by omega) hP hD hS (lv_sub hl [0, 1] rfl)
  exact LQ 690 0  _ _ _ (by omega)  (by rw [sh_0]; exact hP) (by rw [sh_0]; exact hD) hS (lv_sub hl [0, 1] rfl)
set_option maxHeartbeats 4000000 in
set_option maxRecDepth 100000 in
theorem m3_saven (l : Launch) (D : va_G) (cI : ClassId) (o ps pa pv pn px : Nat) (f fa fv fn fx : Nat → Int32) (ns : Nat) (hn : ns < 6) (th kp ln sp wr le wh te : Int32) (dg : Int64) (hD : va_D (fun _ => True) (wR o ps pa pv pn px cI (oM ps pa pv pn px th (nI ns) kp ln sp wr le wh te dg) (rr f) fa fv fn fx)) : q_V l yX3_save wsX3_save { frames := 0, cells := 0, slots := 0, locals := 0 } [.ref o] (q_bp D (wR o ps pa pv pn px cI (oM ps pa pv pn px th (nI ns) kp ln sp wr le wh te dg) (rr f) fa fv fn fx) [(cI, .int)]) (fun H => va_P D vwCl (wR o ps pa pv pn px cI (oM ps pa pv pn px th (nI (1 + ns)) kp ln sp wr le wh te dg) (rr f) fa (cp (138 * ns) 138 (rr f) fv) fn fx) H) (AM o ps pa pv pn px) 0 0 := by
  refine q_goV (cc := cX3_save) (maxL := 2) (lv0 := [(0, .ref o)]) (by decide) rfl (Nat.le_of_ble_eq_true rfl) rfl ?_
  intro p e s m args below meth c Q ls hx hb hml hts hown hP hK hl hret hnm
  have hi3 : ∀ w ∈ wsX30, w ∈ wsX3_save := by decide +kernel
  have hfl40 := hts (.fieldLink RX3 40 "WhisperedPotsModel" "savedMany" "I") (by decide +kernel)
  have hfl16 := hts (.fieldLink RX3 16 "WhisperedPotsModel" "saved" "[I") (by decide +kernel)
  have hfl7 := hts (.fieldLink RX3 7 "WhisperedPotsModel" "s" "[I") (by decide +kernel)
  have hS : va_S (AM o ps pa pv pn px) s.heap s.heap [] := va_S.rf
  refine lv_aload_n hx hb dX3_save_0 rfl (lv_at hl 0 rfl) ?_
  refine va_get (D := D) (ci := 3) (v := .int (nI ns)) (C := RX3) (T := TX3) (N := 15) hx hb hts hi3 hown hK hP 0 rfl rfl 4 (by decide) hfl40 (fun _ h9 => h9) rfl dX3_save_1 ?_
  refine lv_bipush (v := nI 6) hx hb dX3_save_4 (by decide) ?_
  refine q_neN (tgt := 50) hx hb (by omega) (by omega) dX3_save_6 (by decide) (fun c1 => ?_) (fun c1 => absurd c1 (by omega))
  refine lv_iconst (v := nI 0) hx hb dX3_save_50 (by decide) ?_
  refine lv_istore_n (lv' := [(1, .int (nI 0)), (0, .ref o)]) hx hb dX3_save_51 rfl hl (by decide) rfl (fun ls hl => ?_)
  have LP : ∀ (n i : Nat)  (H : Heap) (locs : List Loc) (ls : Array Slot), i + n = 138 → va_P D vwCl (wR o ps pa pv pn px cI (oM ps pa pv pn px th (nI ns) kp ln sp wr le wh te dg) (rr f) fa (cp (138 * ns) i (rr f) fv) fn fx) H → va_D (fun _ => True) (wR o ps pa pv pn px cI (oM ps pa pv pn px th (nI ns) kp ln sp wr le wh te dg) (rr f) fa (cp (138 * ns) i (rr f) fv) fn fx) → va_S (AM o ps pa pv pn px) s.heap H locs → lv_has ls 2 [(1, .int (nI i)), (0, .ref o)] → W p l e { frames := 0, cells := 0, slots := 0, locals := 0 } s m args below meth c H locs 0 0 Q (F0 m 52 ls []) := by
    intro n
    induction n with
    | zero =>
      intro i  H locs ls hi  hP hD hS hl
      obtain rfl : 138 = i := by omega
      refine lv_iload_n hx hb dX3_save_52 rfl (lv_at hl 0 rfl) ?_
      refine lv_sipush (v := nI 138) hx hb dX3_save_53 (by decide) ?_
      refine q_geN (tgt := 86) hx hb (by omega) (by omega) dX3_save_56 (by decide) (fun c2 => ?_) (fun c2 => absurd c2 (by omega))
      refine lv_aload_n hx hb dX3_save_86 rfl (lv_at hl 1 rfl) ?_
      refine lv_dup hx hb dX3_save_87 rfl ?_
      refine va_get (D := D) (ci := 3) (v := .int (nI ns)) (C := RX3) (T := TX3) (N := 15) hx hb hts hi3 hown hK hP 0 rfl rfl 4 (by decide) hfl40 (fun _ h9 => h9) rfl dX3_save_88 ?_
      refine lv_iconst (v := nI 1) hx hb dX3_save_91 (by decide) ?_
      refine q_addN hx hb (1 + ns) (by omega) dX3_save_92 ?_
      refine q_pt (D := D) (ci := 3) (v := .int (nI (1 + ns))) (ty := .int) (C := RX3) (T := TX3) (N := 15) hx hb hts hi3 tyX3 tyX3_ok nmX3 hown hK hP hD hS (Or.inl rfl) 0 rfl rfl 4 (by decide) hfl40 (fun _ h9 => h9) rfl (by decide +kernel) rfl rfl (Nat.le_of_ble_eq_true rfl) (ws' := wR o ps pa pv pn px cI (oM ps pa pv pn px th (nI (1 + ns)) kp ln sp wr le wh te dg) (rr f) fa (cp (138 * ns) 138 (rr f) fv) fn fx) rfl dX3_save_93 (fun H locs hP hD hS => ?_)
      exact hret _ _ _ _ (hP) hS dX3_save_96
    | succ n ih =>
      intro i  H locs ls hi  hP hD hS hl
      refine lv_iload_n hx hb dX3_save_52 rfl (lv_at hl 0 rfl) ?_
      refine lv_sipush (v := nI 138) hx hb dX3_save_53 (by decide) ?_
      refine q_geN (tgt := 86) hx hb (by omega) (by omega) dX3_save_56 (by decide) (fun c3 => absurd c3 (by omega)) (fun c3 => ?_)
      refine lv_aload_n hx hb dX3_save_59 rfl (lv_at hl 1 rfl) ?_
      refine va_get (D := D) (ci := 3) (v := .ref pv) (C := RX3) (T := TX3) (N := 15) hx hb hts hi3 hown hK hP 0 rfl rfl 3 (by decide) hfl16 (fun _ h9 => h9) rfl dX3_save_60 ?_
      refine lv_sipush (v := nI 138) hx hb dX3_save_63 (by decide) ?_
      refine lv_aload_n hx hb dX3_save_66 rfl (lv_at hl 1 rfl) ?_
      refine va_get (D := D) (ci := 3) (v := .int (nI ns)) (C := RX3) (T := TX3) (N := 15) hx hb hts hi3 hown hK hP 0 rfl rfl 4 (by decide) hfl40 (fun _ h9 => h9) rfl dX3_save_67 ?_
      refine q_mulN hx hb (138 * ns) (by omega) dX3_save_70 ?_
      refine lv_iload_n hx hb dX3_save_71 rfl (lv_at hl 0 rfl) ?_
      refine q_addN hx hb (138 * ns + i) (by omega) dX3_save_72 ?_
      refine lv_aload_n hx hb dX3_save_73 rfl (lv_at hl 1 rfl) ?_
      refine va_get (D := D) (ci := 3) (v := .ref ps) (C := RX3) (T := TX3) (N := 15) hx hb hts hi3 hown hK hP 0 rfl rfl 1 (by decide) hfl7 (fun _ h9 => h9) rfl dX3_save_74 ?_
      refine lv_iload_n hx hb dX3_save_77 rfl (lv_at hl 0 rfl) ?_
      refine q_ld hx hb hK hP 1 0 rfl rfl (j := i) (by omega) (by omega) rfl dX3_save_78 ?_
      refine lv_topi (fun x4 e4 => ?_)
      refine q_st hx hb hK hP hD hS 3 0 rfl rfl (Or.inr (Or.inr (Or.inr (Or.inl rfl)))) (j := (138 * ns + i)) (by omega) (by omega) (fun g => wR o ps pa pv pn px cI (oM ps pa pv pn px th (nI ns) kp ln sp wr le wh te dg) (rr f) fa g fn fx) (fun _ => rfl) dX3_save_79 (fun H locs f5 hf5 hP hD hS => ?_)
      refine lv_iinc (v := (nI (i + 1))) (lv' := [(1, .int (nI (i + 1))), (0, .ref o)]) hx hb dX3_save_80 hl (k := 0) rfl (q_inc i 1 (i + 1) (by omega)) (by decide) rfl (fun ls hl => ?_)
      refine lv_goto (tgt := 52) hx hb dX3_save_83 (by decide) ?_
      have hw : f5 = cp (138 * ns) (i + 1) (rr f) fv := by
        rw [hf5, e4]
        exact cp_1 (138 * ns) i (rr f) fv
      rw [hw] at hP hD
      exact ih (i + 1) _ _ _ (by omega) hP hD hS (lv_sub hl [0, 1] rfl)
  exact LP 138 0  _ _ _ (by omega)  (by rw [cp_0]; exact hP) (by rw [cp_0]; exact hD) hS (lv_sub hl [0, 1] rfl)
set_option maxHeartbeats 4000000 in
set_option maxRecDepth 100000 in
theorem m3_putAside (l : Launch) (D : va_G) (cI : ClassId) (o ps pa pv pn px : Nat) (f fa fv fn fx : Nat → Int32) (th mn kp ln sp wr le wh te : Int32) (dg : Int64) (hD : va_D (fun _ => True) (wR o ps pa pv pn px cI (oM ps pa pv pn px th mn kp ln sp wr le wh te dg) (rr f) fa fv fn fx)) : q_V l yX3_putAside wsX3_putAside { frames := 0, cells := 0, slots := 0, locals := 0 } [.ref o] (q_bp D (wR o ps pa pv pn px cI (oM ps pa pv pn px th mn kp ln sp wr le wh te dg) (rr f) fa fv fn fx) [(cI, .int)]) (fun H => va_P D vwCl (wR o ps pa pv pn px cI (oM ps pa pv pn px th mn kp ln sp wr le wh te dg) (rr f) (rr f) fv fn fx) H) (AM o ps pa pv pn px) 0 0 := by
  refine q_goV (cc := cX3_putAside) (maxL := 2) (lv0 := [(0, .ref o)]) (by decide) rfl (Nat.le_of_ble_eq_true rfl) rfl ?_
  intro p e s m args below meth c Q ls hx hb hml hts hown hP hK hl hret hnm
  have hi3 : ∀ w ∈ wsX30, w ∈ wsX3_putAside := by decide +kernel
  have hfl13 := hts (.fieldLink RX3 13 "WhisperedPotsModel" "aside" "[I") (by decide +kernel)
  have hfl7 := hts (.fieldLink RX3 7 "WhisperedPotsModel" "s" "[I") (by decide +kernel)
  have hS : va_S (AM o ps pa pv pn px) s.heap s.heap [] := va_S.rf
  refine lv_iconst (v := nI 0) hx hb dX3_putAside_0 (by decide) ?_
  refine lv_istore_n (lv' := [(1, .int (nI 0)), (0, .ref o)]) hx hb dX3_putAside_1 rfl hl (by decide) rfl (fun ls hl => ?_)
  have LP : ∀ (n i : Nat)  (H : Heap) (locs : List Loc) (ls : Array Slot), i + n = 138 → va_P D vwCl (wR o ps pa pv pn px cI (oM ps pa pv pn px th mn kp ln sp wr le wh te dg) (rr f) (cp 0 i (rr f) fa) fv fn fx) H → va_D (fun _ => True) (wR o ps pa pv pn px cI (oM ps pa pv pn px th mn kp ln sp wr le wh te dg) (rr f) (cp 0 i (rr f) fa) fv fn fx) → va_S (AM o ps pa pv pn px) s.heap H locs → lv_has ls 2 [(1, .int (nI i)), (0, .ref o)] → W p l e { frames := 0, cells := 0, slots := 0, locals := 0 } s m args below meth c H locs 0 0 Q (F0 m 2 ls []) := by
    intro n
    induction n with
    | zero =>
      intro i  H locs ls hi  hP hD hS hl
      obtain rfl : 138 = i := by omega
      refine lv_iload_n hx hb dX3_putAside_2 rfl (lv_at hl 0 rfl) ?_
      refine lv_sipush (v := nI 138) hx hb dX3_putAside_3 (by decide) ?_
      refine q_geN (tgt := 27) hx hb (by omega) (by omega) dX3_putAside_6 (by decide) (fun c1 => ?_) (fun c1 => absurd c1 (by omega))
      have hP := q_norm (ws' := wR o ps pa pv pn px cI (oM ps pa pv pn px th mn kp ln sp wr le wh te dg) (rr f) (rr f) fv fn fx) hP 2 rfl (fun j hj => cp_full hj) rfl
      exact hret _ _ _ _ (hP) hS dX3_putAside_27
    | succ n ih =>
      intro i  H locs ls hi  hP hD hS hl
      refine lv_iload_n hx hb dX3_putAside_2 rfl (lv_at hl 0 rfl) ?_
      refine lv_sipush (v := nI 138) hx hb dX3_putAside_3 (by decide) ?_
      refine q_geN (tgt := 27) hx hb (by omega) (by omega) dX3_putAside_6 (by decide) (fun c2 => absurd c2 (by omega)) (fun c2 => ?_)
      refine lv_aload_n hx hb dX3_putAside_9 rfl (lv_at hl 1 rfl) ?_
      refine va_get (D := D) (ci := 3) (v := .ref pa) (C := RX3) (T := TX3) (N := 15) hx hb hts hi3 hown hK hP 0 rfl rfl 2 (by decide) hfl13 (fun _ h9 => h9) rfl dX3_putAside_10 ?_
      refine lv_iload_n hx hb dX3_putAside_13 rfl (lv_at hl 0 rfl) ?_
      refine lv_aload_n hx hb dX3_putAside_14 rfl (lv_at hl 1 rfl) ?_
      refine va_get (D := D) (ci := 3) (v := .ref ps) (C := RX3) (T := TX3) (N := 15) hx hb hts hi3 hown hK hP 0 rfl rfl 1 (by decide) hfl7 (fun _ h9 => h9) rfl dX3_putAside_15 ?_
      refine lv_iload_n hx hb dX3_putAside_18 rfl (lv_at hl 0 rfl) ?_
      refine q_ld hx hb hK hP 1 0 rfl rfl (j := i) (by omega) (by omega) rfl dX3_putAside_19 ?_
      refine lv_topi (fun x3 e3 => ?_)
      refine q_st hx hb hK hP hD hS 2 0 rfl rfl (Or.inr (Or.inr (Or.inl rfl))) (j := i) (by omega) (by omega) (fun g => wR o ps pa pv pn px cI (oM ps pa pv pn px th mn kp ln sp wr le wh te dg) (rr f) g fv fn fx) (fun _ => rfl) dX3_putAside_20 (fun H locs f4 hf4 hP hD hS => ?_)
      refine lv_iinc (v := (nI (i + 1))) (lv' := [(1, .int (nI (i + 1))), (0, .ref o)]) hx hb dX3_putAside_21 hl (k := 0) rfl (q_inc i 1 (i + 1) (by omega)) (by decide) rfl (fun ls hl => ?_)
      refine lv_goto (tgt := 2) hx hb dX3_putAside_24 (by decide) ?_
      have hw : f4 = cp 0 (i + 1) (rr f) fa := by
        rw [hf4, e3]
        exact cp_1z i (rr f) fa
      rw [hw] at hP hD
      exact ih (i + 1) _ _ _ (by omega) hP hD hS (lv_sub hl [0, 1] rfl)
  exact LP 138 0  _ _ _ (by omega)  (by rw [cp_0]; exact hP) (by rw [cp_0]; exact hD) hS (lv_sub hl [0, 1] rfl)
set_option maxHeartbeats 4000000 in
set_option maxRecDepth 100000 in
theorem m3_putBack (l : Launch) (D : va_G) (cI : ClassId) (o ps pa pv pn px : Nat) (f fz fv fn fx : Nat → Int32) (th mn kp ln sp wr le wh te : Int32) (dg : Int64) (hD : va_D (fun _ => True) (wR o ps pa pv pn px cI (oM ps pa pv pn px th mn kp ln sp wr le wh te dg) (rr f) (rr fz) fv fn fx)) : q_V l yX3_putBack wsX3_putBack { frames := 0, cells := 0, slots := 0, locals := 0 } [.ref o] (q_bp D (wR o ps pa pv pn px cI (oM ps pa pv pn px th mn kp ln sp wr le wh te dg) (rr f) (rr fz) fv fn fx) [(cI, .int)]) (fun H => va_P D vwCl (wR o ps pa pv pn px cI (oM ps pa pv pn px th mn kp ln sp wr le wh te dg) (rr fz) (rr fz) fv fn fx) H) (AM o ps pa pv pn px) 0 0 := by
  refine q_goV (cc := cX3_putBack) (maxL := 2) (lv0 := [(0, .ref o)]) (by decide) rfl (Nat.le_of_ble_eq_true rfl) rfl ?_
  intro p e s m args below meth c Q ls hx hb hml hts hown hP hK hl hret hnm
  have hi3 : ∀ w ∈ wsX30, w ∈ wsX3_putBack := by decide +kernel
  have hfl7 := hts (.fieldLink RX3 7 "WhisperedPotsModel" "s" "[I") (by decide +kernel)
  have hfl13 := hts (.fieldLink RX3 13 "WhisperedPotsModel" "aside" "[I") (by decide +kernel)
  have hS : va_S (AM o ps pa pv pn px) s.heap s.heap [] := va_S.rf
  refine lv_iconst (v := nI 0) hx hb dX3_putBack_0 (by decide) ?_
  refine lv_istore_n (lv' := [(1, .int (nI 0)), (0, .ref o)]) hx hb dX3_putBack_1 rfl hl (by decide) rfl (fun ls hl => ?_)
  have LP : ∀ (n i : Nat)  (H : Heap) (locs : List Loc) (ls : Array Slot), i + n = 138 → va_P D vwCl (wR o ps pa pv pn px cI (oM ps pa pv pn px th mn kp ln sp wr le wh te dg) (cp 0 i (rr fz) (rr f)) (rr fz) fv fn fx) H → va_D (fun _ => True) (wR o ps pa pv pn px cI (oM ps pa pv pn px th mn kp ln sp wr le wh te dg) (cp 0 i (rr fz) (rr f)) (rr fz) fv fn fx) → va_S (AM o ps pa pv pn px) s.heap H locs → lv_has ls 2 [(1, .int (nI i)), (0, .ref o)] → W p l e { frames := 0, cells := 0, slots := 0, locals := 0 } s m args below meth c H locs 0 0 Q (F0 m 2 ls []) := by
    intro n
    induction n with
    | zero =>
      intro i  H locs ls hi  hP hD hS hl
      obtain rfl : 138 = i := by omega
      refine lv_iload_n hx hb dX3_putBack_2 rfl (lv_at hl 0 rfl) ?_
      refine lv_sipush (v := nI 138) hx hb dX3_putBack_3 (by decide) ?_
      refine q_geN (tgt := 27) hx hb (by omega) (by omega) dX3_putBack_6 (by decide) (fun c1 => ?_) (fun c1 => absurd c1 (by omega))
      have hP := q_norm (ws' := wR o ps pa pv pn px cI (oM ps pa pv pn px th mn kp ln sp wr le wh te dg) (rr fz) (rr fz) fv fn fx) hP 1 rfl (fun j hj => cp_full hj) rfl
      exact hret _ _ _ _ (hP) hS dX3_putBack_27
    | succ n ih =>
      intro i  H locs ls hi  hP hD hS hl
      refine lv_iload_n hx hb dX3_putBack_2 rfl (lv_at hl 0 rfl) ?_
      refine lv_sipush (v := nI 138) hx hb dX3_putBack_3 (by decide) ?_
      refine q_geN (tgt := 27) hx hb (by omega) (by omega) dX3_putBack_6 (by decide) (fun c2 => absurd c2 (by omega)) (fun c2 => ?_)
      refine lv_aload_n hx hb dX3_putBack_9 rfl (lv_at hl 1 rfl) ?_
      refine va_get (D := D) (ci := 3) (v := .ref ps) (C := RX3) (T := TX3) (N := 15) hx hb hts hi3 hown hK hP 0 rfl rfl 1 (by decide) hfl7 (fun _ h9 => h9) rfl dX3_putBack_10 ?_
      refine lv_iload_n hx hb dX3_putBack_13 rfl (lv_at hl 0 rfl) ?_
      refine lv_aload_n hx hb dX3_putBack_14 rfl (lv_at hl 1 rfl) ?_
      refine va_get (D := D) (ci := 3) (v := .ref pa) (C := RX3) (T := TX3) (N := 15) hx hb hts hi3 hown hK hP 0 rfl rfl 2 (by decide) hfl13 (fun _ h9 => h9) rfl dX3_putBack_15 ?_
      refine lv_iload_n hx hb dX3_putBack_18 rfl (lv_at hl 0 rfl) ?_
      refine q_ld hx hb hK hP 2 0 rfl rfl (j := i) (by omega) (by omega) rfl dX3_putBack_19 ?_
      refine lv_topi (fun x3 e3 => ?_)
      refine q_st hx hb hK hP hD hS 1 0 rfl rfl (Or.inr (Or.inl rfl)) (j := i) (by omega) (by omega) (fun g => wR o ps pa pv pn px cI (oM ps pa pv pn px th mn kp ln sp wr le wh te dg) g (rr fz) fv fn fx) (fun _ => rfl) dX3_putBack_20 (fun H locs f4 hf4 hP hD hS => ?_)
      refine lv_iinc (v := (nI (i + 1))) (lv' := [(1, .int (nI (i + 1))), (0, .ref o)]) hx hb dX3_putBack_21 hl (k := 0) rfl (q_inc i 1 (i + 1) (by omega)) (by decide) rfl (fun ls hl => ?_)
      refine lv_goto (tgt := 2) hx hb dX3_putBack_24 (by decide) ?_
      have hw : f4 = cp 0 (i + 1) (rr fz) (rr f) := by
        rw [hf4, e3]
        exact cp_1z i (rr fz) (rr f)
      rw [hw] at hP hD
      exact ih (i + 1) _ _ _ (by omega) hP hD hS (lv_sub hl [0, 1] rfl)
  exact LP 138 0  _ _ _ (by omega)  (by rw [cp_0]; exact hP) (by rw [cp_0]; exact hD) hS (lv_sub hl [0, 1] rfl)
