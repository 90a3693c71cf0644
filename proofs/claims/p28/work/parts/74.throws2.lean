theorem q_inF {lo hi x : Int32} (h : q_in lo hi x = false) : x < lo ∨ hi < x := by
  unfold q_in at h
  rw [Bool.and_eq_false_iff, decide_eq_false_iff_not, decide_eq_false_iff_not] at h
  rcases h with h | h
  · exact Or.inl (Int32.not_le.mp h)
  · exact Or.inr (Int32.not_le.mp h)
set_option maxHeartbeats 4000000 in
set_option maxRecDepth 100000 in
theorem m2_requireGuest_x (l : Launch) (hl9 : l.stackTraces = false) (D : va_G) (A0 : Nat → Prop) (st : Nat → Nat) (x : Int32) (hq : q_in (nI 0) (nI 7) x = false) : q_Xv l yX2_requireGuest wsX2_requireGuest { frames := 6, cells := 1, slots := 6, locals := 82 } [.int x] st D [] [] A0 xI.cls [] (fun _ => False) := by
  refine q_goX (cc := cX2_requireGuest) (maxL := 1) (lv0 := [(0, .int x)]) (by decide) rfl (Nat.le_of_ble_eq_true rfl) rfl ?_
  intro p e s m args below meth c ls hx hb hml hts hown hP hK hl hT hnt hlk
  have hS : va_S (fun _ => False) s.heap s.heap [] := va_S.rf
  refine lv_iload_n hx hb dX2_requireGuest_0 rfl (lv_at hl 0 rfl) ?_
  refine lv_if_lt (tgt := 10) hx hb dX2_requireGuest_1 (by decide) (fun c1 => ?_) (fun c1 => ?_)
  · exact q_thr hx hb hl9 hml hl hts hown xI xI_ok (by decide +kernel) (by decide +kernel) hT hT.c1 (fun _ h => h.elim) (is := 238) (tx := "no such guest") (by decide) hS hP hnt hlk dX2_requireGuest_10 dX2_requireGuest_13 dX2_requireGuest_14 dX2_requireGuest_16 dX2_requireGuest_19 (Nat.le_of_ble_eq_true rfl) (Nat.le_of_ble_eq_true rfl) (Nat.le_of_ble_eq_true rfl) (Nat.le_of_ble_eq_true rfl) (Nat.le_of_ble_eq_true rfl) (Nat.le_of_ble_eq_true rfl)
  refine lv_iload_n hx hb dX2_requireGuest_4 rfl (lv_at hl 0 rfl) ?_
  refine lv_bipush (v := nI 8) hx hb dX2_requireGuest_5 (by decide) ?_
  refine lv_icmp_lt (tgt := 20) hx hb dX2_requireGuest_7 (by decide) (fun c2 => ?_) (fun c2 => ?_)
  · rcases q_inF hq with h | h
    · exact absurd h c1
    · rw [t_lt] at h c2
      have e7 : (nI 7).toInt = 7 := rfl
      have e8 : (nI 8).toInt = 8 := rfl
      omega
  · exact q_thr hx hb hl9 hml hl hts hown xI xI_ok (by decide +kernel) (by decide +kernel) hT hT.c1 (fun _ h => h.elim) (is := 238) (tx := "no such guest") (by decide) hS hP hnt hlk dX2_requireGuest_10 dX2_requireGuest_13 dX2_requireGuest_14 dX2_requireGuest_16 dX2_requireGuest_19 (Nat.le_of_ble_eq_true rfl) (Nat.le_of_ble_eq_true rfl) (Nat.le_of_ble_eq_true rfl) (Nat.le_of_ble_eq_true rfl) (Nat.le_of_ble_eq_true rfl) (Nat.le_of_ble_eq_true rfl)
set_option maxHeartbeats 4000000 in
set_option maxRecDepth 100000 in
theorem m2_requirePot_x (l : Launch) (hl9 : l.stackTraces = false) (D : va_G) (A0 : Nat → Prop) (st : Nat → Nat) (x : Int32) (hq : q_in (nI 0) (nI 2) x = false) : q_Xv l yX2_requirePot wsX2_requirePot { frames := 6, cells := 1, slots := 6, locals := 82 } [.int x] st D [] [] A0 xI.cls [] (fun _ => False) := by
  refine q_goX (cc := cX2_requirePot) (maxL := 1) (lv0 := [(0, .int x)]) (by decide) rfl (Nat.le_of_ble_eq_true rfl) rfl ?_
  intro p e s m args below meth c ls hx hb hml hts hown hP hK hl hT hnt hlk
  have hS : va_S (fun _ => False) s.heap s.heap [] := va_S.rf
  refine lv_iload_n hx hb dX2_requirePot_0 rfl (lv_at hl 0 rfl) ?_
  refine lv_if_lt (tgt := 9) hx hb dX2_requirePot_1 (by decide) (fun c1 => ?_) (fun c1 => ?_)
  · exact q_thr hx hb hl9 hml hl hts hown xI xI_ok (by decide +kernel) (by decide +kernel) hT hT.c1 (fun _ h => h.elim) (is := 240) (tx := "no such pot") (by decide) hS hP hnt hlk dX2_requirePot_9 dX2_requirePot_12 dX2_requirePot_13 dX2_requirePot_15 dX2_requirePot_18 (Nat.le_of_ble_eq_true rfl) (Nat.le_of_ble_eq_true rfl) (Nat.le_of_ble_eq_true rfl) (Nat.le_of_ble_eq_true rfl) (Nat.le_of_ble_eq_true rfl) (Nat.le_of_ble_eq_true rfl)
  refine lv_iload_n hx hb dX2_requirePot_4 rfl (lv_at hl 0 rfl) ?_
  refine lv_iconst (v := nI 3) hx hb dX2_requirePot_5 (by decide) ?_
  refine lv_icmp_lt (tgt := 19) hx hb dX2_requirePot_6 (by decide) (fun c2 => ?_) (fun c2 => ?_)
  · rcases q_inF hq with h | h
    · exact absurd h c1
    · rw [t_lt] at h c2
      have e7 : (nI 2).toInt = 2 := rfl
      have e8 : (nI 3).toInt = 3 := rfl
      omega
  · exact q_thr hx hb hl9 hml hl hts hown xI xI_ok (by decide +kernel) (by decide +kernel) hT hT.c1 (fun _ h => h.elim) (is := 240) (tx := "no such pot") (by decide) hS hP hnt hlk dX2_requirePot_9 dX2_requirePot_12 dX2_requirePot_13 dX2_requirePot_15 dX2_requirePot_18 (Nat.le_of_ble_eq_true rfl) (Nat.le_of_ble_eq_true rfl) (Nat.le_of_ble_eq_true rfl) (Nat.le_of_ble_eq_true rfl) (Nat.le_of_ble_eq_true rfl) (Nat.le_of_ble_eq_true rfl)
set_option maxHeartbeats 4000000 in
set_option maxRecDepth 100000 in
theorem m2_requireWithin_x (l : Launch) (hl9 : l.stackTraces = false) (D : va_G) (A0 : Nat → Prop) (st : Nat → Nat) (x lo hi : Int32) (hq : q_in lo hi x = false) : q_Xv l yX2_requireWithin wsX2_requireWithin { frames := 6, cells := 1, slots := 6, locals := 82 } [.int x, .int lo, .int hi] st D [] [] A0 xA.cls [] (fun _ => False) := by
  refine q_goX (cc := cX2_requireWithin) (maxL := 3) (lv0 := [(0, .int x), (1, .int lo), (2, .int hi)]) (by decide) rfl (Nat.le_of_ble_eq_true rfl) rfl ?_
  intro p e s m args below meth c ls hx hb hml hts hown hP hK hl hT hnt hlk
  have hS : va_S (fun _ => False) s.heap s.heap [] := va_S.rf
  refine lv_iload_n hx hb dX2_requireWithin_0 rfl (lv_at hl 0 rfl) ?_
  refine lv_iload_n hx hb dX2_requireWithin_1 rfl (lv_at hl 1 rfl) ?_
  refine lv_icmp_lt (tgt := 10) hx hb dX2_requireWithin_2 (by decide) (fun c1 => ?_) (fun c1 => ?_)
  · exact q_thr hx hb hl9 hml hl hts hown xA xA_ok (by decide +kernel) (by decide +kernel) hT hT.c2 (fun _ h => h.elim) (is := 242) (tx := "out of range") (by decide) hS hP hnt hlk dX2_requireWithin_10 dX2_requireWithin_13 dX2_requireWithin_14 dX2_requireWithin_16 dX2_requireWithin_19 (Nat.le_of_ble_eq_true rfl) (Nat.le_of_ble_eq_true rfl) (Nat.le_of_ble_eq_true rfl) (Nat.le_of_ble_eq_true rfl) (Nat.le_of_ble_eq_true rfl) (Nat.le_of_ble_eq_true rfl)
  refine lv_iload_n hx hb dX2_requireWithin_5 rfl (lv_at hl 0 rfl) ?_
  refine lv_iload_n hx hb dX2_requireWithin_6 rfl (lv_at hl 2 rfl) ?_
  refine lv_icmp_le (tgt := 20) hx hb dX2_requireWithin_7 (by decide) (fun c2 => ?_) (fun c2 => ?_)
  · rcases q_inF hq with h | h
    · exact absurd h c1
    · exact absurd c2 (Int32.not_le.mpr h)
  · exact q_thr hx hb hl9 hml hl hts hown xA xA_ok (by decide +kernel) (by decide +kernel) hT hT.c2 (fun _ h => h.elim) (is := 242) (tx := "out of range") (by decide) hS hP hnt hlk dX2_requireWithin_10 dX2_requireWithin_13 dX2_requireWithin_14 dX2_requireWithin_16 dX2_requireWithin_19 (Nat.le_of_ble_eq_true rfl) (Nat.le_of_ble_eq_true rfl) (Nat.le_of_ble_eq_true rfl) (Nat.le_of_ble_eq_true rfl) (Nat.le_of_ble_eq_true rfl) (Nat.le_of_ble_eq_true rfl)

