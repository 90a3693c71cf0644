set_option maxHeartbeats 4000000 in
set_option maxRecDepth 100000 in
theorem m2_requireGuest_ok (l : Launch) (D : va_G) (g : Nat) (hg : g < 8) : q_V l yX2_requireGuest wsX2_requireGuest { frames := 0, cells := 0, slots := 0, locals := 0 } [.int (nI g)] (q_bp D ([]) []) (fun H => True) (fun _ => False) 0 0 := by
  refine q_goV (cc := cX2_requireGuest) (maxL := 1) (lv0 := [(0, .int (nI g))]) (by decide) rfl (Nat.le_of_ble_eq_true rfl) rfl ?_
  intro p e s m args below meth c Q ls hx hb hml hts hown hP hK hl hret hnm
  have hS : va_S (fun _ => False) s.heap s.heap [] := va_S.rf
  refine lv_iload_n hx hb dX2_requireGuest_0 rfl (lv_at hl 0 rfl) ?_
  refine lv_if_lt (tgt := 10) hx hb dX2_requireGuest_1 (by decide) (fun c1 => absurd c1 (nI_pos (by omega))) (fun c1 => ?_)
  refine lv_iload_n hx hb dX2_requireGuest_4 rfl (lv_at hl 0 rfl) ?_
  refine lv_bipush (v := nI 8) hx hb dX2_requireGuest_5 (by decide) ?_
  refine lv_icmp_lt (tgt := 20) hx hb dX2_requireGuest_7 (by decide) (fun c2 => ?_) (fun c2 => absurd (nI_lt hg (by decide)) c2)
  exact hret _ _ _ _ trivial hS dX2_requireGuest_20
set_option maxHeartbeats 4000000 in
set_option maxRecDepth 100000 in
theorem m2_requirePot_ok (l : Launch) (D : va_G) (k : Nat) (hk : k < 3) : q_V l yX2_requirePot wsX2_requirePot { frames := 0, cells := 0, slots := 0, locals := 0 } [.int (nI k)] (q_bp D ([]) []) (fun H => True) (fun _ => False) 0 0 := by
  refine q_goV (cc := cX2_requirePot) (maxL := 1) (lv0 := [(0, .int (nI k))]) (by decide) rfl (Nat.le_of_ble_eq_true rfl) rfl ?_
  intro p e s m args below meth c Q ls hx hb hml hts hown hP hK hl hret hnm
  have hS : va_S (fun _ => False) s.heap s.heap [] := va_S.rf
  refine lv_iload_n hx hb dX2_requirePot_0 rfl (lv_at hl 0 rfl) ?_
  refine lv_if_lt (tgt := 9) hx hb dX2_requirePot_1 (by decide) (fun c1 => absurd c1 (nI_pos (by omega))) (fun c1 => ?_)
  refine lv_iload_n hx hb dX2_requirePot_4 rfl (lv_at hl 0 rfl) ?_
  refine lv_iconst (v := nI 3) hx hb dX2_requirePot_5 (by decide) ?_
  refine lv_icmp_lt (tgt := 19) hx hb dX2_requirePot_6 (by decide) (fun c2 => ?_) (fun c2 => absurd (nI_lt hk (by decide)) c2)
  exact hret _ _ _ _ trivial hS dX2_requirePot_19
set_option maxHeartbeats 4000000 in
set_option maxRecDepth 100000 in
theorem m2_requireWithin_ok (l : Launch) (D : va_G) (x lo hi : Int32) (hq : q_in lo hi x = true) : q_V l yX2_requireWithin wsX2_requireWithin { frames := 0, cells := 0, slots := 0, locals := 0 } [.int x, .int lo, .int hi] (q_bp D ([]) []) (fun H => True) (fun _ => False) 0 0 := by
  refine q_goV (cc := cX2_requireWithin) (maxL := 3) (lv0 := [(0, .int x), (1, .int lo), (2, .int hi)]) (by decide) rfl (Nat.le_of_ble_eq_true rfl) rfl ?_
  intro p e s m args below meth c Q ls hx hb hml hts hown hP hK hl hret hnm
  have hS : va_S (fun _ => False) s.heap s.heap [] := va_S.rf
  unfold q_in at hq
  rw [Bool.and_eq_true, decide_eq_true_eq, decide_eq_true_eq] at hq
  refine lv_iload_n hx hb dX2_requireWithin_0 rfl (lv_at hl 0 rfl) ?_
  refine lv_iload_n hx hb dX2_requireWithin_1 rfl (lv_at hl 1 rfl) ?_
  refine lv_icmp_lt (tgt := 10) hx hb dX2_requireWithin_2 (by decide) (fun c1 => absurd hq.1 (Int32.not_le.mpr c1)) (fun c1 => ?_)
  refine lv_iload_n hx hb dX2_requireWithin_5 rfl (lv_at hl 0 rfl) ?_
  refine lv_iload_n hx hb dX2_requireWithin_6 rfl (lv_at hl 2 rfl) ?_
  refine lv_icmp_le (tgt := 20) hx hb dX2_requireWithin_7 (by decide) (fun c2 => ?_) (fun c2 => absurd hq.2 c2)
  exact hret _ _ _ _ trivial hS dX2_requireWithin_20

