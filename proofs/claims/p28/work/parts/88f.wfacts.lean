def g_ta (T : Nat → Int32) (r : Nat) : Int32 := if r < tN T then T (111 + r) else -1
theorem m2_tale_any (l : Launch) (D : va_G) (z : Ad) (ol sn hs : Nat) (T S Y : Nat → Int32) (G : Nat → Nat → Int32) (len : Nat) (P : PS) (ch : Nat → Nat) (B : Nat) (hI : Inv B T) (r : Nat) (hr : r < 24) : q_I l yX2_tale wsX2_tale { frames := 1, cells := 0, slots := 0, locals := 22 } [.ref z.o, .int (nI r), .int (nI 0)] (q_bp D (wX z ol sn hs T S Y G len P ch) (tyX z)) (fun v => v = g_ta T r) (fun H => True) (fun _ => False) 0 0 := by
  have hc := cnt_le T 24
  have ht := hI.tale.2
  unfold g_ta
  by_cases h : r < tN T
  · rw [if_pos h]
    exact q_widen (m2_tale_ok0 l D z ol sn hs T S Y G len P ch B hI r h) (Nat.le_of_ble_eq_true rfl) (Nat.le_of_ble_eq_true rfl) (Nat.le_of_ble_eq_true rfl) (Nat.le_of_ble_eq_true rfl) (Nat.le_refl _) (Nat.le_refl _)
  · rw [if_neg h]
    exact q_widen (m2_tale_no0 l D z ol sn hs T S Y G len P ch B hI (nI r) (nI_pos (by omega)) (fun q => h ((nI_ltI (by omega) (by omega)).mp q))) (Nat.le_of_ble_eq_true rfl) (Nat.le_of_ble_eq_true rfl) (Nat.le_of_ble_eq_true rfl) (Nat.le_of_ble_eq_true rfl) (Nat.le_refl _) (Nat.le_refl _)
