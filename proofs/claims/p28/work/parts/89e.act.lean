set_option maxHeartbeats 4000000 in
set_option maxRecDepth 100000 in
theorem act_10a {B : Nat} {T : Nat → Int32} (hJ : Jv B T) (hB : B < 1000000000) (v : Int32) (hi : ¬ (lw (v >>> (nI 22 &&& 31)) (nI 7)) ≤ 0) (w0 : ¬ nI 7 ≤ (lw v (nI 32))) (hb0 : (((v >>> (nI 5 &&& 31)) >>> (nI 10 &&& 31)) &&& nI 1) = 0) : ∃ (k : Nat) (T' : Nat → Int32) (x : Int32), k ≤ 3 ∧ Jv (B + 3200) T' ∧ (∀ (l : Launch) (hl9 : l.stackTraces = false) (D : va_G) (st : Nat → Nat) (z : Ad) (oa : Nat) (hoa : ¬ AX z oa) (hDX : va_D (fun _ => True) (wX z 0 0 0 f00 f00 f00 (fun _ => f00) 0 (0, 0, 0, 0) (fun _ => 0))) (g : Int32) (sn : Nat) (hsn : sn ≤ 6), k_H l yL_act wsL_act { frames := 9, cells := 1, slots := 6, locals := 164 } [.ref z.o, .int v, .ref oa] st D z oa (OS z D sn T) g (nI k) (CE k z D sn T T') (OE k x)) := by
  obtain ⟨k, T', x, h1, h2, h3⟩ := ch_0 hJ hB (lw (v >>> (nI 5 &&& 31)) (nI 3)) (nI 1 + lw ((v >>> (nI 5 &&& 31)) >>> (nI 2 &&& 31)) (nI 210))
  refine ⟨k, T', x, h1, h2, fun l hl9 D st z oa hoa hDX g sn hsn => ?_⟩
  refine k_goA (cc := cL_act) (maxL := 8) (ty := .int) (lv0 := [(0, .ref z.o), (1, .int v), (2, .ref oa)]) (by decide) rfl (Nat.le_of_ble_eq_true rfl) rfl rfl ?_
  intro p e s m args below meth c Q ls hx hb hml hts hown hC hO hK hT hl hret
  have hS : va_S (AXo z oa) s.heap s.heap [] := va_S.rf
  refine lv_iload_n hx hb dL_act_0 rfl (lv_at hl 1 rfl) ?_
  refine lv_bipush (v := nI 32) hx hb dL_act_1 (by decide) ?_
  refine q_ciK (BH := fun _ => True) (va_runS (rm := { frames := 0, cells := 0, slots := 0, locals := 0 }) (As := [.int v, .int (nI 32)]) (rest := []) ⟨hx, hb, hml, hown, hts⟩ (L_low l D v (nI 32) (by decide)) (va_cwS 2 hts gL_act_L_low rfl rfl rfl (by decide +kernel) ⟨Nat.le_of_ble_eq_true rfl, Nat.le_of_ble_eq_true rfl⟩) (q_pS (hO.sub (ws' := []) [] rfl) (hK.sub [] rfl)) rfl rfl hl.1 rfl (lv_room (Nat.le_of_ble_eq_true rfl)) dL_act_3 ⟨Nat.le_of_ble_eq_true rfl, Nat.le_of_ble_eq_true rfl⟩) (fun t h => trivial) hS (fun q h => h.elim) (fun x1 H locs e1 _ hk hS => ?_)
  have hC := hC.kp hk
  have hO := k_kp hO hk
  have e1 : x1 = (lw v (nI 32)) := e1
  subst e1
  refine lv_istore_n (lv' := [(3, .int (lw v (nI 32))), (0, .ref (z.o)), (1, .int v), (2, .ref oa)]) hx hb dL_act_6 rfl hl (by decide) rfl (fun ls hl => ?_)
  refine lv_iload_n hx hb dL_act_7 rfl (lv_at hl 2 rfl) ?_
  refine lv_iconst (v := nI 5) hx hb dL_act_8 (by decide) ?_
  refine lv_ishr hx hb dL_act_9 ?_
  refine lv_istore (lv' := [(4, .int (v >>> ((nI 5) &&& 31))), (3, .int (lw v (nI 32))), (0, .ref (z.o)), (1, .int v), (2, .ref oa)]) hx hb dL_act_10 hl (by decide) rfl (fun ls hl => ?_)
  refine lv_iload_n hx hb dL_act_12 rfl (lv_at hl 3 rfl) ?_
  refine lv_bipush (v := nI 22) hx hb dL_act_13 (by decide) ?_
  refine lv_ishr hx hb dL_act_15 ?_
  refine lv_bipush (v := nI 7) hx hb dL_act_16 (by decide) ?_
  refine q_ciK (BH := fun _ => True) (va_runS (rm := { frames := 0, cells := 0, slots := 0, locals := 0 }) (As := [.int (v >>> ((nI 22) &&& 31)), .int (nI 7)]) (rest := []) ⟨hx, hb, hml, hown, hts⟩ (L_low l D (v >>> ((nI 22) &&& 31)) (nI 7) (by decide)) (va_cwS 2 hts gL_act_L_low rfl rfl rfl (by decide +kernel) ⟨Nat.le_of_ble_eq_true rfl, Nat.le_of_ble_eq_true rfl⟩) (q_pS (hO.sub (ws' := []) [] rfl) (hK.sub [] rfl)) rfl rfl hl.1 rfl (lv_room (Nat.le_of_ble_eq_true rfl)) dL_act_18 ⟨Nat.le_of_ble_eq_true rfl, Nat.le_of_ble_eq_true rfl⟩) (fun t h => trivial) hS (fun q h => h.elim) (fun x2 H locs e2 _ hk hS => ?_)
  have hC := hC.kp hk
  have hO := k_kp hO hk
  have e2 : x2 = (lw (v >>> ((nI 22) &&& 31)) (nI 7)) := e2
  subst e2
  refine lv_if_le (tgt := 28) hx hb dL_act_21 (by decide) (fun c3 => absurd c3 hi) (fun c3 => ?_)
  refine lv_iconst (v := nI 1) hx hb dL_act_24 (by decide) ?_
  refine lv_goto (tgt := 29) hx hb dL_act_25 (by decide) ?_
  refine lv_istore (lv' := [(5, .int (nI 1)), (4, .int (v >>> ((nI 5) &&& 31))), (3, .int (lw v (nI 32))), (0, .ref (z.o)), (1, .int v), (2, .ref oa)]) hx hb dL_act_29 hl (by decide) rfl (fun ls hl => ?_)
  refine lv_iload hx hb dL_act_31 (lv_at hl 1 rfl) ?_
  refine lv_iload hx hb dL_act_33 (lv_at hl 0 rfl) ?_
  refine lv_if_eq (tgt := 42) hx hb dL_act_35 (by decide) (fun c4 => absurd c4 (by decide)) (fun c4 => ?_)
  refine lv_iconst (v := nI 3) hx hb dL_act_38 (by decide) ?_
  refine lv_goto (tgt := 43) hx hb dL_act_39 (by decide) ?_
  refine q_ciK (BH := fun _ => True) (va_runS (rm := { frames := 0, cells := 0, slots := 0, locals := 0 }) (As := [.int (v >>> ((nI 5) &&& 31)), .int (nI 3)]) (rest := []) ⟨hx, hb, hml, hown, hts⟩ (L_low l D (v >>> ((nI 5) &&& 31)) (nI 3) (by decide)) (va_cwS 2 hts gL_act_L_low rfl rfl rfl (by decide +kernel) ⟨Nat.le_of_ble_eq_true rfl, Nat.le_of_ble_eq_true rfl⟩) (q_pS (hO.sub (ws' := []) [] rfl) (hK.sub [] rfl)) rfl rfl hl.1 rfl (lv_room (Nat.le_of_ble_eq_true rfl)) dL_act_43 ⟨Nat.le_of_ble_eq_true rfl, Nat.le_of_ble_eq_true rfl⟩) (fun t h => trivial) hS (fun q h => h.elim) (fun x5 H locs e5 _ hk hS => ?_)
  have hC := hC.kp hk
  have hO := k_kp hO hk
  have e5 : x5 = (lw (v >>> ((nI 5) &&& 31)) (nI 3)) := e5
  subst e5
  refine lv_istore (lv' := [(6, .int (lw (v >>> ((nI 5) &&& 31)) (nI 3))), (5, .int (nI 1)), (4, .int (v >>> ((nI 5) &&& 31))), (3, .int (lw v (nI 32))), (0, .ref (z.o)), (1, .int v), (2, .ref oa)]) hx hb dL_act_46 hl (by decide) rfl (fun ls hl => ?_)
  refine lv_iload hx hb dL_act_48 (lv_at hl 2 rfl) ?_
  refine lv_iload hx hb dL_act_50 (lv_at hl 1 rfl) ?_
  refine lv_if_eq (tgt := 60) hx hb dL_act_52 (by decide) (fun c6 => absurd c6 (by decide)) (fun c6 => ?_)
  refine lv_bipush (v := nI 8) hx hb dL_act_55 (by decide) ?_
  refine lv_goto (tgt := 62) hx hb dL_act_57 (by decide) ?_
  refine q_ciK (BH := fun _ => True) (va_runS (rm := { frames := 0, cells := 0, slots := 0, locals := 0 }) (As := [.int (v >>> ((nI 5) &&& 31)), .int (nI 8)]) (rest := []) ⟨hx, hb, hml, hown, hts⟩ (L_low l D (v >>> ((nI 5) &&& 31)) (nI 8) (by decide)) (va_cwS 2 hts gL_act_L_low rfl rfl rfl (by decide +kernel) ⟨Nat.le_of_ble_eq_true rfl, Nat.le_of_ble_eq_true rfl⟩) (q_pS (hO.sub (ws' := []) [] rfl) (hK.sub [] rfl)) rfl rfl hl.1 rfl (lv_room (Nat.le_of_ble_eq_true rfl)) dL_act_62 ⟨Nat.le_of_ble_eq_true rfl, Nat.le_of_ble_eq_true rfl⟩) (fun t h => trivial) hS (fun q h => h.elim) (fun x7 H locs e7 _ hk hS => ?_)
  have hC := hC.kp hk
  have hO := k_kp hO hk
  have e7 : x7 = (lw (v >>> ((nI 5) &&& 31)) (nI 8)) := e7
  subst e7
  refine lv_istore (lv' := [(7, .int (lw (v >>> ((nI 5) &&& 31)) (nI 8))), (6, .int (lw (v >>> ((nI 5) &&& 31)) (nI 3))), (5, .int (nI 1)), (4, .int (v >>> ((nI 5) &&& 31))), (3, .int (lw v (nI 32))), (0, .ref (z.o)), (1, .int v), (2, .ref oa)]) hx hb dL_act_65 hl (by decide) rfl (fun ls hl => ?_)
  refine lv_iload_n hx hb dL_act_67 rfl (lv_at hl 4 rfl) ?_
  refine lv_bipush (v := nI 7) hx hb dL_act_68 (by decide) ?_
  refine lv_icmp_ge (tgt := 118) hx hb dL_act_70 (by decide) (fun c8 => absurd c8 w0) (fun c8 => ?_)
  refine lv_aload_n hx hb dL_act_73 rfl (lv_at hl 5 rfl) ?_
  refine lv_iconst (v := nI 0) hx hb dL_act_74 (by decide) ?_
  refine lv_iload hx hb dL_act_75 (lv_at hl 1 rfl) ?_
  refine lv_iload hx hb dL_act_77 (lv_at hl 2 rfl) ?_
  refine lv_if_eq (tgt := 86) hx hb dL_act_79 (by decide) (fun c9 => absurd c9 (by decide)) (fun c9 => ?_)
  refine lv_iconst (v := nI 1) hx hb dL_act_82 (by decide) ?_
  refine lv_goto (tgt := 87) hx hb dL_act_83 (by decide) ?_
  refine lv_iload hx hb dL_act_87 (lv_at hl 3 rfl) ?_
  refine lv_iconst (v := nI 2) hx hb dL_act_89 (by decide) ?_
  refine lv_ishr hx hb dL_act_90 ?_
  refine lv_iload hx hb dL_act_91 (lv_at hl 3 rfl) ?_
  refine lv_bipush (v := nI 10) hx hb dL_act_93 (by decide) ?_
  refine lv_ishr hx hb dL_act_95 ?_
  refine lv_iconst (v := nI 1) hx hb dL_act_96 (by decide) ?_
  refine lv_iand hx hb dL_act_97 ?_
  refine lv_if_ne (tgt := 107) hx hb dL_act_98 (by decide) (fun c10 => absurd c10 (fun z => z hb0)) (fun c10 => ?_)
  refine lv_sipush (v := nI 210) hx hb dL_act_101 (by decide) ?_
  refine lv_goto (tgt := 109) hx hb dL_act_104 (by decide) ?_
  refine q_ciK (BH := fun _ => True) (va_runS (rm := { frames := 0, cells := 0, slots := 0, locals := 0 }) (As := [.int ((v >>> ((nI 5) &&& 31)) >>> ((nI 2) &&& 31)), .int (nI 210)]) (rest := [.int (nI 1), .int (lw (v >>> ((nI 5) &&& 31)) (nI 3)), .int (nI 0), .ref (z.o)]) ⟨hx, hb, hml, hown, hts⟩ (L_low l D ((v >>> ((nI 5) &&& 31)) >>> ((nI 2) &&& 31)) (nI 210) (by decide)) (va_cwS 2 hts gL_act_L_low rfl rfl rfl (by decide +kernel) ⟨Nat.le_of_ble_eq_true rfl, Nat.le_of_ble_eq_true rfl⟩) (q_pS (hO.sub (ws' := []) [] rfl) (hK.sub [] rfl)) rfl rfl hl.1 rfl (lv_room (Nat.le_of_ble_eq_true rfl)) dL_act_109 ⟨Nat.le_of_ble_eq_true rfl, Nat.le_of_ble_eq_true rfl⟩) (fun t h => trivial) hS (fun q h => h.elim) (fun x11 H locs e11 _ hk hS => ?_)
  have hC := hC.kp hk
  have hO := k_kp hO hk
  have e11 : x11 = (lw ((v >>> ((nI 5) &&& 31)) >>> ((nI 2) &&& 31)) (nI 210)) := e11
  subst e11
  refine lv_iadd hx hb dL_act_112 ?_
  refine lv_aload_n hx hb dL_act_113 rfl (lv_at hl 7 rfl) ?_
  refine q_ciK (BH := fun H => CE k z D sn T T' H ∧ ∃ g', OE k x g' ∧ va_P D vwCl (wI oa z.cI g') H) (vx_runSW (rm := { frames := 8, cells := 1, slots := 6, locals := 139 }) (As := [.ref (z.o), .int (nI 0), .int (lw (v >>> ((nI 5) &&& 31)) (nI 3)), .int ((nI 1) + (lw ((v >>> ((nI 5) &&& 31)) >>> ((nI 2) &&& 31)) (nI 210))), .ref oa]) (rest := []) ⟨hx, hb, hml, hown, hts⟩ (h3 l hl9 D st z oa hoa hDX g sn hsn) (vx_cwSW (hh := [(0, 76, 79, 30), (0, 76, 83, 32), (0, 76, 87, 34)]) 5 hts gL_act_L_changes rfl rfl rfl (by decide +kernel) ⟨Nat.le_of_ble_eq_true rfl, Nat.le_of_ble_eq_true rfl⟩) (k_pS (C0 := OS z D sn T) hC hO hK hT hS (fun q h => h)) rfl rfl hl.1 rfl (lv_room (Nat.le_of_ble_eq_true rfl)) dL_act_114 ⟨Nat.le_of_ble_eq_true rfl, Nat.le_of_ble_eq_true rfl⟩) (fun _ h => h) hS (fun q h => h) (fun r H locs er hCO hk5 hS => ?_)
  obtain ⟨hC, g1, hg1, hO⟩ := hCO
  have er : nI k = r := Eq.symm er
  subst er
  exact hret _ _ _ _ _ hC hg1 hO hS dL_act_117
set_option maxHeartbeats 4000000 in
set_option maxRecDepth 100000 in
theorem act_10b {B : Nat} {T : Nat → Int32} (hJ : Jv B T) (hB : B < 1000000000) (v : Int32) (hi : ¬ (lw (v >>> (nI 22 &&& 31)) (nI 7)) ≤ 0) (w0 : ¬ nI 7 ≤ (lw v (nI 32))) (hb0 : ¬ (((v >>> (nI 5 &&& 31)) >>> (nI 10 &&& 31)) &&& nI 1) = 0) : ∃ (k : Nat) (T' : Nat → Int32) (x : Int32), k ≤ 3 ∧ Jv (B + 3200) T' ∧ (∀ (l : Launch) (hl9 : l.stackTraces = false) (D : va_G) (st : Nat → Nat) (z : Ad) (oa : Nat) (hoa : ¬ AX z oa) (hDX : va_D (fun _ => True) (wX z 0 0 0 f00 f00 f00 (fun _ => f00) 0 (0, 0, 0, 0) (fun _ => 0))) (g : Int32) (sn : Nat) (hsn : sn ≤ 6), k_H l yL_act wsL_act { frames := 9, cells := 1, slots := 6, locals := 164 } [.ref z.o, .int v, .ref oa] st D z oa (OS z D sn T) g (nI k) (CE k z D sn T T') (OE k x)) := by
  obtain ⟨k, T', x, h1, h2, h3⟩ := ch_0 hJ hB (lw (v >>> (nI 5 &&& 31)) (nI 3)) (nI 1 + lw ((v >>> (nI 5 &&& 31)) >>> (nI 2 &&& 31)) (nI 50))
  refine ⟨k, T', x, h1, h2, fun l hl9 D st z oa hoa hDX g sn hsn => ?_⟩
  refine k_goA (cc := cL_act) (maxL := 8) (ty := .int) (lv0 := [(0, .ref z.o), (1, .int v), (2, .ref oa)]) (by decide) rfl (Nat.le_of_ble_eq_true rfl) rfl rfl ?_
  intro p e s m args below meth c Q ls hx hb hml hts hown hC hO hK hT hl hret
  have hS : va_S (AXo z oa) s.heap s.heap [] := va_S.rf
  refine lv_iload_n hx hb dL_act_0 rfl (lv_at hl 1 rfl) ?_
  refine lv_bipush (v := nI 32) hx hb dL_act_1 (by decide) ?_
  refine q_ciK (BH := fun _ => True) (va_runS (rm := { frames := 0, cells := 0, slots := 0, locals := 0 }) (As := [.int v, .int (nI 32)]) (rest := []) ⟨hx, hb, hml, hown, hts⟩ (L_low l D v (nI 32) (by decide)) (va_cwS 2 hts gL_act_L_low rfl rfl rfl (by decide +kernel) ⟨Nat.le_of_ble_eq_true rfl, Nat.le_of_ble_eq_true rfl⟩) (q_pS (hO.sub (ws' := []) [] rfl) (hK.sub [] rfl)) rfl rfl hl.1 rfl (lv_room (Nat.le_of_ble_eq_true rfl)) dL_act_3 ⟨Nat.le_of_ble_eq_true rfl, Nat.le_of_ble_eq_true rfl⟩) (fun t h => trivial) hS (fun q h => h.elim) (fun x1 H locs e1 _ hk hS => ?_)
  have hC := hC.kp hk
  have hO := k_kp hO hk
  have e1 : x1 = (lw v (nI 32)) := e1
  subst e1
  refine lv_istore_n (lv' := [(3, .int (lw v (nI 32))), (0, .ref (z.o)), (1, .int v), (2, .ref oa)]) hx hb dL_act_6 rfl hl (by decide) rfl (fun ls hl => ?_)
  refine lv_iload_n hx hb dL_act_7 rfl (lv_at hl 2 rfl) ?_
  refine lv_iconst (v := nI 5) hx hb dL_act_8 (by decide) ?_
  refine lv_ishr hx hb dL_act_9 ?_
  refine lv_istore (lv' := [(4, .int (v >>> ((nI 5) &&& 31))), (3, .int (lw v (nI 32))), (0, .ref (z.o)), (1, .int v), (2, .ref oa)]) hx hb dL_act_10 hl (by decide) rfl (fun ls hl => ?_)
  refine lv_iload_n hx hb dL_act_12 rfl (lv_at hl 3 rfl) ?_
  refine lv_bipush (v := nI 22) hx hb dL_act_13 (by decide) ?_
  refine lv_ishr hx hb dL_act_15 ?_
  refine lv_bipush (v := nI 7) hx hb dL_act_16 (by decide) ?_
  refine q_ciK (BH := fun _ => True) (va_runS (rm := { frames := 0, cells := 0, slots := 0, locals := 0 }) (As := [.int (v >>> ((nI 22) &&& 31)), .int (nI 7)]) (rest := []) ⟨hx, hb, hml, hown, hts⟩ (L_low l D (v >>> ((nI 22) &&& 31)) (nI 7) (by decide)) (va_cwS 2 hts gL_act_L_low rfl rfl rfl (by decide +kernel) ⟨Nat.le_of_ble_eq_true rfl, Nat.le_of_ble_eq_true rfl⟩) (q_pS (hO.sub (ws' := []) [] rfl) (hK.sub [] rfl)) rfl rfl hl.1 rfl (lv_room (Nat.le_of_ble_eq_true rfl)) dL_act_18 ⟨Nat.le_of_ble_eq_true rfl, Nat.le_of_ble_eq_true rfl⟩) (fun t h => trivial) hS (fun q h => h.elim) (fun x2 H locs e2 _ hk hS => ?_)
  have hC := hC.kp hk
  have hO := k_kp hO hk
  have e2 : x2 = (lw (v >>> ((nI 22) &&& 31)) (nI 7)) := e2
  subst e2
  refine lv_if_le (tgt := 28) hx hb dL_act_21 (by decide) (fun c3 => absurd c3 hi) (fun c3 => ?_)
  refine lv_iconst (v := nI 1) hx hb dL_act_24 (by decide) ?_
  refine lv_goto (tgt := 29) hx hb dL_act_25 (by decide) ?_
  refine lv_istore (lv' := [(5, .int (nI 1)), (4, .int (v >>> ((nI 5) &&& 31))), (3, .int (lw v (nI 32))), (0, .ref (z.o)), (1, .int v), (2, .ref oa)]) hx hb dL_act_29 hl (by decide) rfl (fun ls hl => ?_)
  refine lv_iload hx hb dL_act_31 (lv_at hl 1 rfl) ?_
  refine lv_iload hx hb dL_act_33 (lv_at hl 0 rfl) ?_
  refine lv_if_eq (tgt := 42) hx hb dL_act_35 (by decide) (fun c4 => absurd c4 (by decide)) (fun c4 => ?_)
  refine lv_iconst (v := nI 3) hx hb dL_act_38 (by decide) ?_
  refine lv_goto (tgt := 43) hx hb dL_act_39 (by decide) ?_
  refine q_ciK (BH := fun _ => True) (va_runS (rm := { frames := 0, cells := 0, slots := 0, locals := 0 }) (As := [.int (v >>> ((nI 5) &&& 31)), .int (nI 3)]) (rest := []) ⟨hx, hb, hml, hown, hts⟩ (L_low l D (v >>> ((nI 5) &&& 31)) (nI 3) (by decide)) (va_cwS 2 hts gL_act_L_low rfl rfl rfl (by decide +kernel) ⟨Nat.le_of_ble_eq_true rfl, Nat.le_of_ble_eq_true rfl⟩) (q_pS (hO.sub (ws' := []) [] rfl) (hK.sub [] rfl)) rfl rfl hl.1 rfl (lv_room (Nat.le_of_ble_eq_true rfl)) dL_act_43 ⟨Nat.le_of_ble_eq_true rfl, Nat.le_of_ble_eq_true rfl⟩) (fun t h => trivial) hS (fun q h => h.elim) (fun x5 H locs e5 _ hk hS => ?_)
  have hC := hC.kp hk
  have hO := k_kp hO hk
  have e5 : x5 = (lw (v >>> ((nI 5) &&& 31)) (nI 3)) := e5
  subst e5
  refine lv_istore (lv' := [(6, .int (lw (v >>> ((nI 5) &&& 31)) (nI 3))), (5, .int (nI 1)), (4, .int (v >>> ((nI 5) &&& 31))), (3, .int (lw v (nI 32))), (0, .ref (z.o)), (1, .int v), (2, .ref oa)]) hx hb dL_act_46 hl (by decide) rfl (fun ls hl => ?_)
  refine lv_iload hx hb dL_act_48 (lv_at hl 2 rfl) ?_
  refine lv_iload hx hb dL_act_50 (lv_at hl 1 rfl) ?_
  refine lv_if_eq (tgt := 60) hx hb dL_act_52 (by decide) (fun c6 => absurd c6 (by decide)) (fun c6 => ?_)
  refine lv_bipush (v := nI 8) hx hb dL_act_55 (by decide) ?_
  refine lv_goto (tgt := 62) hx hb dL_act_57 (by decide) ?_
  refine q_ciK (BH := fun _ => True) (va_runS (rm := { frames := 0, cells := 0, slots := 0, locals := 0 }) (As := [.int (v >>> ((nI 5) &&& 31)), .int (nI 8)]) (rest := []) ⟨hx, hb, hml, hown, hts⟩ (L_low l D (v >>> ((nI 5) &&& 31)) (nI 8) (by decide)) (va_cwS 2 hts gL_act_L_low rfl rfl rfl (by decide +kernel) ⟨Nat.le_of_ble_eq_true rfl, Nat.le_of_ble_eq_true rfl⟩) (q_pS (hO.sub (ws' := []) [] rfl) (hK.sub [] rfl)) rfl rfl hl.1 rfl (lv_room (Nat.le_of_ble_eq_true rfl)) dL_act_62 ⟨Nat.le_of_ble_eq_true rfl, Nat.le_of_ble_eq_true rfl⟩) (fun t h => trivial) hS (fun q h => h.elim) (fun x7 H locs e7 _ hk hS => ?_)
  have hC := hC.kp hk
  have hO := k_kp hO hk
  have e7 : x7 = (lw (v >>> ((nI 5) &&& 31)) (nI 8)) := e7
  subst e7
  refine lv_istore (lv' := [(7, .int (lw (v >>> ((nI 5) &&& 31)) (nI 8))), (6, .int (lw (v >>> ((nI 5) &&& 31)) (nI 3))), (5, .int (nI 1)), (4, .int (v >>> ((nI 5) &&& 31))), (3, .int (lw v (nI 32))), (0, .ref (z.o)), (1, .int v), (2, .ref oa)]) hx hb dL_act_65 hl (by decide) rfl (fun ls hl => ?_)
  refine lv_iload_n hx hb dL_act_67 rfl (lv_at hl 4 rfl) ?_
  refine lv_bipush (v := nI 7) hx hb dL_act_68 (by decide) ?_
  refine lv_icmp_ge (tgt := 118) hx hb dL_act_70 (by decide) (fun c8 => absurd c8 w0) (fun c8 => ?_)
  refine lv_aload_n hx hb dL_act_73 rfl (lv_at hl 5 rfl) ?_
  refine lv_iconst (v := nI 0) hx hb dL_act_74 (by decide) ?_
  refine lv_iload hx hb dL_act_75 (lv_at hl 1 rfl) ?_
  refine lv_iload hx hb dL_act_77 (lv_at hl 2 rfl) ?_
  refine lv_if_eq (tgt := 86) hx hb dL_act_79 (by decide) (fun c9 => absurd c9 (by decide)) (fun c9 => ?_)
  refine lv_iconst (v := nI 1) hx hb dL_act_82 (by decide) ?_
  refine lv_goto (tgt := 87) hx hb dL_act_83 (by decide) ?_
  refine lv_iload hx hb dL_act_87 (lv_at hl 3 rfl) ?_
  refine lv_iconst (v := nI 2) hx hb dL_act_89 (by decide) ?_
  refine lv_ishr hx hb dL_act_90 ?_
  refine lv_iload hx hb dL_act_91 (lv_at hl 3 rfl) ?_
  refine lv_bipush (v := nI 10) hx hb dL_act_93 (by decide) ?_
  refine lv_ishr hx hb dL_act_95 ?_
  refine lv_iconst (v := nI 1) hx hb dL_act_96 (by decide) ?_
  refine lv_iand hx hb dL_act_97 ?_
  refine lv_if_ne (tgt := 107) hx hb dL_act_98 (by decide) (fun c10 => ?_) (fun c10 => absurd c10 (fun z => hb0 z))
  refine lv_bipush (v := nI 50) hx hb dL_act_107 (by decide) ?_
  refine q_ciK (BH := fun _ => True) (va_runS (rm := { frames := 0, cells := 0, slots := 0, locals := 0 }) (As := [.int ((v >>> ((nI 5) &&& 31)) >>> ((nI 2) &&& 31)), .int (nI 50)]) (rest := [.int (nI 1), .int (lw (v >>> ((nI 5) &&& 31)) (nI 3)), .int (nI 0), .ref (z.o)]) ⟨hx, hb, hml, hown, hts⟩ (L_low l D ((v >>> ((nI 5) &&& 31)) >>> ((nI 2) &&& 31)) (nI 50) (by decide)) (va_cwS 2 hts gL_act_L_low rfl rfl rfl (by decide +kernel) ⟨Nat.le_of_ble_eq_true rfl, Nat.le_of_ble_eq_true rfl⟩) (q_pS (hO.sub (ws' := []) [] rfl) (hK.sub [] rfl)) rfl rfl hl.1 rfl (lv_room (Nat.le_of_ble_eq_true rfl)) dL_act_109 ⟨Nat.le_of_ble_eq_true rfl, Nat.le_of_ble_eq_true rfl⟩) (fun t h => trivial) hS (fun q h => h.elim) (fun x11 H locs e11 _ hk hS => ?_)
  have hC := hC.kp hk
  have hO := k_kp hO hk
  have e11 : x11 = (lw ((v >>> ((nI 5) &&& 31)) >>> ((nI 2) &&& 31)) (nI 50)) := e11
  subst e11
  refine lv_iadd hx hb dL_act_112 ?_
  refine lv_aload_n hx hb dL_act_113 rfl (lv_at hl 7 rfl) ?_
  refine q_ciK (BH := fun H => CE k z D sn T T' H ∧ ∃ g', OE k x g' ∧ va_P D vwCl (wI oa z.cI g') H) (vx_runSW (rm := { frames := 8, cells := 1, slots := 6, locals := 139 }) (As := [.ref (z.o), .int (nI 0), .int (lw (v >>> ((nI 5) &&& 31)) (nI 3)), .int ((nI 1) + (lw ((v >>> ((nI 5) &&& 31)) >>> ((nI 2) &&& 31)) (nI 50))), .ref oa]) (rest := []) ⟨hx, hb, hml, hown, hts⟩ (h3 l hl9 D st z oa hoa hDX g sn hsn) (vx_cwSW (hh := [(0, 76, 79, 30), (0, 76, 83, 32), (0, 76, 87, 34)]) 5 hts gL_act_L_changes rfl rfl rfl (by decide +kernel) ⟨Nat.le_of_ble_eq_true rfl, Nat.le_of_ble_eq_true rfl⟩) (k_pS (C0 := OS z D sn T) hC hO hK hT hS (fun q h => h)) rfl rfl hl.1 rfl (lv_room (Nat.le_of_ble_eq_true rfl)) dL_act_114 ⟨Nat.le_of_ble_eq_true rfl, Nat.le_of_ble_eq_true rfl⟩) (fun _ h => h) hS (fun q h => h) (fun r H locs er hCO hk5 hS => ?_)
  obtain ⟨hC, g1, hg1, hO⟩ := hCO
  have er : nI k = r := Eq.symm er
  subst er
  exact hret _ _ _ _ _ hC hg1 hO hS dL_act_117
set_option maxHeartbeats 4000000 in
set_option maxRecDepth 100000 in
theorem act_11 {B : Nat} {T : Nat → Int32} (hJ : Jv B T) (hB : B < 1000000000) (v : Int32) (hi : ¬ (lw (v >>> (nI 22 &&& 31)) (nI 7)) ≤ 0) (w0 : nI 7 ≤ (lw v (nI 32))) (w1 : ¬ nI 14 ≤ (lw v (nI 32))) : ∃ (k : Nat) (T' : Nat → Int32) (x : Int32), k ≤ 3 ∧ Jv (B + 3200) T' ∧ (∀ (l : Launch) (hl9 : l.stackTraces = false) (D : va_G) (st : Nat → Nat) (z : Ad) (oa : Nat) (hoa : ¬ AX z oa) (hDX : va_D (fun _ => True) (wX z 0 0 0 f00 f00 f00 (fun _ => f00) 0 (0, 0, 0, 0) (fun _ => 0))) (g : Int32) (sn : Nat) (hsn : sn ≤ 6), k_H l yL_act wsL_act { frames := 9, cells := 1, slots := 6, locals := 164 } [.ref z.o, .int v, .ref oa] st D z oa (OS z D sn T) g (nI k) (CE k z D sn T T') (OE k x)) := by
  obtain ⟨k, T', x, h1, h2, h3⟩ := ch_1 hJ hB (lw (v >>> (nI 5 &&& 31)) (nI 3)) (nI 0)
  refine ⟨k, T', x, h1, h2, fun l hl9 D st z oa hoa hDX g sn hsn => ?_⟩
  refine k_goA (cc := cL_act) (maxL := 8) (ty := .int) (lv0 := [(0, .ref z.o), (1, .int v), (2, .ref oa)]) (by decide) rfl (Nat.le_of_ble_eq_true rfl) rfl rfl ?_
  intro p e s m args below meth c Q ls hx hb hml hts hown hC hO hK hT hl hret
  have hS : va_S (AXo z oa) s.heap s.heap [] := va_S.rf
  refine lv_iload_n hx hb dL_act_0 rfl (lv_at hl 1 rfl) ?_
  refine lv_bipush (v := nI 32) hx hb dL_act_1 (by decide) ?_
  refine q_ciK (BH := fun _ => True) (va_runS (rm := { frames := 0, cells := 0, slots := 0, locals := 0 }) (As := [.int v, .int (nI 32)]) (rest := []) ⟨hx, hb, hml, hown, hts⟩ (L_low l D v (nI 32) (by decide)) (va_cwS 2 hts gL_act_L_low rfl rfl rfl (by decide +kernel) ⟨Nat.le_of_ble_eq_true rfl, Nat.le_of_ble_eq_true rfl⟩) (q_pS (hO.sub (ws' := []) [] rfl) (hK.sub [] rfl)) rfl rfl hl.1 rfl (lv_room (Nat.le_of_ble_eq_true rfl)) dL_act_3 ⟨Nat.le_of_ble_eq_true rfl, Nat.le_of_ble_eq_true rfl⟩) (fun t h => trivial) hS (fun q h => h.elim) (fun x1 H locs e1 _ hk hS => ?_)
  have hC := hC.kp hk
  have hO := k_kp hO hk
  have e1 : x1 = (lw v (nI 32)) := e1
  subst e1
  refine lv_istore_n (lv' := [(3, .int (lw v (nI 32))), (0, .ref (z.o)), (1, .int v), (2, .ref oa)]) hx hb dL_act_6 rfl hl (by decide) rfl (fun ls hl => ?_)
  refine lv_iload_n hx hb dL_act_7 rfl (lv_at hl 2 rfl) ?_
  refine lv_iconst (v := nI 5) hx hb dL_act_8 (by decide) ?_
  refine lv_ishr hx hb dL_act_9 ?_
  refine lv_istore (lv' := [(4, .int (v >>> ((nI 5) &&& 31))), (3, .int (lw v (nI 32))), (0, .ref (z.o)), (1, .int v), (2, .ref oa)]) hx hb dL_act_10 hl (by decide) rfl (fun ls hl => ?_)
  refine lv_iload_n hx hb dL_act_12 rfl (lv_at hl 3 rfl) ?_
  refine lv_bipush (v := nI 22) hx hb dL_act_13 (by decide) ?_
  refine lv_ishr hx hb dL_act_15 ?_
  refine lv_bipush (v := nI 7) hx hb dL_act_16 (by decide) ?_
  refine q_ciK (BH := fun _ => True) (va_runS (rm := { frames := 0, cells := 0, slots := 0, locals := 0 }) (As := [.int (v >>> ((nI 22) &&& 31)), .int (nI 7)]) (rest := []) ⟨hx, hb, hml, hown, hts⟩ (L_low l D (v >>> ((nI 22) &&& 31)) (nI 7) (by decide)) (va_cwS 2 hts gL_act_L_low rfl rfl rfl (by decide +kernel) ⟨Nat.le_of_ble_eq_true rfl, Nat.le_of_ble_eq_true rfl⟩) (q_pS (hO.sub (ws' := []) [] rfl) (hK.sub [] rfl)) rfl rfl hl.1 rfl (lv_room (Nat.le_of_ble_eq_true rfl)) dL_act_18 ⟨Nat.le_of_ble_eq_true rfl, Nat.le_of_ble_eq_true rfl⟩) (fun t h => trivial) hS (fun q h => h.elim) (fun x2 H locs e2 _ hk hS => ?_)
  have hC := hC.kp hk
  have hO := k_kp hO hk
  have e2 : x2 = (lw (v >>> ((nI 22) &&& 31)) (nI 7)) := e2
  subst e2
  refine lv_if_le (tgt := 28) hx hb dL_act_21 (by decide) (fun c3 => absurd c3 hi) (fun c3 => ?_)
  refine lv_iconst (v := nI 1) hx hb dL_act_24 (by decide) ?_
  refine lv_goto (tgt := 29) hx hb dL_act_25 (by decide) ?_
  refine lv_istore (lv' := [(5, .int (nI 1)), (4, .int (v >>> ((nI 5) &&& 31))), (3, .int (lw v (nI 32))), (0, .ref (z.o)), (1, .int v), (2, .ref oa)]) hx hb dL_act_29 hl (by decide) rfl (fun ls hl => ?_)
  refine lv_iload hx hb dL_act_31 (lv_at hl 1 rfl) ?_
  refine lv_iload hx hb dL_act_33 (lv_at hl 0 rfl) ?_
  refine lv_if_eq (tgt := 42) hx hb dL_act_35 (by decide) (fun c4 => absurd c4 (by decide)) (fun c4 => ?_)
  refine lv_iconst (v := nI 3) hx hb dL_act_38 (by decide) ?_
  refine lv_goto (tgt := 43) hx hb dL_act_39 (by decide) ?_
  refine q_ciK (BH := fun _ => True) (va_runS (rm := { frames := 0, cells := 0, slots := 0, locals := 0 }) (As := [.int (v >>> ((nI 5) &&& 31)), .int (nI 3)]) (rest := []) ⟨hx, hb, hml, hown, hts⟩ (L_low l D (v >>> ((nI 5) &&& 31)) (nI 3) (by decide)) (va_cwS 2 hts gL_act_L_low rfl rfl rfl (by decide +kernel) ⟨Nat.le_of_ble_eq_true rfl, Nat.le_of_ble_eq_true rfl⟩) (q_pS (hO.sub (ws' := []) [] rfl) (hK.sub [] rfl)) rfl rfl hl.1 rfl (lv_room (Nat.le_of_ble_eq_true rfl)) dL_act_43 ⟨Nat.le_of_ble_eq_true rfl, Nat.le_of_ble_eq_true rfl⟩) (fun t h => trivial) hS (fun q h => h.elim) (fun x5 H locs e5 _ hk hS => ?_)
  have hC := hC.kp hk
  have hO := k_kp hO hk
  have e5 : x5 = (lw (v >>> ((nI 5) &&& 31)) (nI 3)) := e5
  subst e5
  refine lv_istore (lv' := [(6, .int (lw (v >>> ((nI 5) &&& 31)) (nI 3))), (5, .int (nI 1)), (4, .int (v >>> ((nI 5) &&& 31))), (3, .int (lw v (nI 32))), (0, .ref (z.o)), (1, .int v), (2, .ref oa)]) hx hb dL_act_46 hl (by decide) rfl (fun ls hl => ?_)
  refine lv_iload hx hb dL_act_48 (lv_at hl 2 rfl) ?_
  refine lv_iload hx hb dL_act_50 (lv_at hl 1 rfl) ?_
  refine lv_if_eq (tgt := 60) hx hb dL_act_52 (by decide) (fun c6 => absurd c6 (by decide)) (fun c6 => ?_)
  refine lv_bipush (v := nI 8) hx hb dL_act_55 (by decide) ?_
  refine lv_goto (tgt := 62) hx hb dL_act_57 (by decide) ?_
  refine q_ciK (BH := fun _ => True) (va_runS (rm := { frames := 0, cells := 0, slots := 0, locals := 0 }) (As := [.int (v >>> ((nI 5) &&& 31)), .int (nI 8)]) (rest := []) ⟨hx, hb, hml, hown, hts⟩ (L_low l D (v >>> ((nI 5) &&& 31)) (nI 8) (by decide)) (va_cwS 2 hts gL_act_L_low rfl rfl rfl (by decide +kernel) ⟨Nat.le_of_ble_eq_true rfl, Nat.le_of_ble_eq_true rfl⟩) (q_pS (hO.sub (ws' := []) [] rfl) (hK.sub [] rfl)) rfl rfl hl.1 rfl (lv_room (Nat.le_of_ble_eq_true rfl)) dL_act_62 ⟨Nat.le_of_ble_eq_true rfl, Nat.le_of_ble_eq_true rfl⟩) (fun t h => trivial) hS (fun q h => h.elim) (fun x7 H locs e7 _ hk hS => ?_)
  have hC := hC.kp hk
  have hO := k_kp hO hk
  have e7 : x7 = (lw (v >>> ((nI 5) &&& 31)) (nI 8)) := e7
  subst e7
  refine lv_istore (lv' := [(7, .int (lw (v >>> ((nI 5) &&& 31)) (nI 8))), (6, .int (lw (v >>> ((nI 5) &&& 31)) (nI 3))), (5, .int (nI 1)), (4, .int (v >>> ((nI 5) &&& 31))), (3, .int (lw v (nI 32))), (0, .ref (z.o)), (1, .int v), (2, .ref oa)]) hx hb dL_act_65 hl (by decide) rfl (fun ls hl => ?_)
  refine lv_iload_n hx hb dL_act_67 rfl (lv_at hl 4 rfl) ?_
  refine lv_bipush (v := nI 7) hx hb dL_act_68 (by decide) ?_
  refine lv_icmp_ge (tgt := 118) hx hb dL_act_70 (by decide) (fun c8 => ?_) (fun c8 => absurd c8 (fun z => z w0))
  refine lv_iload_n hx hb dL_act_118 rfl (lv_at hl 4 rfl) ?_
  refine lv_bipush (v := nI 14) hx hb dL_act_119 (by decide) ?_
  refine lv_icmp_ge (tgt := 134) hx hb dL_act_121 (by decide) (fun c9 => absurd c9 w1) (fun c9 => ?_)
  refine lv_aload_n hx hb dL_act_124 rfl (lv_at hl 5 rfl) ?_
  refine lv_iconst (v := nI 1) hx hb dL_act_125 (by decide) ?_
  refine lv_iload hx hb dL_act_126 (lv_at hl 1 rfl) ?_
  refine lv_iconst (v := nI 0) hx hb dL_act_128 (by decide) ?_
  refine lv_aload_n hx hb dL_act_129 rfl (lv_at hl 7 rfl) ?_
  refine q_ciK (BH := fun H => CE k z D sn T T' H ∧ ∃ g', OE k x g' ∧ va_P D vwCl (wI oa z.cI g') H) (vx_runSW (rm := { frames := 8, cells := 1, slots := 6, locals := 139 }) (As := [.ref (z.o), .int (nI 1), .int (lw (v >>> ((nI 5) &&& 31)) (nI 3)), .int (nI 0), .ref oa]) (rest := []) ⟨hx, hb, hml, hown, hts⟩ (h3 l hl9 D st z oa hoa hDX g sn hsn) (vx_cwSW (hh := [(0, 76, 79, 30), (0, 76, 83, 32), (0, 76, 87, 34)]) 5 hts gL_act_L_changes rfl rfl rfl (by decide +kernel) ⟨Nat.le_of_ble_eq_true rfl, Nat.le_of_ble_eq_true rfl⟩) (k_pS (C0 := OS z D sn T) hC hO hK hT hS (fun q h => h)) rfl rfl hl.1 rfl (lv_room (Nat.le_of_ble_eq_true rfl)) dL_act_130 ⟨Nat.le_of_ble_eq_true rfl, Nat.le_of_ble_eq_true rfl⟩) (fun _ h => h) hS (fun q h => h) (fun r H locs er hCO hk5 hS => ?_)
  obtain ⟨hC, g1, hg1, hO⟩ := hCO
  have er : nI k = r := Eq.symm er
  subst er
  exact hret _ _ _ _ _ hC hg1 hO hS dL_act_133
set_option maxHeartbeats 4000000 in
set_option maxRecDepth 100000 in
theorem act_12 {B : Nat} {T : Nat → Int32} (hJ : Jv B T) (hB : B < 1000000000) (v : Int32) (hi : ¬ (lw (v >>> (nI 22 &&& 31)) (nI 7)) ≤ 0) (w0 : nI 7 ≤ (lw v (nI 32))) (w1 : nI 14 ≤ (lw v (nI 32))) (w2 : ¬ nI 22 ≤ (lw v (nI 32))) : ∃ (k : Nat) (T' : Nat → Int32) (x : Int32), k ≤ 3 ∧ Jv (B + 3200) T' ∧ (∀ (l : Launch) (hl9 : l.stackTraces = false) (D : va_G) (st : Nat → Nat) (z : Ad) (oa : Nat) (hoa : ¬ AX z oa) (hDX : va_D (fun _ => True) (wX z 0 0 0 f00 f00 f00 (fun _ => f00) 0 (0, 0, 0, 0) (fun _ => 0))) (g : Int32) (sn : Nat) (hsn : sn ≤ 6), k_H l yL_act wsL_act { frames := 9, cells := 1, slots := 6, locals := 164 } [.ref z.o, .int v, .ref oa] st D z oa (OS z D sn T) g (nI k) (CE k z D sn T T') (OE k x)) := by
  obtain ⟨k, T', x, h1, h2, h3⟩ := ch_2 hJ hB (lw (v >>> (nI 5 &&& 31)) (nI 3)) (lw ((v >>> (nI 5 &&& 31)) >>> (nI 2 &&& 31)) (nI 2))
  refine ⟨k, T', x, h1, h2, fun l hl9 D st z oa hoa hDX g sn hsn => ?_⟩
  refine k_goA (cc := cL_act) (maxL := 8) (ty := .int) (lv0 := [(0, .ref z.o), (1, .int v), (2, .ref oa)]) (by decide) rfl (Nat.le_of_ble_eq_true rfl) rfl rfl ?_
  intro p e s m args below meth c Q ls hx hb hml hts hown hC hO hK hT hl hret
  have hS : va_S (AXo z oa) s.heap s.heap [] := va_S.rf
  refine lv_iload_n hx hb dL_act_0 rfl (lv_at hl 1 rfl) ?_
  refine lv_bipush (v := nI 32) hx hb dL_act_1 (by decide) ?_
  refine q_ciK (BH := fun _ => True) (va_runS (rm := { frames := 0, cells := 0, slots := 0, locals := 0 }) (As := [.int v, .int (nI 32)]) (rest := []) ⟨hx, hb, hml, hown, hts⟩ (L_low l D v (nI 32) (by decide)) (va_cwS 2 hts gL_act_L_low rfl rfl rfl (by decide +kernel) ⟨Nat.le_of_ble_eq_true rfl, Nat.le_of_ble_eq_true rfl⟩) (q_pS (hO.sub (ws' := []) [] rfl) (hK.sub [] rfl)) rfl rfl hl.1 rfl (lv_room (Nat.le_of_ble_eq_true rfl)) dL_act_3 ⟨Nat.le_of_ble_eq_true rfl, Nat.le_of_ble_eq_true rfl⟩) (fun t h => trivial) hS (fun q h => h.elim) (fun x1 H locs e1 _ hk hS => ?_)
  have hC := hC.kp hk
  have hO := k_kp hO hk
  have e1 : x1 = (lw v (nI 32)) := e1
  subst e1
  refine lv_istore_n (lv' := [(3, .int (lw v (nI 32))), (0, .ref (z.o)), (1, .int v), (2, .ref oa)]) hx hb dL_act_6 rfl hl (by decide) rfl (fun ls hl => ?_)
  refine lv_iload_n hx hb dL_act_7 rfl (lv_at hl 2 rfl) ?_
  refine lv_iconst (v := nI 5) hx hb dL_act_8 (by decide) ?_
  refine lv_ishr hx hb dL_act_9 ?_
  refine lv_istore (lv' := [(4, .int (v >>> ((nI 5) &&& 31))), (3, .int (lw v (nI 32))), (0, .ref (z.o)), (1, .int v), (2, .ref oa)]) hx hb dL_act_10 hl (by decide) rfl (fun ls hl => ?_)
  refine lv_iload_n hx hb dL_act_12 rfl (lv_at hl 3 rfl) ?_
  refine lv_bipush (v := nI 22) hx hb dL_act_13 (by decide) ?_
  refine lv_ishr hx hb dL_act_15 ?_
  refine lv_bipush (v := nI 7) hx hb dL_act_16 (by decide) ?_
  refine q_ciK (BH := fun _ => True) (va_runS (rm := { frames := 0, cells := 0, slots := 0, locals := 0 }) (As := [.int (v >>> ((nI 22) &&& 31)), .int (nI 7)]) (rest := []) ⟨hx, hb, hml, hown, hts⟩ (L_low l D (v >>> ((nI 22) &&& 31)) (nI 7) (by decide)) (va_cwS 2 hts gL_act_L_low rfl rfl rfl (by decide +kernel) ⟨Nat.le_of_ble_eq_true rfl, Nat.le_of_ble_eq_true rfl⟩) (q_pS (hO.sub (ws' := []) [] rfl) (hK.sub [] rfl)) rfl rfl hl.1 rfl (lv_room (Nat.le_of_ble_eq_true rfl)) dL_act_18 ⟨Nat.le_of_ble_eq_true rfl, Nat.le_of_ble_eq_true rfl⟩) (fun t h => trivial) hS (fun q h => h.elim) (fun x2 H locs e2 _ hk hS => ?_)
  have hC := hC.kp hk
  have hO := k_kp hO hk
  have e2 : x2 = (lw (v >>> ((nI 22) &&& 31)) (nI 7)) := e2
  subst e2
  refine lv_if_le (tgt := 28) hx hb dL_act_21 (by decide) (fun c3 => absurd c3 hi) (fun c3 => ?_)
  refine lv_iconst (v := nI 1) hx hb dL_act_24 (by decide) ?_
  refine lv_goto (tgt := 29) hx hb dL_act_25 (by decide) ?_
  refine lv_istore (lv' := [(5, .int (nI 1)), (4, .int (v >>> ((nI 5) &&& 31))), (3, .int (lw v (nI 32))), (0, .ref (z.o)), (1, .int v), (2, .ref oa)]) hx hb dL_act_29 hl (by decide) rfl (fun ls hl => ?_)
  refine lv_iload hx hb dL_act_31 (lv_at hl 1 rfl) ?_
  refine lv_iload hx hb dL_act_33 (lv_at hl 0 rfl) ?_
  refine lv_if_eq (tgt := 42) hx hb dL_act_35 (by decide) (fun c4 => absurd c4 (by decide)) (fun c4 => ?_)
  refine lv_iconst (v := nI 3) hx hb dL_act_38 (by decide) ?_
  refine lv_goto (tgt := 43) hx hb dL_act_39 (by decide) ?_
  refine q_ciK (BH := fun _ => True) (va_runS (rm := { frames := 0, cells := 0, slots := 0, locals := 0 }) (As := [.int (v >>> ((nI 5) &&& 31)), .int (nI 3)]) (rest := []) ⟨hx, hb, hml, hown, hts⟩ (L_low l D (v >>> ((nI 5) &&& 31)) (nI 3) (by decide)) (va_cwS 2 hts gL_act_L_low rfl rfl rfl (by decide +kernel) ⟨Nat.le_of_ble_eq_true rfl, Nat.le_of_ble_eq_true rfl⟩) (q_pS (hO.sub (ws' := []) [] rfl) (hK.sub [] rfl)) rfl rfl hl.1 rfl (lv_room (Nat.le_of_ble_eq_true rfl)) dL_act_43 ⟨Nat.le_of_ble_eq_true rfl, Nat.le_of_ble_eq_true rfl⟩) (fun t h => trivial) hS (fun q h => h.elim) (fun x5 H locs e5 _ hk hS => ?_)
  have hC := hC.kp hk
  have hO := k_kp hO hk
  have e5 : x5 = (lw (v >>> ((nI 5) &&& 31)) (nI 3)) := e5
  subst e5
  refine lv_istore (lv' := [(6, .int (lw (v >>> ((nI 5) &&& 31)) (nI 3))), (5, .int (nI 1)), (4, .int (v >>> ((nI 5) &&& 31))), (3, .int (lw v (nI 32))), (0, .ref (z.o)), (1, .int v), (2, .ref oa)]) hx hb dL_act_46 hl (by decide) rfl (fun ls hl => ?_)
  refine lv_iload hx hb dL_act_48 (lv_at hl 2 rfl) ?_
  refine lv_iload hx hb dL_act_50 (lv_at hl 1 rfl) ?_
  refine lv_if_eq (tgt := 60) hx hb dL_act_52 (by decide) (fun c6 => absurd c6 (by decide)) (fun c6 => ?_)
  refine lv_bipush (v := nI 8) hx hb dL_act_55 (by decide) ?_
  refine lv_goto (tgt := 62) hx hb dL_act_57 (by decide) ?_
  refine q_ciK (BH := fun _ => True) (va_runS (rm := { frames := 0, cells := 0, slots := 0, locals := 0 }) (As := [.int (v >>> ((nI 5) &&& 31)), .int (nI 8)]) (rest := []) ⟨hx, hb, hml, hown, hts⟩ (L_low l D (v >>> ((nI 5) &&& 31)) (nI 8) (by decide)) (va_cwS 2 hts gL_act_L_low rfl rfl rfl (by decide +kernel) ⟨Nat.le_of_ble_eq_true rfl, Nat.le_of_ble_eq_true rfl⟩) (q_pS (hO.sub (ws' := []) [] rfl) (hK.sub [] rfl)) rfl rfl hl.1 rfl (lv_room (Nat.le_of_ble_eq_true rfl)) dL_act_62 ⟨Nat.le_of_ble_eq_true rfl, Nat.le_of_ble_eq_true rfl⟩) (fun t h => trivial) hS (fun q h => h.elim) (fun x7 H locs e7 _ hk hS => ?_)
  have hC := hC.kp hk
  have hO := k_kp hO hk
  have e7 : x7 = (lw (v >>> ((nI 5) &&& 31)) (nI 8)) := e7
  subst e7
  refine lv_istore (lv' := [(7, .int (lw (v >>> ((nI 5) &&& 31)) (nI 8))), (6, .int (lw (v >>> ((nI 5) &&& 31)) (nI 3))), (5, .int (nI 1)), (4, .int (v >>> ((nI 5) &&& 31))), (3, .int (lw v (nI 32))), (0, .ref (z.o)), (1, .int v), (2, .ref oa)]) hx hb dL_act_65 hl (by decide) rfl (fun ls hl => ?_)
  refine lv_iload_n hx hb dL_act_67 rfl (lv_at hl 4 rfl) ?_
  refine lv_bipush (v := nI 7) hx hb dL_act_68 (by decide) ?_
  refine lv_icmp_ge (tgt := 118) hx hb dL_act_70 (by decide) (fun c8 => ?_) (fun c8 => absurd c8 (fun z => z w0))
  refine lv_iload_n hx hb dL_act_118 rfl (lv_at hl 4 rfl) ?_
  refine lv_bipush (v := nI 14) hx hb dL_act_119 (by decide) ?_
  refine lv_icmp_ge (tgt := 134) hx hb dL_act_121 (by decide) (fun c9 => ?_) (fun c9 => absurd c9 (fun z => z w1))
  refine lv_iload_n hx hb dL_act_134 rfl (lv_at hl 4 rfl) ?_
  refine lv_bipush (v := nI 22) hx hb dL_act_135 (by decide) ?_
  refine lv_icmp_ge (tgt := 166) hx hb dL_act_137 (by decide) (fun c10 => absurd c10 w2) (fun c10 => ?_)
  refine lv_aload_n hx hb dL_act_140 rfl (lv_at hl 5 rfl) ?_
  refine lv_iconst (v := nI 2) hx hb dL_act_141 (by decide) ?_
  refine lv_iload hx hb dL_act_142 (lv_at hl 1 rfl) ?_
  refine lv_iload hx hb dL_act_144 (lv_at hl 3 rfl) ?_
  refine lv_iconst (v := nI 2) hx hb dL_act_146 (by decide) ?_
  refine lv_ishr hx hb dL_act_147 ?_
  refine lv_iload hx hb dL_act_148 (lv_at hl 2 rfl) ?_
  refine lv_if_eq (tgt := 157) hx hb dL_act_150 (by decide) (fun c11 => absurd c11 (by decide)) (fun c11 => ?_)
  refine lv_iconst (v := nI 2) hx hb dL_act_153 (by decide) ?_
  refine lv_goto (tgt := 158) hx hb dL_act_154 (by decide) ?_
  refine q_ciK (BH := fun _ => True) (va_runS (rm := { frames := 0, cells := 0, slots := 0, locals := 0 }) (As := [.int ((v >>> ((nI 5) &&& 31)) >>> ((nI 2) &&& 31)), .int (nI 2)]) (rest := [.int (lw (v >>> ((nI 5) &&& 31)) (nI 3)), .int (nI 2), .ref (z.o)]) ⟨hx, hb, hml, hown, hts⟩ (L_low l D ((v >>> ((nI 5) &&& 31)) >>> ((nI 2) &&& 31)) (nI 2) (by decide)) (va_cwS 2 hts gL_act_L_low rfl rfl rfl (by decide +kernel) ⟨Nat.le_of_ble_eq_true rfl, Nat.le_of_ble_eq_true rfl⟩) (q_pS (hO.sub (ws' := []) [] rfl) (hK.sub [] rfl)) rfl rfl hl.1 rfl (lv_room (Nat.le_of_ble_eq_true rfl)) dL_act_158 ⟨Nat.le_of_ble_eq_true rfl, Nat.le_of_ble_eq_true rfl⟩) (fun t h => trivial) hS (fun q h => h.elim) (fun x12 H locs e12 _ hk hS => ?_)
  have hC := hC.kp hk
  have hO := k_kp hO hk
  have e12 : x12 = (lw ((v >>> ((nI 5) &&& 31)) >>> ((nI 2) &&& 31)) (nI 2)) := e12
  subst e12
  refine lv_aload_n hx hb dL_act_161 rfl (lv_at hl 7 rfl) ?_
  refine q_ciK (BH := fun H => CE k z D sn T T' H ∧ ∃ g', OE k x g' ∧ va_P D vwCl (wI oa z.cI g') H) (vx_runSW (rm := { frames := 8, cells := 1, slots := 6, locals := 139 }) (As := [.ref (z.o), .int (nI 2), .int (lw (v >>> ((nI 5) &&& 31)) (nI 3)), .int (lw ((v >>> ((nI 5) &&& 31)) >>> ((nI 2) &&& 31)) (nI 2)), .ref oa]) (rest := []) ⟨hx, hb, hml, hown, hts⟩ (h3 l hl9 D st z oa hoa hDX g sn hsn) (vx_cwSW (hh := [(0, 76, 79, 30), (0, 76, 83, 32), (0, 76, 87, 34)]) 5 hts gL_act_L_changes rfl rfl rfl (by decide +kernel) ⟨Nat.le_of_ble_eq_true rfl, Nat.le_of_ble_eq_true rfl⟩) (k_pS (C0 := OS z D sn T) hC hO hK hT hS (fun q h => h)) rfl rfl hl.1 rfl (lv_room (Nat.le_of_ble_eq_true rfl)) dL_act_162 ⟨Nat.le_of_ble_eq_true rfl, Nat.le_of_ble_eq_true rfl⟩) (fun _ h => h) hS (fun q h => h) (fun r H locs er hCO hk5 hS => ?_)
  obtain ⟨hC, g1, hg1, hO⟩ := hCO
  have er : nI k = r := Eq.symm er
  subst er
  exact hret _ _ _ _ _ hC hg1 hO hS dL_act_165
set_option maxHeartbeats 4000000 in
set_option maxRecDepth 100000 in
theorem act_13 {B : Nat} {T : Nat → Int32} (hJ : Jv B T) (hB : B < 1000000000) (v : Int32) (hi : ¬ (lw (v >>> (nI 22 &&& 31)) (nI 7)) ≤ 0) (w0 : nI 7 ≤ (lw v (nI 32))) (w1 : nI 14 ≤ (lw v (nI 32))) (w2 : nI 22 ≤ (lw v (nI 32))) (w3 : ¬ nI 25 ≤ (lw v (nI 32))) : ∃ (k : Nat) (T' : Nat → Int32) (x : Int32), k ≤ 3 ∧ Jv (B + 3200) T' ∧ (∀ (l : Launch) (hl9 : l.stackTraces = false) (D : va_G) (st : Nat → Nat) (z : Ad) (oa : Nat) (hoa : ¬ AX z oa) (hDX : va_D (fun _ => True) (wX z 0 0 0 f00 f00 f00 (fun _ => f00) 0 (0, 0, 0, 0) (fun _ => 0))) (g : Int32) (sn : Nat) (hsn : sn ≤ 6), k_H l yL_act wsL_act { frames := 9, cells := 1, slots := 6, locals := 164 } [.ref z.o, .int v, .ref oa] st D z oa (OS z D sn T) g (nI k) (CE k z D sn T T') (OE k x)) := by
  obtain ⟨k, T', x, h1, h2, h3⟩ := ch_3 hJ hB (lw (v >>> (nI 5 &&& 31)) (nI 3)) (nI 0)
  refine ⟨k, T', x, h1, h2, fun l hl9 D st z oa hoa hDX g sn hsn => ?_⟩
  refine k_goA (cc := cL_act) (maxL := 8) (ty := .int) (lv0 := [(0, .ref z.o), (1, .int v), (2, .ref oa)]) (by decide) rfl (Nat.le_of_ble_eq_true rfl) rfl rfl ?_
  intro p e s m args below meth c Q ls hx hb hml hts hown hC hO hK hT hl hret
  have hS : va_S (AXo z oa) s.heap s.heap [] := va_S.rf
  refine lv_iload_n hx hb dL_act_0 rfl (lv_at hl 1 rfl) ?_
  refine lv_bipush (v := nI 32) hx hb dL_act_1 (by decide) ?_
  refine q_ciK (BH := fun _ => True) (va_runS (rm := { frames := 0, cells := 0, slots := 0, locals := 0 }) (As := [.int v, .int (nI 32)]) (rest := []) ⟨hx, hb, hml, hown, hts⟩ (L_low l D v (nI 32) (by decide)) (va_cwS 2 hts gL_act_L_low rfl rfl rfl (by decide +kernel) ⟨Nat.le_of_ble_eq_true rfl, Nat.le_of_ble_eq_true rfl⟩) (q_pS (hO.sub (ws' := []) [] rfl) (hK.sub [] rfl)) rfl rfl hl.1 rfl (lv_room (Nat.le_of_ble_eq_true rfl)) dL_act_3 ⟨Nat.le_of_ble_eq_true rfl, Nat.le_of_ble_eq_true rfl⟩) (fun t h => trivial) hS (fun q h => h.elim) (fun x1 H locs e1 _ hk hS => ?_)
  have hC := hC.kp hk
  have hO := k_kp hO hk
  have e1 : x1 = (lw v (nI 32)) := e1
  subst e1
  refine lv_istore_n (lv' := [(3, .int (lw v (nI 32))), (0, .ref (z.o)), (1, .int v), (2, .ref oa)]) hx hb dL_act_6 rfl hl (by decide) rfl (fun ls hl => ?_)
  refine lv_iload_n hx hb dL_act_7 rfl (lv_at hl 2 rfl) ?_
  refine lv_iconst (v := nI 5) hx hb dL_act_8 (by decide) ?_
  refine lv_ishr hx hb dL_act_9 ?_
  refine lv_istore (lv' := [(4, .int (v >>> ((nI 5) &&& 31))), (3, .int (lw v (nI 32))), (0, .ref (z.o)), (1, .int v), (2, .ref oa)]) hx hb dL_act_10 hl (by decide) rfl (fun ls hl => ?_)
  refine lv_iload_n hx hb dL_act_12 rfl (lv_at hl 3 rfl) ?_
  refine lv_bipush (v := nI 22) hx hb dL_act_13 (by decide) ?_
  refine lv_ishr hx hb dL_act_15 ?_
  refine lv_bipush (v := nI 7) hx hb dL_act_16 (by decide) ?_
  refine q_ciK (BH := fun _ => True) (va_runS (rm := { frames := 0, cells := 0, slots := 0, locals := 0 }) (As := [.int (v >>> ((nI 22) &&& 31)), .int (nI 7)]) (rest := []) ⟨hx, hb, hml, hown, hts⟩ (L_low l D (v >>> ((nI 22) &&& 31)) (nI 7) (by decide)) (va_cwS 2 hts gL_act_L_low rfl rfl rfl (by decide +kernel) ⟨Nat.le_of_ble_eq_true rfl, Nat.le_of_ble_eq_true rfl⟩) (q_pS (hO.sub (ws' := []) [] rfl) (hK.sub [] rfl)) rfl rfl hl.1 rfl (lv_room (Nat.le_of_ble_eq_true rfl)) dL_act_18 ⟨Nat.le_of_ble_eq_true rfl, Nat.le_of_ble_eq_true rfl⟩) (fun t h => trivial) hS (fun q h => h.elim) (fun x2 H locs e2 _ hk hS => ?_)
  have hC := hC.kp hk
  have hO := k_kp hO hk
  have e2 : x2 = (lw (v >>> ((nI 22) &&& 31)) (nI 7)) := e2
  subst e2
  refine lv_if_le (tgt := 28) hx hb dL_act_21 (by decide) (fun c3 => absurd c3 hi) (fun c3 => ?_)
  refine lv_iconst (v := nI 1) hx hb dL_act_24 (by decide) ?_
  refine lv_goto (tgt := 29) hx hb dL_act_25 (by decide) ?_
  refine lv_istore (lv' := [(5, .int (nI 1)), (4, .int (v >>> ((nI 5) &&& 31))), (3, .int (lw v (nI 32))), (0, .ref (z.o)), (1, .int v), (2, .ref oa)]) hx hb dL_act_29 hl (by decide) rfl (fun ls hl => ?_)
  refine lv_iload hx hb dL_act_31 (lv_at hl 1 rfl) ?_
  refine lv_iload hx hb dL_act_33 (lv_at hl 0 rfl) ?_
  refine lv_if_eq (tgt := 42) hx hb dL_act_35 (by decide) (fun c4 => absurd c4 (by decide)) (fun c4 => ?_)
  refine lv_iconst (v := nI 3) hx hb dL_act_38 (by decide) ?_
  refine lv_goto (tgt := 43) hx hb dL_act_39 (by decide) ?_
  refine q_ciK (BH := fun _ => True) (va_runS (rm := { frames := 0, cells := 0, slots := 0, locals := 0 }) (As := [.int (v >>> ((nI 5) &&& 31)), .int (nI 3)]) (rest := []) ⟨hx, hb, hml, hown, hts⟩ (L_low l D (v >>> ((nI 5) &&& 31)) (nI 3) (by decide)) (va_cwS 2 hts gL_act_L_low rfl rfl rfl (by decide +kernel) ⟨Nat.le_of_ble_eq_true rfl, Nat.le_of_ble_eq_true rfl⟩) (q_pS (hO.sub (ws' := []) [] rfl) (hK.sub [] rfl)) rfl rfl hl.1 rfl (lv_room (Nat.le_of_ble_eq_true rfl)) dL_act_43 ⟨Nat.le_of_ble_eq_true rfl, Nat.le_of_ble_eq_true rfl⟩) (fun t h => trivial) hS (fun q h => h.elim) (fun x5 H locs e5 _ hk hS => ?_)
  have hC := hC.kp hk
  have hO := k_kp hO hk
  have e5 : x5 = (lw (v >>> ((nI 5) &&& 31)) (nI 3)) := e5
  subst e5
  refine lv_istore (lv' := [(6, .int (lw (v >>> ((nI 5) &&& 31)) (nI 3))), (5, .int (nI 1)), (4, .int (v >>> ((nI 5) &&& 31))), (3, .int (lw v (nI 32))), (0, .ref (z.o)), (1, .int v), (2, .ref oa)]) hx hb dL_act_46 hl (by decide) rfl (fun ls hl => ?_)
  refine lv_iload hx hb dL_act_48 (lv_at hl 2 rfl) ?_
  refine lv_iload hx hb dL_act_50 (lv_at hl 1 rfl) ?_
  refine lv_if_eq (tgt := 60) hx hb dL_act_52 (by decide) (fun c6 => absurd c6 (by decide)) (fun c6 => ?_)
  refine lv_bipush (v := nI 8) hx hb dL_act_55 (by decide) ?_
  refine lv_goto (tgt := 62) hx hb dL_act_57 (by decide) ?_
  refine q_ciK (BH := fun _ => True) (va_runS (rm := { frames := 0, cells := 0, slots := 0, locals := 0 }) (As := [.int (v >>> ((nI 5) &&& 31)), .int (nI 8)]) (rest := []) ⟨hx, hb, hml, hown, hts⟩ (L_low l D (v >>> ((nI 5) &&& 31)) (nI 8) (by decide)) (va_cwS 2 hts gL_act_L_low rfl rfl rfl (by decide +kernel) ⟨Nat.le_of_ble_eq_true rfl, Nat.le_of_ble_eq_true rfl⟩) (q_pS (hO.sub (ws' := []) [] rfl) (hK.sub [] rfl)) rfl rfl hl.1 rfl (lv_room (Nat.le_of_ble_eq_true rfl)) dL_act_62 ⟨Nat.le_of_ble_eq_true rfl, Nat.le_of_ble_eq_true rfl⟩) (fun t h => trivial) hS (fun q h => h.elim) (fun x7 H locs e7 _ hk hS => ?_)
  have hC := hC.kp hk
  have hO := k_kp hO hk
  have e7 : x7 = (lw (v >>> ((nI 5) &&& 31)) (nI 8)) := e7
  subst e7
  refine lv_istore (lv' := [(7, .int (lw (v >>> ((nI 5) &&& 31)) (nI 8))), (6, .int (lw (v >>> ((nI 5) &&& 31)) (nI 3))), (5, .int (nI 1)), (4, .int (v >>> ((nI 5) &&& 31))), (3, .int (lw v (nI 32))), (0, .ref (z.o)), (1, .int v), (2, .ref oa)]) hx hb dL_act_65 hl (by decide) rfl (fun ls hl => ?_)
  refine lv_iload_n hx hb dL_act_67 rfl (lv_at hl 4 rfl) ?_
  refine lv_bipush (v := nI 7) hx hb dL_act_68 (by decide) ?_
  refine lv_icmp_ge (tgt := 118) hx hb dL_act_70 (by decide) (fun c8 => ?_) (fun c8 => absurd c8 (fun z => z w0))
  refine lv_iload_n hx hb dL_act_118 rfl (lv_at hl 4 rfl) ?_
  refine lv_bipush (v := nI 14) hx hb dL_act_119 (by decide) ?_
  refine lv_icmp_ge (tgt := 134) hx hb dL_act_121 (by decide) (fun c9 => ?_) (fun c9 => absurd c9 (fun z => z w1))
  refine lv_iload_n hx hb dL_act_134 rfl (lv_at hl 4 rfl) ?_
  refine lv_bipush (v := nI 22) hx hb dL_act_135 (by decide) ?_
  refine lv_icmp_ge (tgt := 166) hx hb dL_act_137 (by decide) (fun c10 => ?_) (fun c10 => absurd c10 (fun z => z w2))
  refine lv_iload_n hx hb dL_act_166 rfl (lv_at hl 4 rfl) ?_
  refine lv_bipush (v := nI 25) hx hb dL_act_167 (by decide) ?_
  refine lv_icmp_ge (tgt := 182) hx hb dL_act_169 (by decide) (fun c11 => absurd c11 w3) (fun c11 => ?_)
  refine lv_aload_n hx hb dL_act_172 rfl (lv_at hl 5 rfl) ?_
  refine lv_iconst (v := nI 3) hx hb dL_act_173 (by decide) ?_
  refine lv_iload hx hb dL_act_174 (lv_at hl 1 rfl) ?_
  refine lv_iconst (v := nI 0) hx hb dL_act_176 (by decide) ?_
  refine lv_aload_n hx hb dL_act_177 rfl (lv_at hl 7 rfl) ?_
  refine q_ciK (BH := fun H => CE k z D sn T T' H ∧ ∃ g', OE k x g' ∧ va_P D vwCl (wI oa z.cI g') H) (vx_runSW (rm := { frames := 8, cells := 1, slots := 6, locals := 139 }) (As := [.ref (z.o), .int (nI 3), .int (lw (v >>> ((nI 5) &&& 31)) (nI 3)), .int (nI 0), .ref oa]) (rest := []) ⟨hx, hb, hml, hown, hts⟩ (h3 l hl9 D st z oa hoa hDX g sn hsn) (vx_cwSW (hh := [(0, 76, 79, 30), (0, 76, 83, 32), (0, 76, 87, 34)]) 5 hts gL_act_L_changes rfl rfl rfl (by decide +kernel) ⟨Nat.le_of_ble_eq_true rfl, Nat.le_of_ble_eq_true rfl⟩) (k_pS (C0 := OS z D sn T) hC hO hK hT hS (fun q h => h)) rfl rfl hl.1 rfl (lv_room (Nat.le_of_ble_eq_true rfl)) dL_act_178 ⟨Nat.le_of_ble_eq_true rfl, Nat.le_of_ble_eq_true rfl⟩) (fun _ h => h) hS (fun q h => h) (fun r H locs er hCO hk5 hS => ?_)
  obtain ⟨hC, g1, hg1, hO⟩ := hCO
  have er : nI k = r := Eq.symm er
  subst er
  exact hret _ _ _ _ _ hC hg1 hO hS dL_act_181
set_option maxHeartbeats 4000000 in
set_option maxRecDepth 100000 in
theorem act_14 {B : Nat} {T : Nat → Int32} (hJ : Jv B T) (hB : B < 1000000000) (v : Int32) (hi : ¬ (lw (v >>> (nI 22 &&& 31)) (nI 7)) ≤ 0) (w0 : nI 7 ≤ (lw v (nI 32))) (w1 : nI 14 ≤ (lw v (nI 32))) (w2 : nI 22 ≤ (lw v (nI 32))) (w3 : nI 25 ≤ (lw v (nI 32))) (w4 : ¬ nI 29 ≤ (lw v (nI 32))) : ∃ (k : Nat) (T' : Nat → Int32) (x : Int32), k ≤ 3 ∧ Jv (B + 3200) T' ∧ (∀ (l : Launch) (hl9 : l.stackTraces = false) (D : va_G) (st : Nat → Nat) (z : Ad) (oa : Nat) (hoa : ¬ AX z oa) (hDX : va_D (fun _ => True) (wX z 0 0 0 f00 f00 f00 (fun _ => f00) 0 (0, 0, 0, 0) (fun _ => 0))) (g : Int32) (sn : Nat) (hsn : sn ≤ 6), k_H l yL_act wsL_act { frames := 9, cells := 1, slots := 6, locals := 164 } [.ref z.o, .int v, .ref oa] st D z oa (OS z D sn T) g (nI k) (CE k z D sn T T') (OE k x)) := by
  obtain ⟨k, T', x, h1, h2, h3⟩ := ch_4 hJ hB (lw (v >>> (nI 5 &&& 31)) (nI 8)) (nI 0)
  refine ⟨k, T', x, h1, h2, fun l hl9 D st z oa hoa hDX g sn hsn => ?_⟩
  refine k_goA (cc := cL_act) (maxL := 8) (ty := .int) (lv0 := [(0, .ref z.o), (1, .int v), (2, .ref oa)]) (by decide) rfl (Nat.le_of_ble_eq_true rfl) rfl rfl ?_
  intro p e s m args below meth c Q ls hx hb hml hts hown hC hO hK hT hl hret
  have hS : va_S (AXo z oa) s.heap s.heap [] := va_S.rf
  refine lv_iload_n hx hb dL_act_0 rfl (lv_at hl 1 rfl) ?_
  refine lv_bipush (v := nI 32) hx hb dL_act_1 (by decide) ?_
  refine q_ciK (BH := fun _ => True) (va_runS (rm := { frames := 0, cells := 0, slots := 0, locals := 0 }) (As := [.int v, .int (nI 32)]) (rest := []) ⟨hx, hb, hml, hown, hts⟩ (L_low l D v (nI 32) (by decide)) (va_cwS 2 hts gL_act_L_low rfl rfl rfl (by decide +kernel) ⟨Nat.le_of_ble_eq_true rfl, Nat.le_of_ble_eq_true rfl⟩) (q_pS (hO.sub (ws' := []) [] rfl) (hK.sub [] rfl)) rfl rfl hl.1 rfl (lv_room (Nat.le_of_ble_eq_true rfl)) dL_act_3 ⟨Nat.le_of_ble_eq_true rfl, Nat.le_of_ble_eq_true rfl⟩) (fun t h => trivial) hS (fun q h => h.elim) (fun x1 H locs e1 _ hk hS => ?_)
  have hC := hC.kp hk
  have hO := k_kp hO hk
  have e1 : x1 = (lw v (nI 32)) := e1
  subst e1
  refine lv_istore_n (lv' := [(3, .int (lw v (nI 32))), (0, .ref (z.o)), (1, .int v), (2, .ref oa)]) hx hb dL_act_6 rfl hl (by decide) rfl (fun ls hl => ?_)
  refine lv_iload_n hx hb dL_act_7 rfl (lv_at hl 2 rfl) ?_
  refine lv_iconst (v := nI 5) hx hb dL_act_8 (by decide) ?_
  refine lv_ishr hx hb dL_act_9 ?_
  refine lv_istore (lv' := [(4, .int (v >>> ((nI 5) &&& 31))), (3, .int (lw v (nI 32))), (0, .ref (z.o)), (1, .int v), (2, .ref oa)]) hx hb dL_act_10 hl (by decide) rfl (fun ls hl => ?_)
  refine lv_iload_n hx hb dL_act_12 rfl (lv_at hl 3 rfl) ?_
  refine lv_bipush (v := nI 22) hx hb dL_act_13 (by decide) ?_
  refine lv_ishr hx hb dL_act_15 ?_
  refine lv_bipush (v := nI 7) hx hb dL_act_16 (by decide) ?_
  refine q_ciK (BH := fun _ => True) (va_runS (rm := { frames := 0, cells := 0, slots := 0, locals := 0 }) (As := [.int (v >>> ((nI 22) &&& 31)), .int (nI 7)]) (rest := []) ⟨hx, hb, hml, hown, hts⟩ (L_low l D (v >>> ((nI 22) &&& 31)) (nI 7) (by decide)) (va_cwS 2 hts gL_act_L_low rfl rfl rfl (by decide +kernel) ⟨Nat.le_of_ble_eq_true rfl, Nat.le_of_ble_eq_true rfl⟩) (q_pS (hO.sub (ws' := []) [] rfl) (hK.sub [] rfl)) rfl rfl hl.1 rfl (lv_room (Nat.le_of_ble_eq_true rfl)) dL_act_18 ⟨Nat.le_of_ble_eq_true rfl, Nat.le_of_ble_eq_true rfl⟩) (fun t h => trivial) hS (fun q h => h.elim) (fun x2 H locs e2 _ hk hS => ?_)
  have hC := hC.kp hk
  have hO := k_kp hO hk
  have e2 : x2 = (lw (v >>> ((nI 22) &&& 31)) (nI 7)) := e2
  subst e2
  refine lv_if_le (tgt := 28) hx hb dL_act_21 (by decide) (fun c3 => absurd c3 hi) (fun c3 => ?_)
  refine lv_iconst (v := nI 1) hx hb dL_act_24 (by decide) ?_
  refine lv_goto (tgt := 29) hx hb dL_act_25 (by decide) ?_
  refine lv_istore (lv' := [(5, .int (nI 1)), (4, .int (v >>> ((nI 5) &&& 31))), (3, .int (lw v (nI 32))), (0, .ref (z.o)), (1, .int v), (2, .ref oa)]) hx hb dL_act_29 hl (by decide) rfl (fun ls hl => ?_)
  refine lv_iload hx hb dL_act_31 (lv_at hl 1 rfl) ?_
  refine lv_iload hx hb dL_act_33 (lv_at hl 0 rfl) ?_
  refine lv_if_eq (tgt := 42) hx hb dL_act_35 (by decide) (fun c4 => absurd c4 (by decide)) (fun c4 => ?_)
  refine lv_iconst (v := nI 3) hx hb dL_act_38 (by decide) ?_
  refine lv_goto (tgt := 43) hx hb dL_act_39 (by decide) ?_
  refine q_ciK (BH := fun _ => True) (va_runS (rm := { frames := 0, cells := 0, slots := 0, locals := 0 }) (As := [.int (v >>> ((nI 5) &&& 31)), .int (nI 3)]) (rest := []) ⟨hx, hb, hml, hown, hts⟩ (L_low l D (v >>> ((nI 5) &&& 31)) (nI 3) (by decide)) (va_cwS 2 hts gL_act_L_low rfl rfl rfl (by decide +kernel) ⟨Nat.le_of_ble_eq_true rfl, Nat.le_of_ble_eq_true rfl⟩) (q_pS (hO.sub (ws' := []) [] rfl) (hK.sub [] rfl)) rfl rfl hl.1 rfl (lv_room (Nat.le_of_ble_eq_true rfl)) dL_act_43 ⟨Nat.le_of_ble_eq_true rfl, Nat.le_of_ble_eq_true rfl⟩) (fun t h => trivial) hS (fun q h => h.elim) (fun x5 H locs e5 _ hk hS => ?_)
  have hC := hC.kp hk
  have hO := k_kp hO hk
  have e5 : x5 = (lw (v >>> ((nI 5) &&& 31)) (nI 3)) := e5
  subst e5
  refine lv_istore (lv' := [(6, .int (lw (v >>> ((nI 5) &&& 31)) (nI 3))), (5, .int (nI 1)), (4, .int (v >>> ((nI 5) &&& 31))), (3, .int (lw v (nI 32))), (0, .ref (z.o)), (1, .int v), (2, .ref oa)]) hx hb dL_act_46 hl (by decide) rfl (fun ls hl => ?_)
  refine lv_iload hx hb dL_act_48 (lv_at hl 2 rfl) ?_
  refine lv_iload hx hb dL_act_50 (lv_at hl 1 rfl) ?_
  refine lv_if_eq (tgt := 60) hx hb dL_act_52 (by decide) (fun c6 => absurd c6 (by decide)) (fun c6 => ?_)
  refine lv_bipush (v := nI 8) hx hb dL_act_55 (by decide) ?_
  refine lv_goto (tgt := 62) hx hb dL_act_57 (by decide) ?_
  refine q_ciK (BH := fun _ => True) (va_runS (rm := { frames := 0, cells := 0, slots := 0, locals := 0 }) (As := [.int (v >>> ((nI 5) &&& 31)), .int (nI 8)]) (rest := []) ⟨hx, hb, hml, hown, hts⟩ (L_low l D (v >>> ((nI 5) &&& 31)) (nI 8) (by decide)) (va_cwS 2 hts gL_act_L_low rfl rfl rfl (by decide +kernel) ⟨Nat.le_of_ble_eq_true rfl, Nat.le_of_ble_eq_true rfl⟩) (q_pS (hO.sub (ws' := []) [] rfl) (hK.sub [] rfl)) rfl rfl hl.1 rfl (lv_room (Nat.le_of_ble_eq_true rfl)) dL_act_62 ⟨Nat.le_of_ble_eq_true rfl, Nat.le_of_ble_eq_true rfl⟩) (fun t h => trivial) hS (fun q h => h.elim) (fun x7 H locs e7 _ hk hS => ?_)
  have hC := hC.kp hk
  have hO := k_kp hO hk
  have e7 : x7 = (lw (v >>> ((nI 5) &&& 31)) (nI 8)) := e7
  subst e7
  refine lv_istore (lv' := [(7, .int (lw (v >>> ((nI 5) &&& 31)) (nI 8))), (6, .int (lw (v >>> ((nI 5) &&& 31)) (nI 3))), (5, .int (nI 1)), (4, .int (v >>> ((nI 5) &&& 31))), (3, .int (lw v (nI 32))), (0, .ref (z.o)), (1, .int v), (2, .ref oa)]) hx hb dL_act_65 hl (by decide) rfl (fun ls hl => ?_)
  refine lv_iload_n hx hb dL_act_67 rfl (lv_at hl 4 rfl) ?_
  refine lv_bipush (v := nI 7) hx hb dL_act_68 (by decide) ?_
  refine lv_icmp_ge (tgt := 118) hx hb dL_act_70 (by decide) (fun c8 => ?_) (fun c8 => absurd c8 (fun z => z w0))
  refine lv_iload_n hx hb dL_act_118 rfl (lv_at hl 4 rfl) ?_
  refine lv_bipush (v := nI 14) hx hb dL_act_119 (by decide) ?_
  refine lv_icmp_ge (tgt := 134) hx hb dL_act_121 (by decide) (fun c9 => ?_) (fun c9 => absurd c9 (fun z => z w1))
  refine lv_iload_n hx hb dL_act_134 rfl (lv_at hl 4 rfl) ?_
  refine lv_bipush (v := nI 22) hx hb dL_act_135 (by decide) ?_
  refine lv_icmp_ge (tgt := 166) hx hb dL_act_137 (by decide) (fun c10 => ?_) (fun c10 => absurd c10 (fun z => z w2))
  refine lv_iload_n hx hb dL_act_166 rfl (lv_at hl 4 rfl) ?_
  refine lv_bipush (v := nI 25) hx hb dL_act_167 (by decide) ?_
  refine lv_icmp_ge (tgt := 182) hx hb dL_act_169 (by decide) (fun c11 => ?_) (fun c11 => absurd c11 (fun z => z w3))
  refine lv_iload_n hx hb dL_act_182 rfl (lv_at hl 4 rfl) ?_
  refine lv_bipush (v := nI 29) hx hb dL_act_183 (by decide) ?_
  refine lv_icmp_ge (tgt := 198) hx hb dL_act_185 (by decide) (fun c12 => absurd c12 w4) (fun c12 => ?_)
  refine lv_aload_n hx hb dL_act_188 rfl (lv_at hl 5 rfl) ?_
  refine lv_iconst (v := nI 4) hx hb dL_act_189 (by decide) ?_
  refine lv_iload hx hb dL_act_190 (lv_at hl 0 rfl) ?_
  refine lv_iconst (v := nI 0) hx hb dL_act_192 (by decide) ?_
  refine lv_aload_n hx hb dL_act_193 rfl (lv_at hl 7 rfl) ?_
  refine q_ciK (BH := fun H => CE k z D sn T T' H ∧ ∃ g', OE k x g' ∧ va_P D vwCl (wI oa z.cI g') H) (vx_runSW (rm := { frames := 8, cells := 1, slots := 6, locals := 139 }) (As := [.ref (z.o), .int (nI 4), .int (lw (v >>> ((nI 5) &&& 31)) (nI 8)), .int (nI 0), .ref oa]) (rest := []) ⟨hx, hb, hml, hown, hts⟩ (h3 l hl9 D st z oa hoa hDX g sn hsn) (vx_cwSW (hh := [(0, 76, 79, 30), (0, 76, 83, 32), (0, 76, 87, 34)]) 5 hts gL_act_L_changes rfl rfl rfl (by decide +kernel) ⟨Nat.le_of_ble_eq_true rfl, Nat.le_of_ble_eq_true rfl⟩) (k_pS (C0 := OS z D sn T) hC hO hK hT hS (fun q h => h)) rfl rfl hl.1 rfl (lv_room (Nat.le_of_ble_eq_true rfl)) dL_act_194 ⟨Nat.le_of_ble_eq_true rfl, Nat.le_of_ble_eq_true rfl⟩) (fun _ h => h) hS (fun q h => h) (fun r H locs er hCO hk5 hS => ?_)
  obtain ⟨hC, g1, hg1, hO⟩ := hCO
  have er : nI k = r := Eq.symm er
  subst er
  exact hret _ _ _ _ _ hC hg1 hO hS dL_act_197
set_option maxHeartbeats 4000000 in
set_option maxRecDepth 100000 in
theorem act_15 {B : Nat} {T : Nat → Int32} (hJ : Jv B T) (hB : B < 1000000000) (v : Int32) (hi : ¬ (lw (v >>> (nI 22 &&& 31)) (nI 7)) ≤ 0) (w0 : nI 7 ≤ (lw v (nI 32))) (w1 : nI 14 ≤ (lw v (nI 32))) (w2 : nI 22 ≤ (lw v (nI 32))) (w3 : nI 25 ≤ (lw v (nI 32))) (w4 : nI 29 ≤ (lw v (nI 32))) (w5 : (lw v (nI 32)) = nI 29) : ∃ (k : Nat) (T' : Nat → Int32) (x : Int32), k ≤ 3 ∧ Jv (B + 3200) T' ∧ (∀ (l : Launch) (hl9 : l.stackTraces = false) (D : va_G) (st : Nat → Nat) (z : Ad) (oa : Nat) (hoa : ¬ AX z oa) (hDX : va_D (fun _ => True) (wX z 0 0 0 f00 f00 f00 (fun _ => f00) 0 (0, 0, 0, 0) (fun _ => 0))) (g : Int32) (sn : Nat) (hsn : sn ≤ 6), k_H l yL_act wsL_act { frames := 9, cells := 1, slots := 6, locals := 164 } [.ref z.o, .int v, .ref oa] st D z oa (OS z D sn T) g (nI k) (CE k z D sn T T') (OE k x)) := by
  obtain ⟨k, T', x, h1, h2, h3⟩ := ch_5 hJ hB (lw (v >>> (nI 5 &&& 31)) (nI 8)) (nI 10 + lw ((v >>> (nI 5 &&& 31)) >>> (nI 3 &&& 31)) (nI 31))
  refine ⟨k, T', x, h1, h2, fun l hl9 D st z oa hoa hDX g sn hsn => ?_⟩
  refine k_goA (cc := cL_act) (maxL := 8) (ty := .int) (lv0 := [(0, .ref z.o), (1, .int v), (2, .ref oa)]) (by decide) rfl (Nat.le_of_ble_eq_true rfl) rfl rfl ?_
  intro p e s m args below meth c Q ls hx hb hml hts hown hC hO hK hT hl hret
  have hS : va_S (AXo z oa) s.heap s.heap [] := va_S.rf
  refine lv_iload_n hx hb dL_act_0 rfl (lv_at hl 1 rfl) ?_
  refine lv_bipush (v := nI 32) hx hb dL_act_1 (by decide) ?_
  refine q_ciK (BH := fun _ => True) (va_runS (rm := { frames := 0, cells := 0, slots := 0, locals := 0 }) (As := [.int v, .int (nI 32)]) (rest := []) ⟨hx, hb, hml, hown, hts⟩ (L_low l D v (nI 32) (by decide)) (va_cwS 2 hts gL_act_L_low rfl rfl rfl (by decide +kernel) ⟨Nat.le_of_ble_eq_true rfl, Nat.le_of_ble_eq_true rfl⟩) (q_pS (hO.sub (ws' := []) [] rfl) (hK.sub [] rfl)) rfl rfl hl.1 rfl (lv_room (Nat.le_of_ble_eq_true rfl)) dL_act_3 ⟨Nat.le_of_ble_eq_true rfl, Nat.le_of_ble_eq_true rfl⟩) (fun t h => trivial) hS (fun q h => h.elim) (fun x1 H locs e1 _ hk hS => ?_)
  have hC := hC.kp hk
  have hO := k_kp hO hk
  have e1 : x1 = (lw v (nI 32)) := e1
  subst e1
  refine lv_istore_n (lv' := [(3, .int (lw v (nI 32))), (0, .ref (z.o)), (1, .int v), (2, .ref oa)]) hx hb dL_act_6 rfl hl (by decide) rfl (fun ls hl => ?_)
  refine lv_iload_n hx hb dL_act_7 rfl (lv_at hl 2 rfl) ?_
  refine lv_iconst (v := nI 5) hx hb dL_act_8 (by decide) ?_
  refine lv_ishr hx hb dL_act_9 ?_
  refine lv_istore (lv' := [(4, .int (v >>> ((nI 5) &&& 31))), (3, .int (lw v (nI 32))), (0, .ref (z.o)), (1, .int v), (2, .ref oa)]) hx hb dL_act_10 hl (by decide) rfl (fun ls hl => ?_)
  refine lv_iload_n hx hb dL_act_12 rfl (lv_at hl 3 rfl) ?_
  refine lv_bipush (v := nI 22) hx hb dL_act_13 (by decide) ?_
  refine lv_ishr hx hb dL_act_15 ?_
  refine lv_bipush (v := nI 7) hx hb dL_act_16 (by decide) ?_
  refine q_ciK (BH := fun _ => True) (va_runS (rm := { frames := 0, cells := 0, slots := 0, locals := 0 }) (As := [.int (v >>> ((nI 22) &&& 31)), .int (nI 7)]) (rest := []) ⟨hx, hb, hml, hown, hts⟩ (L_low l D (v >>> ((nI 22) &&& 31)) (nI 7) (by decide)) (va_cwS 2 hts gL_act_L_low rfl rfl rfl (by decide +kernel) ⟨Nat.le_of_ble_eq_true rfl, Nat.le_of_ble_eq_true rfl⟩) (q_pS (hO.sub (ws' := []) [] rfl) (hK.sub [] rfl)) rfl rfl hl.1 rfl (lv_room (Nat.le_of_ble_eq_true rfl)) dL_act_18 ⟨Nat.le_of_ble_eq_true rfl, Nat.le_of_ble_eq_true rfl⟩) (fun t h => trivial) hS (fun q h => h.elim) (fun x2 H locs e2 _ hk hS => ?_)
  have hC := hC.kp hk
  have hO := k_kp hO hk
  have e2 : x2 = (lw (v >>> ((nI 22) &&& 31)) (nI 7)) := e2
  subst e2
  refine lv_if_le (tgt := 28) hx hb dL_act_21 (by decide) (fun c3 => absurd c3 hi) (fun c3 => ?_)
  refine lv_iconst (v := nI 1) hx hb dL_act_24 (by decide) ?_
  refine lv_goto (tgt := 29) hx hb dL_act_25 (by decide) ?_
  refine lv_istore (lv' := [(5, .int (nI 1)), (4, .int (v >>> ((nI 5) &&& 31))), (3, .int (lw v (nI 32))), (0, .ref (z.o)), (1, .int v), (2, .ref oa)]) hx hb dL_act_29 hl (by decide) rfl (fun ls hl => ?_)
  refine lv_iload hx hb dL_act_31 (lv_at hl 1 rfl) ?_
  refine lv_iload hx hb dL_act_33 (lv_at hl 0 rfl) ?_
  refine lv_if_eq (tgt := 42) hx hb dL_act_35 (by decide) (fun c4 => absurd c4 (by decide)) (fun c4 => ?_)
  refine lv_iconst (v := nI 3) hx hb dL_act_38 (by decide) ?_
  refine lv_goto (tgt := 43) hx hb dL_act_39 (by decide) ?_
  refine q_ciK (BH := fun _ => True) (va_runS (rm := { frames := 0, cells := 0, slots := 0, locals := 0 }) (As := [.int (v >>> ((nI 5) &&& 31)), .int (nI 3)]) (rest := []) ⟨hx, hb, hml, hown, hts⟩ (L_low l D (v >>> ((nI 5) &&& 31)) (nI 3) (by decide)) (va_cwS 2 hts gL_act_L_low rfl rfl rfl (by decide +kernel) ⟨Nat.le_of_ble_eq_true rfl, Nat.le_of_ble_eq_true rfl⟩) (q_pS (hO.sub (ws' := []) [] rfl) (hK.sub [] rfl)) rfl rfl hl.1 rfl (lv_room (Nat.le_of_ble_eq_true rfl)) dL_act_43 ⟨Nat.le_of_ble_eq_true rfl, Nat.le_of_ble_eq_true rfl⟩) (fun t h => trivial) hS (fun q h => h.elim) (fun x5 H locs e5 _ hk hS => ?_)
  have hC := hC.kp hk
  have hO := k_kp hO hk
  have e5 : x5 = (lw (v >>> ((nI 5) &&& 31)) (nI 3)) := e5
  subst e5
  refine lv_istore (lv' := [(6, .int (lw (v >>> ((nI 5) &&& 31)) (nI 3))), (5, .int (nI 1)), (4, .int (v >>> ((nI 5) &&& 31))), (3, .int (lw v (nI 32))), (0, .ref (z.o)), (1, .int v), (2, .ref oa)]) hx hb dL_act_46 hl (by decide) rfl (fun ls hl => ?_)
  refine lv_iload hx hb dL_act_48 (lv_at hl 2 rfl) ?_
  refine lv_iload hx hb dL_act_50 (lv_at hl 1 rfl) ?_
  refine lv_if_eq (tgt := 60) hx hb dL_act_52 (by decide) (fun c6 => absurd c6 (by decide)) (fun c6 => ?_)
  refine lv_bipush (v := nI 8) hx hb dL_act_55 (by decide) ?_
  refine lv_goto (tgt := 62) hx hb dL_act_57 (by decide) ?_
  refine q_ciK (BH := fun _ => True) (va_runS (rm := { frames := 0, cells := 0, slots := 0, locals := 0 }) (As := [.int (v >>> ((nI 5) &&& 31)), .int (nI 8)]) (rest := []) ⟨hx, hb, hml, hown, hts⟩ (L_low l D (v >>> ((nI 5) &&& 31)) (nI 8) (by decide)) (va_cwS 2 hts gL_act_L_low rfl rfl rfl (by decide +kernel) ⟨Nat.le_of_ble_eq_true rfl, Nat.le_of_ble_eq_true rfl⟩) (q_pS (hO.sub (ws' := []) [] rfl) (hK.sub [] rfl)) rfl rfl hl.1 rfl (lv_room (Nat.le_of_ble_eq_true rfl)) dL_act_62 ⟨Nat.le_of_ble_eq_true rfl, Nat.le_of_ble_eq_true rfl⟩) (fun t h => trivial) hS (fun q h => h.elim) (fun x7 H locs e7 _ hk hS => ?_)
  have hC := hC.kp hk
  have hO := k_kp hO hk
  have e7 : x7 = (lw (v >>> ((nI 5) &&& 31)) (nI 8)) := e7
  subst e7
  refine lv_istore (lv' := [(7, .int (lw (v >>> ((nI 5) &&& 31)) (nI 8))), (6, .int (lw (v >>> ((nI 5) &&& 31)) (nI 3))), (5, .int (nI 1)), (4, .int (v >>> ((nI 5) &&& 31))), (3, .int (lw v (nI 32))), (0, .ref (z.o)), (1, .int v), (2, .ref oa)]) hx hb dL_act_65 hl (by decide) rfl (fun ls hl => ?_)
  refine lv_iload_n hx hb dL_act_67 rfl (lv_at hl 4 rfl) ?_
  refine lv_bipush (v := nI 7) hx hb dL_act_68 (by decide) ?_
  refine lv_icmp_ge (tgt := 118) hx hb dL_act_70 (by decide) (fun c8 => ?_) (fun c8 => absurd c8 (fun z => z w0))
  refine lv_iload_n hx hb dL_act_118 rfl (lv_at hl 4 rfl) ?_
  refine lv_bipush (v := nI 14) hx hb dL_act_119 (by decide) ?_
  refine lv_icmp_ge (tgt := 134) hx hb dL_act_121 (by decide) (fun c9 => ?_) (fun c9 => absurd c9 (fun z => z w1))
  refine lv_iload_n hx hb dL_act_134 rfl (lv_at hl 4 rfl) ?_
  refine lv_bipush (v := nI 22) hx hb dL_act_135 (by decide) ?_
  refine lv_icmp_ge (tgt := 166) hx hb dL_act_137 (by decide) (fun c10 => ?_) (fun c10 => absurd c10 (fun z => z w2))
  refine lv_iload_n hx hb dL_act_166 rfl (lv_at hl 4 rfl) ?_
  refine lv_bipush (v := nI 25) hx hb dL_act_167 (by decide) ?_
  refine lv_icmp_ge (tgt := 182) hx hb dL_act_169 (by decide) (fun c11 => ?_) (fun c11 => absurd c11 (fun z => z w3))
  refine lv_iload_n hx hb dL_act_182 rfl (lv_at hl 4 rfl) ?_
  refine lv_bipush (v := nI 29) hx hb dL_act_183 (by decide) ?_
  refine lv_icmp_ge (tgt := 198) hx hb dL_act_185 (by decide) (fun c12 => ?_) (fun c12 => absurd c12 (fun z => z w4))
  refine lv_iload_n hx hb dL_act_198 rfl (lv_at hl 4 rfl) ?_
  refine lv_bipush (v := nI 29) hx hb dL_act_199 (by decide) ?_
  refine lv_icmp_ne (tgt := 246) hx hb dL_act_201 (by decide) (fun c13 => absurd c13 (fun z => z w5)) (fun c13 => ?_)
  refine lv_aload_n hx hb dL_act_204 rfl (lv_at hl 5 rfl) ?_
  refine lv_iconst (v := nI 5) hx hb dL_act_205 (by decide) ?_
  refine lv_iload hx hb dL_act_206 (lv_at hl 0 rfl) ?_
  refine lv_iload hx hb dL_act_208 (lv_at hl 2 rfl) ?_
  refine lv_if_eq (tgt := 218) hx hb dL_act_210 (by decide) (fun c14 => absurd c14 (by decide)) (fun c14 => ?_)
  refine lv_bipush (v := nI 10) hx hb dL_act_213 (by decide) ?_
  refine lv_goto (tgt := 219) hx hb dL_act_215 (by decide) ?_
  refine lv_iload hx hb dL_act_219 (lv_at hl 3 rfl) ?_
  refine lv_iconst (v := nI 3) hx hb dL_act_221 (by decide) ?_
  refine lv_ishr hx hb dL_act_222 ?_
  refine lv_iload hx hb dL_act_223 (lv_at hl 2 rfl) ?_
  refine lv_if_eq (tgt := 233) hx hb dL_act_225 (by decide) (fun c15 => absurd c15 (by decide)) (fun c15 => ?_)
  refine lv_bipush (v := nI 31) hx hb dL_act_228 (by decide) ?_
  refine lv_goto (tgt := 235) hx hb dL_act_230 (by decide) ?_
  refine q_ciK (BH := fun _ => True) (va_runS (rm := { frames := 0, cells := 0, slots := 0, locals := 0 }) (As := [.int ((v >>> ((nI 5) &&& 31)) >>> ((nI 3) &&& 31)), .int (nI 31)]) (rest := [.int (nI 10), .int (lw (v >>> ((nI 5) &&& 31)) (nI 8)), .int (nI 5), .ref (z.o)]) ⟨hx, hb, hml, hown, hts⟩ (L_low l D ((v >>> ((nI 5) &&& 31)) >>> ((nI 3) &&& 31)) (nI 31) (by decide)) (va_cwS 2 hts gL_act_L_low rfl rfl rfl (by decide +kernel) ⟨Nat.le_of_ble_eq_true rfl, Nat.le_of_ble_eq_true rfl⟩) (q_pS (hO.sub (ws' := []) [] rfl) (hK.sub [] rfl)) rfl rfl hl.1 rfl (lv_room (Nat.le_of_ble_eq_true rfl)) dL_act_235 ⟨Nat.le_of_ble_eq_true rfl, Nat.le_of_ble_eq_true rfl⟩) (fun t h => trivial) hS (fun q h => h.elim) (fun x16 H locs e16 _ hk hS => ?_)
  have hC := hC.kp hk
  have hO := k_kp hO hk
  have e16 : x16 = (lw ((v >>> ((nI 5) &&& 31)) >>> ((nI 3) &&& 31)) (nI 31)) := e16
  subst e16
  refine lv_iadd hx hb dL_act_238 ?_
  refine lv_aload_n hx hb dL_act_239 rfl (lv_at hl 7 rfl) ?_
  refine q_ciK (BH := fun H => CE k z D sn T T' H ∧ ∃ g', OE k x g' ∧ va_P D vwCl (wI oa z.cI g') H) (vx_runSW (rm := { frames := 8, cells := 1, slots := 6, locals := 139 }) (As := [.ref (z.o), .int (nI 5), .int (lw (v >>> ((nI 5) &&& 31)) (nI 8)), .int ((nI 10) + (lw ((v >>> ((nI 5) &&& 31)) >>> ((nI 3) &&& 31)) (nI 31))), .ref oa]) (rest := []) ⟨hx, hb, hml, hown, hts⟩ (h3 l hl9 D st z oa hoa hDX g sn hsn) (vx_cwSW (hh := [(0, 76, 79, 30), (0, 76, 83, 32), (0, 76, 87, 34)]) 5 hts gL_act_L_changes rfl rfl rfl (by decide +kernel) ⟨Nat.le_of_ble_eq_true rfl, Nat.le_of_ble_eq_true rfl⟩) (k_pS (C0 := OS z D sn T) hC hO hK hT hS (fun q h => h)) rfl rfl hl.1 rfl (lv_room (Nat.le_of_ble_eq_true rfl)) dL_act_240 ⟨Nat.le_of_ble_eq_true rfl, Nat.le_of_ble_eq_true rfl⟩) (fun _ h => h) hS (fun q h => h) (fun r H locs er hCO hk5 hS => ?_)
  obtain ⟨hC, g1, hg1, hO⟩ := hCO
  have er : nI k = r := Eq.symm er
  subst er
  refine lv_goto (tgt := 317) hx hb dL_act_243 (by decide) ?_
  exact hret _ _ _ _ _ hC hg1 hO hS dL_act_317
set_option maxHeartbeats 4000000 in
set_option maxRecDepth 100000 in
theorem act_16 {B : Nat} {T : Nat → Int32} (hJ : Jv B T) (hB : B < 1000000000) (v : Int32) (hi : ¬ (lw (v >>> (nI 22 &&& 31)) (nI 7)) ≤ 0) (w0 : nI 7 ≤ (lw v (nI 32))) (w1 : nI 14 ≤ (lw v (nI 32))) (w2 : nI 22 ≤ (lw v (nI 32))) (w3 : nI 25 ≤ (lw v (nI 32))) (w4 : nI 29 ≤ (lw v (nI 32))) (w5 : ¬ (lw v (nI 32)) = nI 29) : ∃ (k : Nat) (T' : Nat → Int32) (x : Int32), k ≤ 3 ∧ Jv (B + 3200) T' ∧ (∀ (l : Launch) (hl9 : l.stackTraces = false) (D : va_G) (st : Nat → Nat) (z : Ad) (oa : Nat) (hoa : ¬ AX z oa) (hDX : va_D (fun _ => True) (wX z 0 0 0 f00 f00 f00 (fun _ => f00) 0 (0, 0, 0, 0) (fun _ => 0))) (g : Int32) (sn : Nat) (hsn : sn ≤ 6), k_H l yL_act wsL_act { frames := 9, cells := 1, slots := 6, locals := 164 } [.ref z.o, .int v, .ref oa] st D z oa (OS z D sn T) g (nI k) (CE k z D sn T T') (OE k x)) := by
  obtain ⟨k, T', x, h1, h2, h3⟩ := lk_0 hJ (lw (v >>> (nI 5 &&& 31)) (nI 8)) (nI 1 + lw ((v >>> (nI 5 &&& 31)) >>> (nI 3 &&& 31)) (nI 20)) (lw ((v >>> (nI 5 &&& 31)) >>> (nI 6 &&& 31)) (nI 11)) (lw ((v >>> (nI 5 &&& 31)) >>> (nI 9 &&& 31)) (nI 41) - nI 20)
  refine ⟨k, T', x, h1, h2, fun l hl9 D st z oa hoa hDX g sn hsn => ?_⟩
  refine k_goA (cc := cL_act) (maxL := 8) (ty := .int) (lv0 := [(0, .ref z.o), (1, .int v), (2, .ref oa)]) (by decide) rfl (Nat.le_of_ble_eq_true rfl) rfl rfl ?_
  intro p e s m args below meth c Q ls hx hb hml hts hown hC hO hK hT hl hret
  have hS : va_S (AXo z oa) s.heap s.heap [] := va_S.rf
  refine lv_iload_n hx hb dL_act_0 rfl (lv_at hl 1 rfl) ?_
  refine lv_bipush (v := nI 32) hx hb dL_act_1 (by decide) ?_
  refine q_ciK (BH := fun _ => True) (va_runS (rm := { frames := 0, cells := 0, slots := 0, locals := 0 }) (As := [.int v, .int (nI 32)]) (rest := []) ⟨hx, hb, hml, hown, hts⟩ (L_low l D v (nI 32) (by decide)) (va_cwS 2 hts gL_act_L_low rfl rfl rfl (by decide +kernel) ⟨Nat.le_of_ble_eq_true rfl, Nat.le_of_ble_eq_true rfl⟩) (q_pS (hO.sub (ws' := []) [] rfl) (hK.sub [] rfl)) rfl rfl hl.1 rfl (lv_room (Nat.le_of_ble_eq_true rfl)) dL_act_3 ⟨Nat.le_of_ble_eq_true rfl, Nat.le_of_ble_eq_true rfl⟩) (fun t h => trivial) hS (fun q h => h.elim) (fun x1 H locs e1 _ hk hS => ?_)
  have hC := hC.kp hk
  have hO := k_kp hO hk
  have e1 : x1 = (lw v (nI 32)) := e1
  subst e1
  refine lv_istore_n (lv' := [(3, .int (lw v (nI 32))), (0, .ref (z.o)), (1, .int v), (2, .ref oa)]) hx hb dL_act_6 rfl hl (by decide) rfl (fun ls hl => ?_)
  refine lv_iload_n hx hb dL_act_7 rfl (lv_at hl 2 rfl) ?_
  refine lv_iconst (v := nI 5) hx hb dL_act_8 (by decide) ?_
  refine lv_ishr hx hb dL_act_9 ?_
  refine lv_istore (lv' := [(4, .int (v >>> ((nI 5) &&& 31))), (3, .int (lw v (nI 32))), (0, .ref (z.o)), (1, .int v), (2, .ref oa)]) hx hb dL_act_10 hl (by decide) rfl (fun ls hl => ?_)
  refine lv_iload_n hx hb dL_act_12 rfl (lv_at hl 3 rfl) ?_
  refine lv_bipush (v := nI 22) hx hb dL_act_13 (by decide) ?_
  refine lv_ishr hx hb dL_act_15 ?_
  refine lv_bipush (v := nI 7) hx hb dL_act_16 (by decide) ?_
  refine q_ciK (BH := fun _ => True) (va_runS (rm := { frames := 0, cells := 0, slots := 0, locals := 0 }) (As := [.int (v >>> ((nI 22) &&& 31)), .int (nI 7)]) (rest := []) ⟨hx, hb, hml, hown, hts⟩ (L_low l D (v >>> ((nI 22) &&& 31)) (nI 7) (by decide)) (va_cwS 2 hts gL_act_L_low rfl rfl rfl (by decide +kernel) ⟨Nat.le_of_ble_eq_true rfl, Nat.le_of_ble_eq_true rfl⟩) (q_pS (hO.sub (ws' := []) [] rfl) (hK.sub [] rfl)) rfl rfl hl.1 rfl (lv_room (Nat.le_of_ble_eq_true rfl)) dL_act_18 ⟨Nat.le_of_ble_eq_true rfl, Nat.le_of_ble_eq_true rfl⟩) (fun t h => trivial) hS (fun q h => h.elim) (fun x2 H locs e2 _ hk hS => ?_)
  have hC := hC.kp hk
  have hO := k_kp hO hk
  have e2 : x2 = (lw (v >>> ((nI 22) &&& 31)) (nI 7)) := e2
  subst e2
  refine lv_if_le (tgt := 28) hx hb dL_act_21 (by decide) (fun c3 => absurd c3 hi) (fun c3 => ?_)
  refine lv_iconst (v := nI 1) hx hb dL_act_24 (by decide) ?_
  refine lv_goto (tgt := 29) hx hb dL_act_25 (by decide) ?_
  refine lv_istore (lv' := [(5, .int (nI 1)), (4, .int (v >>> ((nI 5) &&& 31))), (3, .int (lw v (nI 32))), (0, .ref (z.o)), (1, .int v), (2, .ref oa)]) hx hb dL_act_29 hl (by decide) rfl (fun ls hl => ?_)
  refine lv_iload hx hb dL_act_31 (lv_at hl 1 rfl) ?_
  refine lv_iload hx hb dL_act_33 (lv_at hl 0 rfl) ?_
  refine lv_if_eq (tgt := 42) hx hb dL_act_35 (by decide) (fun c4 => absurd c4 (by decide)) (fun c4 => ?_)
  refine lv_iconst (v := nI 3) hx hb dL_act_38 (by decide) ?_
  refine lv_goto (tgt := 43) hx hb dL_act_39 (by decide) ?_
  refine q_ciK (BH := fun _ => True) (va_runS (rm := { frames := 0, cells := 0, slots := 0, locals := 0 }) (As := [.int (v >>> ((nI 5) &&& 31)), .int (nI 3)]) (rest := []) ⟨hx, hb, hml, hown, hts⟩ (L_low l D (v >>> ((nI 5) &&& 31)) (nI 3) (by decide)) (va_cwS 2 hts gL_act_L_low rfl rfl rfl (by decide +kernel) ⟨Nat.le_of_ble_eq_true rfl, Nat.le_of_ble_eq_true rfl⟩) (q_pS (hO.sub (ws' := []) [] rfl) (hK.sub [] rfl)) rfl rfl hl.1 rfl (lv_room (Nat.le_of_ble_eq_true rfl)) dL_act_43 ⟨Nat.le_of_ble_eq_true rfl, Nat.le_of_ble_eq_true rfl⟩) (fun t h => trivial) hS (fun q h => h.elim) (fun x5 H locs e5 _ hk hS => ?_)
  have hC := hC.kp hk
  have hO := k_kp hO hk
  have e5 : x5 = (lw (v >>> ((nI 5) &&& 31)) (nI 3)) := e5
  subst e5
  refine lv_istore (lv' := [(6, .int (lw (v >>> ((nI 5) &&& 31)) (nI 3))), (5, .int (nI 1)), (4, .int (v >>> ((nI 5) &&& 31))), (3, .int (lw v (nI 32))), (0, .ref (z.o)), (1, .int v), (2, .ref oa)]) hx hb dL_act_46 hl (by decide) rfl (fun ls hl => ?_)
  refine lv_iload hx hb dL_act_48 (lv_at hl 2 rfl) ?_
  refine lv_iload hx hb dL_act_50 (lv_at hl 1 rfl) ?_
  refine lv_if_eq (tgt := 60) hx hb dL_act_52 (by decide) (fun c6 => absurd c6 (by decide)) (fun c6 => ?_)
  refine lv_bipush (v := nI 8) hx hb dL_act_55 (by decide) ?_
  refine lv_goto (tgt := 62) hx hb dL_act_57 (by decide) ?_
  refine q_ciK (BH := fun _ => True) (va_runS (rm := { frames := 0, cells := 0, slots := 0, locals := 0 }) (As := [.int (v >>> ((nI 5) &&& 31)), .int (nI 8)]) (rest := []) ⟨hx, hb, hml, hown, hts⟩ (L_low l D (v >>> ((nI 5) &&& 31)) (nI 8) (by decide)) (va_cwS 2 hts gL_act_L_low rfl rfl rfl (by decide +kernel) ⟨Nat.le_of_ble_eq_true rfl, Nat.le_of_ble_eq_true rfl⟩) (q_pS (hO.sub (ws' := []) [] rfl) (hK.sub [] rfl)) rfl rfl hl.1 rfl (lv_room (Nat.le_of_ble_eq_true rfl)) dL_act_62 ⟨Nat.le_of_ble_eq_true rfl, Nat.le_of_ble_eq_true rfl⟩) (fun t h => trivial) hS (fun q h => h.elim) (fun x7 H locs e7 _ hk hS => ?_)
  have hC := hC.kp hk
  have hO := k_kp hO hk
  have e7 : x7 = (lw (v >>> ((nI 5) &&& 31)) (nI 8)) := e7
  subst e7
  refine lv_istore (lv' := [(7, .int (lw (v >>> ((nI 5) &&& 31)) (nI 8))), (6, .int (lw (v >>> ((nI 5) &&& 31)) (nI 3))), (5, .int (nI 1)), (4, .int (v >>> ((nI 5) &&& 31))), (3, .int (lw v (nI 32))), (0, .ref (z.o)), (1, .int v), (2, .ref oa)]) hx hb dL_act_65 hl (by decide) rfl (fun ls hl => ?_)
  refine lv_iload_n hx hb dL_act_67 rfl (lv_at hl 4 rfl) ?_
  refine lv_bipush (v := nI 7) hx hb dL_act_68 (by decide) ?_
  refine lv_icmp_ge (tgt := 118) hx hb dL_act_70 (by decide) (fun c8 => ?_) (fun c8 => absurd c8 (fun z => z w0))
  refine lv_iload_n hx hb dL_act_118 rfl (lv_at hl 4 rfl) ?_
  refine lv_bipush (v := nI 14) hx hb dL_act_119 (by decide) ?_
  refine lv_icmp_ge (tgt := 134) hx hb dL_act_121 (by decide) (fun c9 => ?_) (fun c9 => absurd c9 (fun z => z w1))
  refine lv_iload_n hx hb dL_act_134 rfl (lv_at hl 4 rfl) ?_
  refine lv_bipush (v := nI 22) hx hb dL_act_135 (by decide) ?_
  refine lv_icmp_ge (tgt := 166) hx hb dL_act_137 (by decide) (fun c10 => ?_) (fun c10 => absurd c10 (fun z => z w2))
  refine lv_iload_n hx hb dL_act_166 rfl (lv_at hl 4 rfl) ?_
  refine lv_bipush (v := nI 25) hx hb dL_act_167 (by decide) ?_
  refine lv_icmp_ge (tgt := 182) hx hb dL_act_169 (by decide) (fun c11 => ?_) (fun c11 => absurd c11 (fun z => z w3))
  refine lv_iload_n hx hb dL_act_182 rfl (lv_at hl 4 rfl) ?_
  refine lv_bipush (v := nI 29) hx hb dL_act_183 (by decide) ?_
  refine lv_icmp_ge (tgt := 198) hx hb dL_act_185 (by decide) (fun c12 => ?_) (fun c12 => absurd c12 (fun z => z w4))
  refine lv_iload_n hx hb dL_act_198 rfl (lv_at hl 4 rfl) ?_
  refine lv_bipush (v := nI 29) hx hb dL_act_199 (by decide) ?_
  refine lv_icmp_ne (tgt := 246) hx hb dL_act_201 (by decide) (fun c13 => ?_) (fun c13 => absurd c13 (fun z => w5 z))
  refine lv_aload_n hx hb dL_act_246 rfl (lv_at hl 5 rfl) ?_
  refine lv_iload hx hb dL_act_247 (lv_at hl 0 rfl) ?_
  refine lv_iconst (v := nI 1) hx hb dL_act_249 (by decide) ?_
  refine lv_iload hx hb dL_act_250 (lv_at hl 3 rfl) ?_
  refine lv_iconst (v := nI 3) hx hb dL_act_252 (by decide) ?_
  refine lv_ishr hx hb dL_act_253 ?_
  refine lv_iload hx hb dL_act_254 (lv_at hl 2 rfl) ?_
  refine lv_if_eq (tgt := 264) hx hb dL_act_256 (by decide) (fun c14 => absurd c14 (by decide)) (fun c14 => ?_)
  refine lv_bipush (v := nI 20) hx hb dL_act_259 (by decide) ?_
  refine lv_goto (tgt := 266) hx hb dL_act_261 (by decide) ?_
  refine q_ciK (BH := fun _ => True) (va_runS (rm := { frames := 0, cells := 0, slots := 0, locals := 0 }) (As := [.int ((v >>> ((nI 5) &&& 31)) >>> ((nI 3) &&& 31)), .int (nI 20)]) (rest := [.int (nI 1), .int (lw (v >>> ((nI 5) &&& 31)) (nI 8)), .ref (z.o)]) ⟨hx, hb, hml, hown, hts⟩ (L_low l D ((v >>> ((nI 5) &&& 31)) >>> ((nI 3) &&& 31)) (nI 20) (by decide)) (va_cwS 2 hts gL_act_L_low rfl rfl rfl (by decide +kernel) ⟨Nat.le_of_ble_eq_true rfl, Nat.le_of_ble_eq_true rfl⟩) (q_pS (hO.sub (ws' := []) [] rfl) (hK.sub [] rfl)) rfl rfl hl.1 rfl (lv_room (Nat.le_of_ble_eq_true rfl)) dL_act_266 ⟨Nat.le_of_ble_eq_true rfl, Nat.le_of_ble_eq_true rfl⟩) (fun t h => trivial) hS (fun q h => h.elim) (fun x15 H locs e15 _ hk hS => ?_)
  have hC := hC.kp hk
  have hO := k_kp hO hk
  have e15 : x15 = (lw ((v >>> ((nI 5) &&& 31)) >>> ((nI 3) &&& 31)) (nI 20)) := e15
  subst e15
  refine lv_iadd hx hb dL_act_269 ?_
  refine lv_iload hx hb dL_act_270 (lv_at hl 3 rfl) ?_
  refine lv_bipush (v := nI 6) hx hb dL_act_272 (by decide) ?_
  refine lv_ishr hx hb dL_act_274 ?_
  refine lv_iload hx hb dL_act_275 (lv_at hl 2 rfl) ?_
  refine lv_if_eq (tgt := 285) hx hb dL_act_277 (by decide) (fun c16 => absurd c16 (by decide)) (fun c16 => ?_)
  refine lv_bipush (v := nI 11) hx hb dL_act_280 (by decide) ?_
  refine lv_goto (tgt := 287) hx hb dL_act_282 (by decide) ?_
  refine q_ciK (BH := fun _ => True) (va_runS (rm := { frames := 0, cells := 0, slots := 0, locals := 0 }) (As := [.int ((v >>> ((nI 5) &&& 31)) >>> ((nI 6) &&& 31)), .int (nI 11)]) (rest := [.int ((nI 1) + (lw ((v >>> ((nI 5) &&& 31)) >>> ((nI 3) &&& 31)) (nI 20))), .int (lw (v >>> ((nI 5) &&& 31)) (nI 8)), .ref (z.o)]) ⟨hx, hb, hml, hown, hts⟩ (L_low l D ((v >>> ((nI 5) &&& 31)) >>> ((nI 6) &&& 31)) (nI 11) (by decide)) (va_cwS 2 hts gL_act_L_low rfl rfl rfl (by decide +kernel) ⟨Nat.le_of_ble_eq_true rfl, Nat.le_of_ble_eq_true rfl⟩) (q_pS (hO.sub (ws' := []) [] rfl) (hK.sub [] rfl)) rfl rfl hl.1 rfl (lv_room (Nat.le_of_ble_eq_true rfl)) dL_act_287 ⟨Nat.le_of_ble_eq_true rfl, Nat.le_of_ble_eq_true rfl⟩) (fun t h => trivial) hS (fun q h => h.elim) (fun x17 H locs e17 _ hk hS => ?_)
  have hC := hC.kp hk
  have hO := k_kp hO hk
  have e17 : x17 = (lw ((v >>> ((nI 5) &&& 31)) >>> ((nI 6) &&& 31)) (nI 11)) := e17
  subst e17
  refine lv_iload hx hb dL_act_290 (lv_at hl 3 rfl) ?_
  refine lv_bipush (v := nI 9) hx hb dL_act_292 (by decide) ?_
  refine lv_ishr hx hb dL_act_294 ?_
  refine lv_iload hx hb dL_act_295 (lv_at hl 2 rfl) ?_
  refine lv_if_eq (tgt := 305) hx hb dL_act_297 (by decide) (fun c18 => absurd c18 (by decide)) (fun c18 => ?_)
  refine lv_bipush (v := nI 41) hx hb dL_act_300 (by decide) ?_
  refine lv_goto (tgt := 307) hx hb dL_act_302 (by decide) ?_
  refine q_ciK (BH := fun _ => True) (va_runS (rm := { frames := 0, cells := 0, slots := 0, locals := 0 }) (As := [.int ((v >>> ((nI 5) &&& 31)) >>> ((nI 9) &&& 31)), .int (nI 41)]) (rest := [.int (lw ((v >>> ((nI 5) &&& 31)) >>> ((nI 6) &&& 31)) (nI 11)), .int ((nI 1) + (lw ((v >>> ((nI 5) &&& 31)) >>> ((nI 3) &&& 31)) (nI 20))), .int (lw (v >>> ((nI 5) &&& 31)) (nI 8)), .ref (z.o)]) ⟨hx, hb, hml, hown, hts⟩ (L_low l D ((v >>> ((nI 5) &&& 31)) >>> ((nI 9) &&& 31)) (nI 41) (by decide)) (va_cwS 2 hts gL_act_L_low rfl rfl rfl (by decide +kernel) ⟨Nat.le_of_ble_eq_true rfl, Nat.le_of_ble_eq_true rfl⟩) (q_pS (hO.sub (ws' := []) [] rfl) (hK.sub [] rfl)) rfl rfl hl.1 rfl (lv_room (Nat.le_of_ble_eq_true rfl)) dL_act_307 ⟨Nat.le_of_ble_eq_true rfl, Nat.le_of_ble_eq_true rfl⟩) (fun t h => trivial) hS (fun q h => h.elim) (fun x19 H locs e19 _ hk hS => ?_)
  have hC := hC.kp hk
  have hO := k_kp hO hk
  have e19 : x19 = (lw ((v >>> ((nI 5) &&& 31)) >>> ((nI 9) &&& 31)) (nI 41)) := e19
  subst e19
  refine lv_bipush (v := nI 20) hx hb dL_act_310 (by decide) ?_
  refine lv_isub hx hb dL_act_312 ?_
  refine lv_aload_n hx hb dL_act_313 rfl (lv_at hl 7 rfl) ?_
  refine q_ciK (BH := fun H => CE k z D sn T T' H ∧ ∃ g', OE k x g' ∧ va_P D vwCl (wI oa z.cI g') H) (vx_runSW (rm := { frames := 8, cells := 1, slots := 6, locals := 129 }) (As := [.ref (z.o), .int (lw (v >>> ((nI 5) &&& 31)) (nI 8)), .int ((nI 1) + (lw ((v >>> ((nI 5) &&& 31)) >>> ((nI 3) &&& 31)) (nI 20))), .int (lw ((v >>> ((nI 5) &&& 31)) >>> ((nI 6) &&& 31)) (nI 11)), .int ((lw ((v >>> ((nI 5) &&& 31)) >>> ((nI 9) &&& 31)) (nI 41)) - (nI 20)), .ref oa]) (rest := []) ⟨hx, hb, hml, hown, hts⟩ (h3 l hl9 D st z oa hoa hDX g sn hsn) (vx_cwSW (hh := [(0, 13, 16, 30), (0, 13, 20, 32)]) 6 hts gL_act_L_likes rfl rfl rfl (by decide +kernel) ⟨Nat.le_of_ble_eq_true rfl, Nat.le_of_ble_eq_true rfl⟩) (k_pS (C0 := OS z D sn T) hC hO hK hT hS (fun q h => h)) rfl rfl hl.1 rfl (lv_room (Nat.le_of_ble_eq_true rfl)) dL_act_314 ⟨Nat.le_of_ble_eq_true rfl, Nat.le_of_ble_eq_true rfl⟩) (fun _ h => h) hS (fun q h => h) (fun r H locs er hCO hk5 hS => ?_)
  obtain ⟨hC, g1, hg1, hO⟩ := hCO
  have er : nI k = r := Eq.symm er
  subst er
  exact hret _ _ _ _ _ hC hg1 hO hS dL_act_317
set_option maxHeartbeats 4000000 in
set_option maxRecDepth 100000 in
theorem act_00a {B : Nat} {T : Nat → Int32} (hJ : Jv B T) (hB : B < 1000000000) (v : Int32) (hi : (lw (v >>> (nI 22 &&& 31)) (nI 7)) ≤ 0) (w0 : ¬ nI 7 ≤ (lw v (nI 32))) (hb0 : (((v >>> (nI 5 &&& 31)) >>> (nI 10 &&& 31)) &&& nI 1) = 0) : ∃ (k : Nat) (T' : Nat → Int32) (x : Int32), k ≤ 3 ∧ Jv (B + 3200) T' ∧ (∀ (l : Launch) (hl9 : l.stackTraces = false) (D : va_G) (st : Nat → Nat) (z : Ad) (oa : Nat) (hoa : ¬ AX z oa) (hDX : va_D (fun _ => True) (wX z 0 0 0 f00 f00 f00 (fun _ => f00) 0 (0, 0, 0, 0) (fun _ => 0))) (g : Int32) (sn : Nat) (hsn : sn ≤ 6), k_H l yL_act wsL_act { frames := 9, cells := 1, slots := 6, locals := 164 } [.ref z.o, .int v, .ref oa] st D z oa (OS z D sn T) g (nI k) (CE k z D sn T T') (OE k x)) := by
  obtain ⟨k, T', x, h1, h2, h3⟩ := ch_0 hJ hB (lw (v >>> (nI 5 &&& 31)) (nI 4)) (nI 0 + lw ((v >>> (nI 5 &&& 31)) >>> (nI 2 &&& 31)) (nI 210))
  refine ⟨k, T', x, h1, h2, fun l hl9 D st z oa hoa hDX g sn hsn => ?_⟩
  refine k_goA (cc := cL_act) (maxL := 8) (ty := .int) (lv0 := [(0, .ref z.o), (1, .int v), (2, .ref oa)]) (by decide) rfl (Nat.le_of_ble_eq_true rfl) rfl rfl ?_
  intro p e s m args below meth c Q ls hx hb hml hts hown hC hO hK hT hl hret
  have hS : va_S (AXo z oa) s.heap s.heap [] := va_S.rf
  refine lv_iload_n hx hb dL_act_0 rfl (lv_at hl 1 rfl) ?_
  refine lv_bipush (v := nI 32) hx hb dL_act_1 (by decide) ?_
  refine q_ciK (BH := fun _ => True) (va_runS (rm := { frames := 0, cells := 0, slots := 0, locals := 0 }) (As := [.int v, .int (nI 32)]) (rest := []) ⟨hx, hb, hml, hown, hts⟩ (L_low l D v (nI 32) (by decide)) (va_cwS 2 hts gL_act_L_low rfl rfl rfl (by decide +kernel) ⟨Nat.le_of_ble_eq_true rfl, Nat.le_of_ble_eq_true rfl⟩) (q_pS (hO.sub (ws' := []) [] rfl) (hK.sub [] rfl)) rfl rfl hl.1 rfl (lv_room (Nat.le_of_ble_eq_true rfl)) dL_act_3 ⟨Nat.le_of_ble_eq_true rfl, Nat.le_of_ble_eq_true rfl⟩) (fun t h => trivial) hS (fun q h => h.elim) (fun x1 H locs e1 _ hk hS => ?_)
  have hC := hC.kp hk
  have hO := k_kp hO hk
  have e1 : x1 = (lw v (nI 32)) := e1
  subst e1
  refine lv_istore_n (lv' := [(3, .int (lw v (nI 32))), (0, .ref (z.o)), (1, .int v), (2, .ref oa)]) hx hb dL_act_6 rfl hl (by decide) rfl (fun ls hl => ?_)
  refine lv_iload_n hx hb dL_act_7 rfl (lv_at hl 2 rfl) ?_
  refine lv_iconst (v := nI 5) hx hb dL_act_8 (by decide) ?_
  refine lv_ishr hx hb dL_act_9 ?_
  refine lv_istore (lv' := [(4, .int (v >>> ((nI 5) &&& 31))), (3, .int (lw v (nI 32))), (0, .ref (z.o)), (1, .int v), (2, .ref oa)]) hx hb dL_act_10 hl (by decide) rfl (fun ls hl => ?_)
  refine lv_iload_n hx hb dL_act_12 rfl (lv_at hl 3 rfl) ?_
  refine lv_bipush (v := nI 22) hx hb dL_act_13 (by decide) ?_
  refine lv_ishr hx hb dL_act_15 ?_
  refine lv_bipush (v := nI 7) hx hb dL_act_16 (by decide) ?_
  refine q_ciK (BH := fun _ => True) (va_runS (rm := { frames := 0, cells := 0, slots := 0, locals := 0 }) (As := [.int (v >>> ((nI 22) &&& 31)), .int (nI 7)]) (rest := []) ⟨hx, hb, hml, hown, hts⟩ (L_low l D (v >>> ((nI 22) &&& 31)) (nI 7) (by decide)) (va_cwS 2 hts gL_act_L_low rfl rfl rfl (by decide +kernel) ⟨Nat.le_of_ble_eq_true rfl, Nat.le_of_ble_eq_true rfl⟩) (q_pS (hO.sub (ws' := []) [] rfl) (hK.sub [] rfl)) rfl rfl hl.1 rfl (lv_room (Nat.le_of_ble_eq_true rfl)) dL_act_18 ⟨Nat.le_of_ble_eq_true rfl, Nat.le_of_ble_eq_true rfl⟩) (fun t h => trivial) hS (fun q h => h.elim) (fun x2 H locs e2 _ hk hS => ?_)
  have hC := hC.kp hk
  have hO := k_kp hO hk
  have e2 : x2 = (lw (v >>> ((nI 22) &&& 31)) (nI 7)) := e2
  subst e2
  refine lv_if_le (tgt := 28) hx hb dL_act_21 (by decide) (fun c3 => ?_) (fun c3 => absurd c3 (fun z => z hi))
  refine lv_iconst (v := nI 0) hx hb dL_act_28 (by decide) ?_
  refine lv_istore (lv' := [(5, .int (nI 0)), (4, .int (v >>> ((nI 5) &&& 31))), (3, .int (lw v (nI 32))), (0, .ref (z.o)), (1, .int v), (2, .ref oa)]) hx hb dL_act_29 hl (by decide) rfl (fun ls hl => ?_)
  refine lv_iload hx hb dL_act_31 (lv_at hl 1 rfl) ?_
  refine lv_iload hx hb dL_act_33 (lv_at hl 0 rfl) ?_
  refine lv_if_eq (tgt := 42) hx hb dL_act_35 (by decide) (fun c4 => ?_) (fun c4 => absurd c4 (by decide))
  refine lv_iconst (v := nI 4) hx hb dL_act_42 (by decide) ?_
  refine q_ciK (BH := fun _ => True) (va_runS (rm := { frames := 0, cells := 0, slots := 0, locals := 0 }) (As := [.int (v >>> ((nI 5) &&& 31)), .int (nI 4)]) (rest := []) ⟨hx, hb, hml, hown, hts⟩ (L_low l D (v >>> ((nI 5) &&& 31)) (nI 4) (by decide)) (va_cwS 2 hts gL_act_L_low rfl rfl rfl (by decide +kernel) ⟨Nat.le_of_ble_eq_true rfl, Nat.le_of_ble_eq_true rfl⟩) (q_pS (hO.sub (ws' := []) [] rfl) (hK.sub [] rfl)) rfl rfl hl.1 rfl (lv_room (Nat.le_of_ble_eq_true rfl)) dL_act_43 ⟨Nat.le_of_ble_eq_true rfl, Nat.le_of_ble_eq_true rfl⟩) (fun t h => trivial) hS (fun q h => h.elim) (fun x5 H locs e5 _ hk hS => ?_)
  have hC := hC.kp hk
  have hO := k_kp hO hk
  have e5 : x5 = (lw (v >>> ((nI 5) &&& 31)) (nI 4)) := e5
  subst e5
  refine lv_istore (lv' := [(6, .int (lw (v >>> ((nI 5) &&& 31)) (nI 4))), (5, .int (nI 0)), (4, .int (v >>> ((nI 5) &&& 31))), (3, .int (lw v (nI 32))), (0, .ref (z.o)), (1, .int v), (2, .ref oa)]) hx hb dL_act_46 hl (by decide) rfl (fun ls hl => ?_)
  refine lv_iload hx hb dL_act_48 (lv_at hl 2 rfl) ?_
  refine lv_iload hx hb dL_act_50 (lv_at hl 1 rfl) ?_
  refine lv_if_eq (tgt := 60) hx hb dL_act_52 (by decide) (fun c6 => ?_) (fun c6 => absurd c6 (by decide))
  refine lv_bipush (v := nI 9) hx hb dL_act_60 (by decide) ?_
  refine q_ciK (BH := fun _ => True) (va_runS (rm := { frames := 0, cells := 0, slots := 0, locals := 0 }) (As := [.int (v >>> ((nI 5) &&& 31)), .int (nI 9)]) (rest := []) ⟨hx, hb, hml, hown, hts⟩ (L_low l D (v >>> ((nI 5) &&& 31)) (nI 9) (by decide)) (va_cwS 2 hts gL_act_L_low rfl rfl rfl (by decide +kernel) ⟨Nat.le_of_ble_eq_true rfl, Nat.le_of_ble_eq_true rfl⟩) (q_pS (hO.sub (ws' := []) [] rfl) (hK.sub [] rfl)) rfl rfl hl.1 rfl (lv_room (Nat.le_of_ble_eq_true rfl)) dL_act_62 ⟨Nat.le_of_ble_eq_true rfl, Nat.le_of_ble_eq_true rfl⟩) (fun t h => trivial) hS (fun q h => h.elim) (fun x7 H locs e7 _ hk hS => ?_)
  have hC := hC.kp hk
  have hO := k_kp hO hk
  have e7 : x7 = (lw (v >>> ((nI 5) &&& 31)) (nI 9)) := e7
  subst e7
  refine lv_istore (lv' := [(7, .int (lw (v >>> ((nI 5) &&& 31)) (nI 9))), (6, .int (lw (v >>> ((nI 5) &&& 31)) (nI 4))), (5, .int (nI 0)), (4, .int (v >>> ((nI 5) &&& 31))), (3, .int (lw v (nI 32))), (0, .ref (z.o)), (1, .int v), (2, .ref oa)]) hx hb dL_act_65 hl (by decide) rfl (fun ls hl => ?_)
  refine lv_iload_n hx hb dL_act_67 rfl (lv_at hl 4 rfl) ?_
  refine lv_bipush (v := nI 7) hx hb dL_act_68 (by decide) ?_
  refine lv_icmp_ge (tgt := 118) hx hb dL_act_70 (by decide) (fun c8 => absurd c8 w0) (fun c8 => ?_)
  refine lv_aload_n hx hb dL_act_73 rfl (lv_at hl 5 rfl) ?_
  refine lv_iconst (v := nI 0) hx hb dL_act_74 (by decide) ?_
  refine lv_iload hx hb dL_act_75 (lv_at hl 1 rfl) ?_
  refine lv_iload hx hb dL_act_77 (lv_at hl 2 rfl) ?_
  refine lv_if_eq (tgt := 86) hx hb dL_act_79 (by decide) (fun c9 => ?_) (fun c9 => absurd c9 (by decide))
  refine lv_iconst (v := nI 0) hx hb dL_act_86 (by decide) ?_
  refine lv_iload hx hb dL_act_87 (lv_at hl 3 rfl) ?_
  refine lv_iconst (v := nI 2) hx hb dL_act_89 (by decide) ?_
  refine lv_ishr hx hb dL_act_90 ?_
  refine lv_iload hx hb dL_act_91 (lv_at hl 3 rfl) ?_
  refine lv_bipush (v := nI 10) hx hb dL_act_93 (by decide) ?_
  refine lv_ishr hx hb dL_act_95 ?_
  refine lv_iconst (v := nI 1) hx hb dL_act_96 (by decide) ?_
  refine lv_iand hx hb dL_act_97 ?_
  refine lv_if_ne (tgt := 107) hx hb dL_act_98 (by decide) (fun c10 => absurd c10 (fun z => z hb0)) (fun c10 => ?_)
  refine lv_sipush (v := nI 210) hx hb dL_act_101 (by decide) ?_
  refine lv_goto (tgt := 109) hx hb dL_act_104 (by decide) ?_
  refine q_ciK (BH := fun _ => True) (va_runS (rm := { frames := 0, cells := 0, slots := 0, locals := 0 }) (As := [.int ((v >>> ((nI 5) &&& 31)) >>> ((nI 2) &&& 31)), .int (nI 210)]) (rest := [.int (nI 0), .int (lw (v >>> ((nI 5) &&& 31)) (nI 4)), .int (nI 0), .ref (z.o)]) ⟨hx, hb, hml, hown, hts⟩ (L_low l D ((v >>> ((nI 5) &&& 31)) >>> ((nI 2) &&& 31)) (nI 210) (by decide)) (va_cwS 2 hts gL_act_L_low rfl rfl rfl (by decide +kernel) ⟨Nat.le_of_ble_eq_true rfl, Nat.le_of_ble_eq_true rfl⟩) (q_pS (hO.sub (ws' := []) [] rfl) (hK.sub [] rfl)) rfl rfl hl.1 rfl (lv_room (Nat.le_of_ble_eq_true rfl)) dL_act_109 ⟨Nat.le_of_ble_eq_true rfl, Nat.le_of_ble_eq_true rfl⟩) (fun t h => trivial) hS (fun q h => h.elim) (fun x11 H locs e11 _ hk hS => ?_)
  have hC := hC.kp hk
  have hO := k_kp hO hk
  have e11 : x11 = (lw ((v >>> ((nI 5) &&& 31)) >>> ((nI 2) &&& 31)) (nI 210)) := e11
  subst e11
  refine lv_iadd hx hb dL_act_112 ?_
  refine lv_aload_n hx hb dL_act_113 rfl (lv_at hl 7 rfl) ?_
  refine q_ciK (BH := fun H => CE k z D sn T T' H ∧ ∃ g', OE k x g' ∧ va_P D vwCl (wI oa z.cI g') H) (vx_runSW (rm := { frames := 8, cells := 1, slots := 6, locals := 139 }) (As := [.ref (z.o), .int (nI 0), .int (lw (v >>> ((nI 5) &&& 31)) (nI 4)), .int ((nI 0) + (lw ((v >>> ((nI 5) &&& 31)) >>> ((nI 2) &&& 31)) (nI 210))), .ref oa]) (rest := []) ⟨hx, hb, hml, hown, hts⟩ (h3 l hl9 D st z oa hoa hDX g sn hsn) (vx_cwSW (hh := [(0, 76, 79, 30), (0, 76, 83, 32), (0, 76, 87, 34)]) 5 hts gL_act_L_changes rfl rfl rfl (by decide +kernel) ⟨Nat.le_of_ble_eq_true rfl, Nat.le_of_ble_eq_true rfl⟩) (k_pS (C0 := OS z D sn T) hC hO hK hT hS (fun q h => h)) rfl rfl hl.1 rfl (lv_room (Nat.le_of_ble_eq_true rfl)) dL_act_114 ⟨Nat.le_of_ble_eq_true rfl, Nat.le_of_ble_eq_true rfl⟩) (fun _ h => h) hS (fun q h => h) (fun r H locs er hCO hk5 hS => ?_)
  obtain ⟨hC, g1, hg1, hO⟩ := hCO
  have er : nI k = r := Eq.symm er
  subst er
  exact hret _ _ _ _ _ hC hg1 hO hS dL_act_117
set_option maxHeartbeats 4000000 in
set_option maxRecDepth 100000 in
theorem act_00b {B : Nat} {T : Nat → Int32} (hJ : Jv B T) (hB : B < 1000000000) (v : Int32) (hi : (lw (v >>> (nI 22 &&& 31)) (nI 7)) ≤ 0) (w0 : ¬ nI 7 ≤ (lw v (nI 32))) (hb0 : ¬ (((v >>> (nI 5 &&& 31)) >>> (nI 10 &&& 31)) &&& nI 1) = 0) : ∃ (k : Nat) (T' : Nat → Int32) (x : Int32), k ≤ 3 ∧ Jv (B + 3200) T' ∧ (∀ (l : Launch) (hl9 : l.stackTraces = false) (D : va_G) (st : Nat → Nat) (z : Ad) (oa : Nat) (hoa : ¬ AX z oa) (hDX : va_D (fun _ => True) (wX z 0 0 0 f00 f00 f00 (fun _ => f00) 0 (0, 0, 0, 0) (fun _ => 0))) (g : Int32) (sn : Nat) (hsn : sn ≤ 6), k_H l yL_act wsL_act { frames := 9, cells := 1, slots := 6, locals := 164 } [.ref z.o, .int v, .ref oa] st D z oa (OS z D sn T) g (nI k) (CE k z D sn T T') (OE k x)) := by
  obtain ⟨k, T', x, h1, h2, h3⟩ := ch_0 hJ hB (lw (v >>> (nI 5 &&& 31)) (nI 4)) (nI 0 + lw ((v >>> (nI 5 &&& 31)) >>> (nI 2 &&& 31)) (nI 50))
  refine ⟨k, T', x, h1, h2, fun l hl9 D st z oa hoa hDX g sn hsn => ?_⟩
  refine k_goA (cc := cL_act) (maxL := 8) (ty := .int) (lv0 := [(0, .ref z.o), (1, .int v), (2, .ref oa)]) (by decide) rfl (Nat.le_of_ble_eq_true rfl) rfl rfl ?_
  intro p e s m args below meth c Q ls hx hb hml hts hown hC hO hK hT hl hret
  have hS : va_S (AXo z oa) s.heap s.heap [] := va_S.rf
  refine lv_iload_n hx hb dL_act_0 rfl (lv_at hl 1 rfl) ?_
  refine lv_bipush (v := nI 32) hx hb dL_act_1 (by decide) ?_
  refine q_ciK (BH := fun _ => True) (va_runS (rm := { frames := 0, cells := 0, slots := 0, locals := 0 }) (As := [.int v, .int (nI 32)]) (rest := []) ⟨hx, hb, hml, hown, hts⟩ (L_low l D v (nI 32) (by decide)) (va_cwS 2 hts gL_act_L_low rfl rfl rfl (by decide +kernel) ⟨Nat.le_of_ble_eq_true rfl, Nat.le_of_ble_eq_true rfl⟩) (q_pS (hO.sub (ws' := []) [] rfl) (hK.sub [] rfl)) rfl rfl hl.1 rfl (lv_room (Nat.le_of_ble_eq_true rfl)) dL_act_3 ⟨Nat.le_of_ble_eq_true rfl, Nat.le_of_ble_eq_true rfl⟩) (fun t h => trivial) hS (fun q h => h.elim) (fun x1 H locs e1 _ hk hS => ?_)
  have hC := hC.kp hk
  have hO := k_kp hO hk
  have e1 : x1 = (lw v (nI 32)) := e1
  subst e1
  refine lv_istore_n (lv' := [(3, .int (lw v (nI 32))), (0, .ref (z.o)), (1, .int v), (2, .ref oa)]) hx hb dL_act_6 rfl hl (by decide) rfl (fun ls hl => ?_)
  refine lv_iload_n hx hb dL_act_7 rfl (lv_at hl 2 rfl) ?_
  refine lv_iconst (v := nI 5) hx hb dL_act_8 (by decide) ?_
  refine lv_ishr hx hb dL_act_9 ?_
  refine lv_istore (lv' := [(4, .int (v >>> ((nI 5) &&& 31))), (3, .int (lw v (nI 32))), (0, .ref (z.o)), (1, .int v), (2, .ref oa)]) hx hb dL_act_10 hl (by decide) rfl (fun ls hl => ?_)
  refine lv_iload_n hx hb dL_act_12 rfl (lv_at hl 3 rfl) ?_
  refine lv_bipush (v := nI 22) hx hb dL_act_13 (by decide) ?_
  refine lv_ishr hx hb dL_act_15 ?_
  refine lv_bipush (v := nI 7) hx hb dL_act_16 (by decide) ?_
  refine q_ciK (BH := fun _ => True) (va_runS (rm := { frames := 0, cells := 0, slots := 0, locals := 0 }) (As := [.int (v >>> ((nI 22) &&& 31)), .int (nI 7)]) (rest := []) ⟨hx, hb, hml, hown, hts⟩ (L_low l D (v >>> ((nI 22) &&& 31)) (nI 7) (by decide)) (va_cwS 2 hts gL_act_L_low rfl rfl rfl (by decide +kernel) ⟨Nat.le_of_ble_eq_true rfl, Nat.le_of_ble_eq_true rfl⟩) (q_pS (hO.sub (ws' := []) [] rfl) (hK.sub [] rfl)) rfl rfl hl.1 rfl (lv_room (Nat.le_of_ble_eq_true rfl)) dL_act_18 ⟨Nat.le_of_ble_eq_true rfl, Nat.le_of_ble_eq_true rfl⟩) (fun t h => trivial) hS (fun q h => h.elim) (fun x2 H locs e2 _ hk hS => ?_)
  have hC := hC.kp hk
  have hO := k_kp hO hk
  have e2 : x2 = (lw (v >>> ((nI 22) &&& 31)) (nI 7)) := e2
  subst e2
  refine lv_if_le (tgt := 28) hx hb dL_act_21 (by decide) (fun c3 => ?_) (fun c3 => absurd c3 (fun z => z hi))
  refine lv_iconst (v := nI 0) hx hb dL_act_28 (by decide) ?_
  refine lv_istore (lv' := [(5, .int (nI 0)), (4, .int (v >>> ((nI 5) &&& 31))), (3, .int (lw v (nI 32))), (0, .ref (z.o)), (1, .int v), (2, .ref oa)]) hx hb dL_act_29 hl (by decide) rfl (fun ls hl => ?_)
  refine lv_iload hx hb dL_act_31 (lv_at hl 1 rfl) ?_
  refine lv_iload hx hb dL_act_33 (lv_at hl 0 rfl) ?_
  refine lv_if_eq (tgt := 42) hx hb dL_act_35 (by decide) (fun c4 => ?_) (fun c4 => absurd c4 (by decide))
  refine lv_iconst (v := nI 4) hx hb dL_act_42 (by decide) ?_
  refine q_ciK (BH := fun _ => True) (va_runS (rm := { frames := 0, cells := 0, slots := 0, locals := 0 }) (As := [.int (v >>> ((nI 5) &&& 31)), .int (nI 4)]) (rest := []) ⟨hx, hb, hml, hown, hts⟩ (L_low l D (v >>> ((nI 5) &&& 31)) (nI 4) (by decide)) (va_cwS 2 hts gL_act_L_low rfl rfl rfl (by decide +kernel) ⟨Nat.le_of_ble_eq_true rfl, Nat.le_of_ble_eq_true rfl⟩) (q_pS (hO.sub (ws' := []) [] rfl) (hK.sub [] rfl)) rfl rfl hl.1 rfl (lv_room (Nat.le_of_ble_eq_true rfl)) dL_act_43 ⟨Nat.le_of_ble_eq_true rfl, Nat.le_of_ble_eq_true rfl⟩) (fun t h => trivial) hS (fun q h => h.elim) (fun x5 H locs e5 _ hk hS => ?_)
  have hC := hC.kp hk
  have hO := k_kp hO hk
  have e5 : x5 = (lw (v >>> ((nI 5) &&& 31)) (nI 4)) := e5
  subst e5
  refine lv_istore (lv' := [(6, .int (lw (v >>> ((nI 5) &&& 31)) (nI 4))), (5, .int (nI 0)), (4, .int (v >>> ((nI 5) &&& 31))), (3, .int (lw v (nI 32))), (0, .ref (z.o)), (1, .int v), (2, .ref oa)]) hx hb dL_act_46 hl (by decide) rfl (fun ls hl => ?_)
  refine lv_iload hx hb dL_act_48 (lv_at hl 2 rfl) ?_
  refine lv_iload hx hb dL_act_50 (lv_at hl 1 rfl) ?_
  refine lv_if_eq (tgt := 60) hx hb dL_act_52 (by decide) (fun c6 => ?_) (fun c6 => absurd c6 (by decide))
  refine lv_bipush (v := nI 9) hx hb dL_act_60 (by decide) ?_
  refine q_ciK (BH := fun _ => True) (va_runS (rm := { frames := 0, cells := 0, slots := 0, locals := 0 }) (As := [.int (v >>> ((nI 5) &&& 31)), .int (nI 9)]) (rest := []) ⟨hx, hb, hml, hown, hts⟩ (L_low l D (v >>> ((nI 5) &&& 31)) (nI 9) (by decide)) (va_cwS 2 hts gL_act_L_low rfl rfl rfl (by decide +kernel) ⟨Nat.le_of_ble_eq_true rfl, Nat.le_of_ble_eq_true rfl⟩) (q_pS (hO.sub (ws' := []) [] rfl) (hK.sub [] rfl)) rfl rfl hl.1 rfl (lv_room (Nat.le_of_ble_eq_true rfl)) dL_act_62 ⟨Nat.le_of_ble_eq_true rfl, Nat.le_of_ble_eq_true rfl⟩) (fun t h => trivial) hS (fun q h => h.elim) (fun x7 H locs e7 _ hk hS => ?_)
  have hC := hC.kp hk
  have hO := k_kp hO hk
  have e7 : x7 = (lw (v >>> ((nI 5) &&& 31)) (nI 9)) := e7
  subst e7
  refine lv_istore (lv' := [(7, .int (lw (v >>> ((nI 5) &&& 31)) (nI 9))), (6, .int (lw (v >>> ((nI 5) &&& 31)) (nI 4))), (5, .int (nI 0)), (4, .int (v >>> ((nI 5) &&& 31))), (3, .int (lw v (nI 32))), (0, .ref (z.o)), (1, .int v), (2, .ref oa)]) hx hb dL_act_65 hl (by decide) rfl (fun ls hl => ?_)
  refine lv_iload_n hx hb dL_act_67 rfl (lv_at hl 4 rfl) ?_
  refine lv_bipush (v := nI 7) hx hb dL_act_68 (by decide) ?_
  refine lv_icmp_ge (tgt := 118) hx hb dL_act_70 (by decide) (fun c8 => absurd c8 w0) (fun c8 => ?_)
  refine lv_aload_n hx hb dL_act_73 rfl (lv_at hl 5 rfl) ?_
  refine lv_iconst (v := nI 0) hx hb dL_act_74 (by decide) ?_
  refine lv_iload hx hb dL_act_75 (lv_at hl 1 rfl) ?_
  refine lv_iload hx hb dL_act_77 (lv_at hl 2 rfl) ?_
  refine lv_if_eq (tgt := 86) hx hb dL_act_79 (by decide) (fun c9 => ?_) (fun c9 => absurd c9 (by decide))
  refine lv_iconst (v := nI 0) hx hb dL_act_86 (by decide) ?_
  refine lv_iload hx hb dL_act_87 (lv_at hl 3 rfl) ?_
  refine lv_iconst (v := nI 2) hx hb dL_act_89 (by decide) ?_
  refine lv_ishr hx hb dL_act_90 ?_
  refine lv_iload hx hb dL_act_91 (lv_at hl 3 rfl) ?_
  refine lv_bipush (v := nI 10) hx hb dL_act_93 (by decide) ?_
  refine lv_ishr hx hb dL_act_95 ?_
  refine lv_iconst (v := nI 1) hx hb dL_act_96 (by decide) ?_
  refine lv_iand hx hb dL_act_97 ?_
  refine lv_if_ne (tgt := 107) hx hb dL_act_98 (by decide) (fun c10 => ?_) (fun c10 => absurd c10 (fun z => hb0 z))
  refine lv_bipush (v := nI 50) hx hb dL_act_107 (by decide) ?_
  refine q_ciK (BH := fun _ => True) (va_runS (rm := { frames := 0, cells := 0, slots := 0, locals := 0 }) (As := [.int ((v >>> ((nI 5) &&& 31)) >>> ((nI 2) &&& 31)), .int (nI 50)]) (rest := [.int (nI 0), .int (lw (v >>> ((nI 5) &&& 31)) (nI 4)), .int (nI 0), .ref (z.o)]) ⟨hx, hb, hml, hown, hts⟩ (L_low l D ((v >>> ((nI 5) &&& 31)) >>> ((nI 2) &&& 31)) (nI 50) (by decide)) (va_cwS 2 hts gL_act_L_low rfl rfl rfl (by decide +kernel) ⟨Nat.le_of_ble_eq_true rfl, Nat.le_of_ble_eq_true rfl⟩) (q_pS (hO.sub (ws' := []) [] rfl) (hK.sub [] rfl)) rfl rfl hl.1 rfl (lv_room (Nat.le_of_ble_eq_true rfl)) dL_act_109 ⟨Nat.le_of_ble_eq_true rfl, Nat.le_of_ble_eq_true rfl⟩) (fun t h => trivial) hS (fun q h => h.elim) (fun x11 H locs e11 _ hk hS => ?_)
  have hC := hC.kp hk
  have hO := k_kp hO hk
  have e11 : x11 = (lw ((v >>> ((nI 5) &&& 31)) >>> ((nI 2) &&& 31)) (nI 50)) := e11
  subst e11
  refine lv_iadd hx hb dL_act_112 ?_
  refine lv_aload_n hx hb dL_act_113 rfl (lv_at hl 7 rfl) ?_
  refine q_ciK (BH := fun H => CE k z D sn T T' H ∧ ∃ g', OE k x g' ∧ va_P D vwCl (wI oa z.cI g') H) (vx_runSW (rm := { frames := 8, cells := 1, slots := 6, locals := 139 }) (As := [.ref (z.o), .int (nI 0), .int (lw (v >>> ((nI 5) &&& 31)) (nI 4)), .int ((nI 0) + (lw ((v >>> ((nI 5) &&& 31)) >>> ((nI 2) &&& 31)) (nI 50))), .ref oa]) (rest := []) ⟨hx, hb, hml, hown, hts⟩ (h3 l hl9 D st z oa hoa hDX g sn hsn) (vx_cwSW (hh := [(0, 76, 79, 30), (0, 76, 83, 32), (0, 76, 87, 34)]) 5 hts gL_act_L_changes rfl rfl rfl (by decide +kernel) ⟨Nat.le_of_ble_eq_true rfl, Nat.le_of_ble_eq_true rfl⟩) (k_pS (C0 := OS z D sn T) hC hO hK hT hS (fun q h => h)) rfl rfl hl.1 rfl (lv_room (Nat.le_of_ble_eq_true rfl)) dL_act_114 ⟨Nat.le_of_ble_eq_true rfl, Nat.le_of_ble_eq_true rfl⟩) (fun _ h => h) hS (fun q h => h) (fun r H locs er hCO hk5 hS => ?_)
  obtain ⟨hC, g1, hg1, hO⟩ := hCO
  have er : nI k = r := Eq.symm er
  subst er
  exact hret _ _ _ _ _ hC hg1 hO hS dL_act_117
set_option maxHeartbeats 4000000 in
set_option maxRecDepth 100000 in
theorem act_01 {B : Nat} {T : Nat → Int32} (hJ : Jv B T) (hB : B < 1000000000) (v : Int32) (hi : (lw (v >>> (nI 22 &&& 31)) (nI 7)) ≤ 0) (w0 : nI 7 ≤ (lw v (nI 32))) (w1 : ¬ nI 14 ≤ (lw v (nI 32))) : ∃ (k : Nat) (T' : Nat → Int32) (x : Int32), k ≤ 3 ∧ Jv (B + 3200) T' ∧ (∀ (l : Launch) (hl9 : l.stackTraces = false) (D : va_G) (st : Nat → Nat) (z : Ad) (oa : Nat) (hoa : ¬ AX z oa) (hDX : va_D (fun _ => True) (wX z 0 0 0 f00 f00 f00 (fun _ => f00) 0 (0, 0, 0, 0) (fun _ => 0))) (g : Int32) (sn : Nat) (hsn : sn ≤ 6), k_H l yL_act wsL_act { frames := 9, cells := 1, slots := 6, locals := 164 } [.ref z.o, .int v, .ref oa] st D z oa (OS z D sn T) g (nI k) (CE k z D sn T T') (OE k x)) := by
  obtain ⟨k, T', x, h1, h2, h3⟩ := ch_1 hJ hB (lw (v >>> (nI 5 &&& 31)) (nI 4)) (nI 0)
  refine ⟨k, T', x, h1, h2, fun l hl9 D st z oa hoa hDX g sn hsn => ?_⟩
  refine k_goA (cc := cL_act) (maxL := 8) (ty := .int) (lv0 := [(0, .ref z.o), (1, .int v), (2, .ref oa)]) (by decide) rfl (Nat.le_of_ble_eq_true rfl) rfl rfl ?_
  intro p e s m args below meth c Q ls hx hb hml hts hown hC hO hK hT hl hret
  have hS : va_S (AXo z oa) s.heap s.heap [] := va_S.rf
  refine lv_iload_n hx hb dL_act_0 rfl (lv_at hl 1 rfl) ?_
  refine lv_bipush (v := nI 32) hx hb dL_act_1 (by decide) ?_
  refine q_ciK (BH := fun _ => True) (va_runS (rm := { frames := 0, cells := 0, slots := 0, locals := 0 }) (As := [.int v, .int (nI 32)]) (rest := []) ⟨hx, hb, hml, hown, hts⟩ (L_low l D v (nI 32) (by decide)) (va_cwS 2 hts gL_act_L_low rfl rfl rfl (by decide +kernel) ⟨Nat.le_of_ble_eq_true rfl, Nat.le_of_ble_eq_true rfl⟩) (q_pS (hO.sub (ws' := []) [] rfl) (hK.sub [] rfl)) rfl rfl hl.1 rfl (lv_room (Nat.le_of_ble_eq_true rfl)) dL_act_3 ⟨Nat.le_of_ble_eq_true rfl, Nat.le_of_ble_eq_true rfl⟩) (fun t h => trivial) hS (fun q h => h.elim) (fun x1 H locs e1 _ hk hS => ?_)
  have hC := hC.kp hk
  have hO := k_kp hO hk
  have e1 : x1 = (lw v (nI 32)) := e1
  subst e1
  refine lv_istore_n (lv' := [(3, .int (lw v (nI 32))), (0, .ref (z.o)), (1, .int v), (2, .ref oa)]) hx hb dL_act_6 rfl hl (by decide) rfl (fun ls hl => ?_)
  refine lv_iload_n hx hb dL_act_7 rfl (lv_at hl 2 rfl) ?_
  refine lv_iconst (v := nI 5) hx hb dL_act_8 (by decide) ?_
  refine lv_ishr hx hb dL_act_9 ?_
  refine lv_istore (lv' := [(4, .int (v >>> ((nI 5) &&& 31))), (3, .int (lw v (nI 32))), (0, .ref (z.o)), (1, .int v), (2, .ref oa)]) hx hb dL_act_10 hl (by decide) rfl (fun ls hl => ?_)
  refine lv_iload_n hx hb dL_act_12 rfl (lv_at hl 3 rfl) ?_
  refine lv_bipush (v := nI 22) hx hb dL_act_13 (by decide) ?_
  refine lv_ishr hx hb dL_act_15 ?_
  refine lv_bipush (v := nI 7) hx hb dL_act_16 (by decide) ?_
  refine q_ciK (BH := fun _ => True) (va_runS (rm := { frames := 0, cells := 0, slots := 0, locals := 0 }) (As := [.int (v >>> ((nI 22) &&& 31)), .int (nI 7)]) (rest := []) ⟨hx, hb, hml, hown, hts⟩ (L_low l D (v >>> ((nI 22) &&& 31)) (nI 7) (by decide)) (va_cwS 2 hts gL_act_L_low rfl rfl rfl (by decide +kernel) ⟨Nat.le_of_ble_eq_true rfl, Nat.le_of_ble_eq_true rfl⟩) (q_pS (hO.sub (ws' := []) [] rfl) (hK.sub [] rfl)) rfl rfl hl.1 rfl (lv_room (Nat.le_of_ble_eq_true rfl)) dL_act_18 ⟨Nat.le_of_ble_eq_true rfl, Nat.le_of_ble_eq_true rfl⟩) (fun t h => trivial) hS (fun q h => h.elim) (fun x2 H locs e2 _ hk hS => ?_)
  have hC := hC.kp hk
  have hO := k_kp hO hk
  have e2 : x2 = (lw (v >>> ((nI 22) &&& 31)) (nI 7)) := e2
  subst e2
  refine lv_if_le (tgt := 28) hx hb dL_act_21 (by decide) (fun c3 => ?_) (fun c3 => absurd c3 (fun z => z hi))
  refine lv_iconst (v := nI 0) hx hb dL_act_28 (by decide) ?_
  refine lv_istore (lv' := [(5, .int (nI 0)), (4, .int (v >>> ((nI 5) &&& 31))), (3, .int (lw v (nI 32))), (0, .ref (z.o)), (1, .int v), (2, .ref oa)]) hx hb dL_act_29 hl (by decide) rfl (fun ls hl => ?_)
  refine lv_iload hx hb dL_act_31 (lv_at hl 1 rfl) ?_
  refine lv_iload hx hb dL_act_33 (lv_at hl 0 rfl) ?_
  refine lv_if_eq (tgt := 42) hx hb dL_act_35 (by decide) (fun c4 => ?_) (fun c4 => absurd c4 (by decide))
  refine lv_iconst (v := nI 4) hx hb dL_act_42 (by decide) ?_
  refine q_ciK (BH := fun _ => True) (va_runS (rm := { frames := 0, cells := 0, slots := 0, locals := 0 }) (As := [.int (v >>> ((nI 5) &&& 31)), .int (nI 4)]) (rest := []) ⟨hx, hb, hml, hown, hts⟩ (L_low l D (v >>> ((nI 5) &&& 31)) (nI 4) (by decide)) (va_cwS 2 hts gL_act_L_low rfl rfl rfl (by decide +kernel) ⟨Nat.le_of_ble_eq_true rfl, Nat.le_of_ble_eq_true rfl⟩) (q_pS (hO.sub (ws' := []) [] rfl) (hK.sub [] rfl)) rfl rfl hl.1 rfl (lv_room (Nat.le_of_ble_eq_true rfl)) dL_act_43 ⟨Nat.le_of_ble_eq_true rfl, Nat.le_of_ble_eq_true rfl⟩) (fun t h => trivial) hS (fun q h => h.elim) (fun x5 H locs e5 _ hk hS => ?_)
  have hC := hC.kp hk
  have hO := k_kp hO hk
  have e5 : x5 = (lw (v >>> ((nI 5) &&& 31)) (nI 4)) := e5
  subst e5
  refine lv_istore (lv' := [(6, .int (lw (v >>> ((nI 5) &&& 31)) (nI 4))), (5, .int (nI 0)), (4, .int (v >>> ((nI 5) &&& 31))), (3, .int (lw v (nI 32))), (0, .ref (z.o)), (1, .int v), (2, .ref oa)]) hx hb dL_act_46 hl (by decide) rfl (fun ls hl => ?_)
  refine lv_iload hx hb dL_act_48 (lv_at hl 2 rfl) ?_
  refine lv_iload hx hb dL_act_50 (lv_at hl 1 rfl) ?_
  refine lv_if_eq (tgt := 60) hx hb dL_act_52 (by decide) (fun c6 => ?_) (fun c6 => absurd c6 (by decide))
  refine lv_bipush (v := nI 9) hx hb dL_act_60 (by decide) ?_
  refine q_ciK (BH := fun _ => True) (va_runS (rm := { frames := 0, cells := 0, slots := 0, locals := 0 }) (As := [.int (v >>> ((nI 5) &&& 31)), .int (nI 9)]) (rest := []) ⟨hx, hb, hml, hown, hts⟩ (L_low l D (v >>> ((nI 5) &&& 31)) (nI 9) (by decide)) (va_cwS 2 hts gL_act_L_low rfl rfl rfl (by decide +kernel) ⟨Nat.le_of_ble_eq_true rfl, Nat.le_of_ble_eq_true rfl⟩) (q_pS (hO.sub (ws' := []) [] rfl) (hK.sub [] rfl)) rfl rfl hl.1 rfl (lv_room (Nat.le_of_ble_eq_true rfl)) dL_act_62 ⟨Nat.le_of_ble_eq_true rfl, Nat.le_of_ble_eq_true rfl⟩) (fun t h => trivial) hS (fun q h => h.elim) (fun x7 H locs e7 _ hk hS => ?_)
  have hC := hC.kp hk
  have hO := k_kp hO hk
  have e7 : x7 = (lw (v >>> ((nI 5) &&& 31)) (nI 9)) := e7
  subst e7
  refine lv_istore (lv' := [(7, .int (lw (v >>> ((nI 5) &&& 31)) (nI 9))), (6, .int (lw (v >>> ((nI 5) &&& 31)) (nI 4))), (5, .int (nI 0)), (4, .int (v >>> ((nI 5) &&& 31))), (3, .int (lw v (nI 32))), (0, .ref (z.o)), (1, .int v), (2, .ref oa)]) hx hb dL_act_65 hl (by decide) rfl (fun ls hl => ?_)
  refine lv_iload_n hx hb dL_act_67 rfl (lv_at hl 4 rfl) ?_
  refine lv_bipush (v := nI 7) hx hb dL_act_68 (by decide) ?_
  refine lv_icmp_ge (tgt := 118) hx hb dL_act_70 (by decide) (fun c8 => ?_) (fun c8 => absurd c8 (fun z => z w0))
  refine lv_iload_n hx hb dL_act_118 rfl (lv_at hl 4 rfl) ?_
  refine lv_bipush (v := nI 14) hx hb dL_act_119 (by decide) ?_
  refine lv_icmp_ge (tgt := 134) hx hb dL_act_121 (by decide) (fun c9 => absurd c9 w1) (fun c9 => ?_)
  refine lv_aload_n hx hb dL_act_124 rfl (lv_at hl 5 rfl) ?_
  refine lv_iconst (v := nI 1) hx hb dL_act_125 (by decide) ?_
  refine lv_iload hx hb dL_act_126 (lv_at hl 1 rfl) ?_
  refine lv_iconst (v := nI 0) hx hb dL_act_128 (by decide) ?_
  refine lv_aload_n hx hb dL_act_129 rfl (lv_at hl 7 rfl) ?_
  refine q_ciK (BH := fun H => CE k z D sn T T' H ∧ ∃ g', OE k x g' ∧ va_P D vwCl (wI oa z.cI g') H) (vx_runSW (rm := { frames := 8, cells := 1, slots := 6, locals := 139 }) (As := [.ref (z.o), .int (nI 1), .int (lw (v >>> ((nI 5) &&& 31)) (nI 4)), .int (nI 0), .ref oa]) (rest := []) ⟨hx, hb, hml, hown, hts⟩ (h3 l hl9 D st z oa hoa hDX g sn hsn) (vx_cwSW (hh := [(0, 76, 79, 30), (0, 76, 83, 32), (0, 76, 87, 34)]) 5 hts gL_act_L_changes rfl rfl rfl (by decide +kernel) ⟨Nat.le_of_ble_eq_true rfl, Nat.le_of_ble_eq_true rfl⟩) (k_pS (C0 := OS z D sn T) hC hO hK hT hS (fun q h => h)) rfl rfl hl.1 rfl (lv_room (Nat.le_of_ble_eq_true rfl)) dL_act_130 ⟨Nat.le_of_ble_eq_true rfl, Nat.le_of_ble_eq_true rfl⟩) (fun _ h => h) hS (fun q h => h) (fun r H locs er hCO hk5 hS => ?_)
  obtain ⟨hC, g1, hg1, hO⟩ := hCO
  have er : nI k = r := Eq.symm er
  subst er
  exact hret _ _ _ _ _ hC hg1 hO hS dL_act_133
set_option maxHeartbeats 4000000 in
set_option maxRecDepth 100000 in
theorem act_02 {B : Nat} {T : Nat → Int32} (hJ : Jv B T) (hB : B < 1000000000) (v : Int32) (hi : (lw (v >>> (nI 22 &&& 31)) (nI 7)) ≤ 0) (w0 : nI 7 ≤ (lw v (nI 32))) (w1 : nI 14 ≤ (lw v (nI 32))) (w2 : ¬ nI 22 ≤ (lw v (nI 32))) : ∃ (k : Nat) (T' : Nat → Int32) (x : Int32), k ≤ 3 ∧ Jv (B + 3200) T' ∧ (∀ (l : Launch) (hl9 : l.stackTraces = false) (D : va_G) (st : Nat → Nat) (z : Ad) (oa : Nat) (hoa : ¬ AX z oa) (hDX : va_D (fun _ => True) (wX z 0 0 0 f00 f00 f00 (fun _ => f00) 0 (0, 0, 0, 0) (fun _ => 0))) (g : Int32) (sn : Nat) (hsn : sn ≤ 6), k_H l yL_act wsL_act { frames := 9, cells := 1, slots := 6, locals := 164 } [.ref z.o, .int v, .ref oa] st D z oa (OS z D sn T) g (nI k) (CE k z D sn T T') (OE k x)) := by
  obtain ⟨k, T', x, h1, h2, h3⟩ := ch_2 hJ hB (lw (v >>> (nI 5 &&& 31)) (nI 4)) (lw ((v >>> (nI 5 &&& 31)) >>> (nI 2 &&& 31)) (nI 3))
  refine ⟨k, T', x, h1, h2, fun l hl9 D st z oa hoa hDX g sn hsn => ?_⟩
  refine k_goA (cc := cL_act) (maxL := 8) (ty := .int) (lv0 := [(0, .ref z.o), (1, .int v), (2, .ref oa)]) (by decide) rfl (Nat.le_of_ble_eq_true rfl) rfl rfl ?_
  intro p e s m args below meth c Q ls hx hb hml hts hown hC hO hK hT hl hret
  have hS : va_S (AXo z oa) s.heap s.heap [] := va_S.rf
  refine lv_iload_n hx hb dL_act_0 rfl (lv_at hl 1 rfl) ?_
  refine lv_bipush (v := nI 32) hx hb dL_act_1 (by decide) ?_
  refine q_ciK (BH := fun _ => True) (va_runS (rm := { frames := 0, cells := 0, slots := 0, locals := 0 }) (As := [.int v, .int (nI 32)]) (rest := []) ⟨hx, hb, hml, hown, hts⟩ (L_low l D v (nI 32) (by decide)) (va_cwS 2 hts gL_act_L_low rfl rfl rfl (by decide +kernel) ⟨Nat.le_of_ble_eq_true rfl, Nat.le_of_ble_eq_true rfl⟩) (q_pS (hO.sub (ws' := []) [] rfl) (hK.sub [] rfl)) rfl rfl hl.1 rfl (lv_room (Nat.le_of_ble_eq_true rfl)) dL_act_3 ⟨Nat.le_of_ble_eq_true rfl, Nat.le_of_ble_eq_true rfl⟩) (fun t h => trivial) hS (fun q h => h.elim) (fun x1 H locs e1 _ hk hS => ?_)
  have hC := hC.kp hk
  have hO := k_kp hO hk
  have e1 : x1 = (lw v (nI 32)) := e1
  subst e1
  refine lv_istore_n (lv' := [(3, .int (lw v (nI 32))), (0, .ref (z.o)), (1, .int v), (2, .ref oa)]) hx hb dL_act_6 rfl hl (by decide) rfl (fun ls hl => ?_)
  refine lv_iload_n hx hb dL_act_7 rfl (lv_at hl 2 rfl) ?_
  refine lv_iconst (v := nI 5) hx hb dL_act_8 (by decide) ?_
  refine lv_ishr hx hb dL_act_9 ?_
  refine lv_istore (lv' := [(4, .int (v >>> ((nI 5) &&& 31))), (3, .int (lw v (nI 32))), (0, .ref (z.o)), (1, .int v), (2, .ref oa)]) hx hb dL_act_10 hl (by decide) rfl (fun ls hl => ?_)
  refine lv_iload_n hx hb dL_act_12 rfl (lv_at hl 3 rfl) ?_
  refine lv_bipush (v := nI 22) hx hb dL_act_13 (by decide) ?_
  refine lv_ishr hx hb dL_act_15 ?_
  refine lv_bipush (v := nI 7) hx hb dL_act_16 (by decide) ?_
  refine q_ciK (BH := fun _ => True) (va_runS (rm := { frames := 0, cells := 0, slots := 0, locals := 0 }) (As := [.int (v >>> ((nI 22) &&& 31)), .int (nI 7)]) (rest := []) ⟨hx, hb, hml, hown, hts⟩ (L_low l D (v >>> ((nI 22) &&& 31)) (nI 7) (by decide)) (va_cwS 2 hts gL_act_L_low rfl rfl rfl (by decide +kernel) ⟨Nat.le_of_ble_eq_true rfl, Nat.le_of_ble_eq_true rfl⟩) (q_pS (hO.sub (ws' := []) [] rfl) (hK.sub [] rfl)) rfl rfl hl.1 rfl (lv_room (Nat.le_of_ble_eq_true rfl)) dL_act_18 ⟨Nat.le_of_ble_eq_true rfl, Nat.le_of_ble_eq_true rfl⟩) (fun t h => trivial) hS (fun q h => h.elim) (fun x2 H locs e2 _ hk hS => ?_)
  have hC := hC.kp hk
  have hO := k_kp hO hk
  have e2 : x2 = (lw (v >>> ((nI 22) &&& 31)) (nI 7)) := e2
  subst e2
  refine lv_if_le (tgt := 28) hx hb dL_act_21 (by decide) (fun c3 => ?_) (fun c3 => absurd c3 (fun z => z hi))
  refine lv_iconst (v := nI 0) hx hb dL_act_28 (by decide) ?_
  refine lv_istore (lv' := [(5, .int (nI 0)), (4, .int (v >>> ((nI 5) &&& 31))), (3, .int (lw v (nI 32))), (0, .ref (z.o)), (1, .int v), (2, .ref oa)]) hx hb dL_act_29 hl (by decide) rfl (fun ls hl => ?_)
  refine lv_iload hx hb dL_act_31 (lv_at hl 1 rfl) ?_
  refine lv_iload hx hb dL_act_33 (lv_at hl 0 rfl) ?_
  refine lv_if_eq (tgt := 42) hx hb dL_act_35 (by decide) (fun c4 => ?_) (fun c4 => absurd c4 (by decide))
  refine lv_iconst (v := nI 4) hx hb dL_act_42 (by decide) ?_
  refine q_ciK (BH := fun _ => True) (va_runS (rm := { frames := 0, cells := 0, slots := 0, locals := 0 }) (As := [.int (v >>> ((nI 5) &&& 31)), .int (nI 4)]) (rest := []) ⟨hx, hb, hml, hown, hts⟩ (L_low l D (v >>> ((nI 5) &&& 31)) (nI 4) (by decide)) (va_cwS 2 hts gL_act_L_low rfl rfl rfl (by decide +kernel) ⟨Nat.le_of_ble_eq_true rfl, Nat.le_of_ble_eq_true rfl⟩) (q_pS (hO.sub (ws' := []) [] rfl) (hK.sub [] rfl)) rfl rfl hl.1 rfl (lv_room (Nat.le_of_ble_eq_true rfl)) dL_act_43 ⟨Nat.le_of_ble_eq_true rfl, Nat.le_of_ble_eq_true rfl⟩) (fun t h => trivial) hS (fun q h => h.elim) (fun x5 H locs e5 _ hk hS => ?_)
  have hC := hC.kp hk
  have hO := k_kp hO hk
  have e5 : x5 = (lw (v >>> ((nI 5) &&& 31)) (nI 4)) := e5
  subst e5
  refine lv_istore (lv' := [(6, .int (lw (v >>> ((nI 5) &&& 31)) (nI 4))), (5, .int (nI 0)), (4, .int (v >>> ((nI 5) &&& 31))), (3, .int (lw v (nI 32))), (0, .ref (z.o)), (1, .int v), (2, .ref oa)]) hx hb dL_act_46 hl (by decide) rfl (fun ls hl => ?_)
  refine lv_iload hx hb dL_act_48 (lv_at hl 2 rfl) ?_
  refine lv_iload hx hb dL_act_50 (lv_at hl 1 rfl) ?_
  refine lv_if_eq (tgt := 60) hx hb dL_act_52 (by decide) (fun c6 => ?_) (fun c6 => absurd c6 (by decide))
  refine lv_bipush (v := nI 9) hx hb dL_act_60 (by decide) ?_
  refine q_ciK (BH := fun _ => True) (va_runS (rm := { frames := 0, cells := 0, slots := 0, locals := 0 }) (As := [.int (v >>> ((nI 5) &&& 31)), .int (nI 9)]) (rest := []) ⟨hx, hb, hml, hown, hts⟩ (L_low l D (v >>> ((nI 5) &&& 31)) (nI 9) (by decide)) (va_cwS 2 hts gL_act_L_low rfl rfl rfl (by decide +kernel) ⟨Nat.le_of_ble_eq_true rfl, Nat.le_of_ble_eq_true rfl⟩) (q_pS (hO.sub (ws' := []) [] rfl) (hK.sub [] rfl)) rfl rfl hl.1 rfl (lv_room (Nat.le_of_ble_eq_true rfl)) dL_act_62 ⟨Nat.le_of_ble_eq_true rfl, Nat.le_of_ble_eq_true rfl⟩) (fun t h => trivial) hS (fun q h => h.elim) (fun x7 H locs e7 _ hk hS => ?_)
  have hC := hC.kp hk
  have hO := k_kp hO hk
  have e7 : x7 = (lw (v >>> ((nI 5) &&& 31)) (nI 9)) := e7
  subst e7
  refine lv_istore (lv' := [(7, .int (lw (v >>> ((nI 5) &&& 31)) (nI 9))), (6, .int (lw (v >>> ((nI 5) &&& 31)) (nI 4))), (5, .int (nI 0)), (4, .int (v >>> ((nI 5) &&& 31))), (3, .int (lw v (nI 32))), (0, .ref (z.o)), (1, .int v), (2, .ref oa)]) hx hb dL_act_65 hl (by decide) rfl (fun ls hl => ?_)
  refine lv_iload_n hx hb dL_act_67 rfl (lv_at hl 4 rfl) ?_
  refine lv_bipush (v := nI 7) hx hb dL_act_68 (by decide) ?_
  refine lv_icmp_ge (tgt := 118) hx hb dL_act_70 (by decide) (fun c8 => ?_) (fun c8 => absurd c8 (fun z => z w0))
  refine lv_iload_n hx hb dL_act_118 rfl (lv_at hl 4 rfl) ?_
  refine lv_bipush (v := nI 14) hx hb dL_act_119 (by decide) ?_
  refine lv_icmp_ge (tgt := 134) hx hb dL_act_121 (by decide) (fun c9 => ?_) (fun c9 => absurd c9 (fun z => z w1))
  refine lv_iload_n hx hb dL_act_134 rfl (lv_at hl 4 rfl) ?_
  refine lv_bipush (v := nI 22) hx hb dL_act_135 (by decide) ?_
  refine lv_icmp_ge (tgt := 166) hx hb dL_act_137 (by decide) (fun c10 => absurd c10 w2) (fun c10 => ?_)
  refine lv_aload_n hx hb dL_act_140 rfl (lv_at hl 5 rfl) ?_
  refine lv_iconst (v := nI 2) hx hb dL_act_141 (by decide) ?_
  refine lv_iload hx hb dL_act_142 (lv_at hl 1 rfl) ?_
  refine lv_iload hx hb dL_act_144 (lv_at hl 3 rfl) ?_
  refine lv_iconst (v := nI 2) hx hb dL_act_146 (by decide) ?_
  refine lv_ishr hx hb dL_act_147 ?_
  refine lv_iload hx hb dL_act_148 (lv_at hl 2 rfl) ?_
  refine lv_if_eq (tgt := 157) hx hb dL_act_150 (by decide) (fun c11 => ?_) (fun c11 => absurd c11 (by decide))
  refine lv_iconst (v := nI 3) hx hb dL_act_157 (by decide) ?_
  refine q_ciK (BH := fun _ => True) (va_runS (rm := { frames := 0, cells := 0, slots := 0, locals := 0 }) (As := [.int ((v >>> ((nI 5) &&& 31)) >>> ((nI 2) &&& 31)), .int (nI 3)]) (rest := [.int (lw (v >>> ((nI 5) &&& 31)) (nI 4)), .int (nI 2), .ref (z.o)]) ⟨hx, hb, hml, hown, hts⟩ (L_low l D ((v >>> ((nI 5) &&& 31)) >>> ((nI 2) &&& 31)) (nI 3) (by decide)) (va_cwS 2 hts gL_act_L_low rfl rfl rfl (by decide +kernel) ⟨Nat.le_of_ble_eq_true rfl, Nat.le_of_ble_eq_true rfl⟩) (q_pS (hO.sub (ws' := []) [] rfl) (hK.sub [] rfl)) rfl rfl hl.1 rfl (lv_room (Nat.le_of_ble_eq_true rfl)) dL_act_158 ⟨Nat.le_of_ble_eq_true rfl, Nat.le_of_ble_eq_true rfl⟩) (fun t h => trivial) hS (fun q h => h.elim) (fun x12 H locs e12 _ hk hS => ?_)
  have hC := hC.kp hk
  have hO := k_kp hO hk
  have e12 : x12 = (lw ((v >>> ((nI 5) &&& 31)) >>> ((nI 2) &&& 31)) (nI 3)) := e12
  subst e12
  refine lv_aload_n hx hb dL_act_161 rfl (lv_at hl 7 rfl) ?_
  refine q_ciK (BH := fun H => CE k z D sn T T' H ∧ ∃ g', OE k x g' ∧ va_P D vwCl (wI oa z.cI g') H) (vx_runSW (rm := { frames := 8, cells := 1, slots := 6, locals := 139 }) (As := [.ref (z.o), .int (nI 2), .int (lw (v >>> ((nI 5) &&& 31)) (nI 4)), .int (lw ((v >>> ((nI 5) &&& 31)) >>> ((nI 2) &&& 31)) (nI 3)), .ref oa]) (rest := []) ⟨hx, hb, hml, hown, hts⟩ (h3 l hl9 D st z oa hoa hDX g sn hsn) (vx_cwSW (hh := [(0, 76, 79, 30), (0, 76, 83, 32), (0, 76, 87, 34)]) 5 hts gL_act_L_changes rfl rfl rfl (by decide +kernel) ⟨Nat.le_of_ble_eq_true rfl, Nat.le_of_ble_eq_true rfl⟩) (k_pS (C0 := OS z D sn T) hC hO hK hT hS (fun q h => h)) rfl rfl hl.1 rfl (lv_room (Nat.le_of_ble_eq_true rfl)) dL_act_162 ⟨Nat.le_of_ble_eq_true rfl, Nat.le_of_ble_eq_true rfl⟩) (fun _ h => h) hS (fun q h => h) (fun r H locs er hCO hk5 hS => ?_)
  obtain ⟨hC, g1, hg1, hO⟩ := hCO
  have er : nI k = r := Eq.symm er
  subst er
  exact hret _ _ _ _ _ hC hg1 hO hS dL_act_165
set_option maxHeartbeats 4000000 in
set_option maxRecDepth 100000 in
theorem act_03 {B : Nat} {T : Nat → Int32} (hJ : Jv B T) (hB : B < 1000000000) (v : Int32) (hi : (lw (v >>> (nI 22 &&& 31)) (nI 7)) ≤ 0) (w0 : nI 7 ≤ (lw v (nI 32))) (w1 : nI 14 ≤ (lw v (nI 32))) (w2 : nI 22 ≤ (lw v (nI 32))) (w3 : ¬ nI 25 ≤ (lw v (nI 32))) : ∃ (k : Nat) (T' : Nat → Int32) (x : Int32), k ≤ 3 ∧ Jv (B + 3200) T' ∧ (∀ (l : Launch) (hl9 : l.stackTraces = false) (D : va_G) (st : Nat → Nat) (z : Ad) (oa : Nat) (hoa : ¬ AX z oa) (hDX : va_D (fun _ => True) (wX z 0 0 0 f00 f00 f00 (fun _ => f00) 0 (0, 0, 0, 0) (fun _ => 0))) (g : Int32) (sn : Nat) (hsn : sn ≤ 6), k_H l yL_act wsL_act { frames := 9, cells := 1, slots := 6, locals := 164 } [.ref z.o, .int v, .ref oa] st D z oa (OS z D sn T) g (nI k) (CE k z D sn T T') (OE k x)) := by
  obtain ⟨k, T', x, h1, h2, h3⟩ := ch_3 hJ hB (lw (v >>> (nI 5 &&& 31)) (nI 4)) (nI 0)
  refine ⟨k, T', x, h1, h2, fun l hl9 D st z oa hoa hDX g sn hsn => ?_⟩
  refine k_goA (cc := cL_act) (maxL := 8) (ty := .int) (lv0 := [(0, .ref z.o), (1, .int v), (2, .ref oa)]) (by decide) rfl (Nat.le_of_ble_eq_true rfl) rfl rfl ?_
  intro p e s m args below meth c Q ls hx hb hml hts hown hC hO hK hT hl hret
  have hS : va_S (AXo z oa) s.heap s.heap [] := va_S.rf
  refine lv_iload_n hx hb dL_act_0 rfl (lv_at hl 1 rfl) ?_
  refine lv_bipush (v := nI 32) hx hb dL_act_1 (by decide) ?_
  refine q_ciK (BH := fun _ => True) (va_runS (rm := { frames := 0, cells := 0, slots := 0, locals := 0 }) (As := [.int v, .int (nI 32)]) (rest := []) ⟨hx, hb, hml, hown, hts⟩ (L_low l D v (nI 32) (by decide)) (va_cwS 2 hts gL_act_L_low rfl rfl rfl (by decide +kernel) ⟨Nat.le_of_ble_eq_true rfl, Nat.le_of_ble_eq_true rfl⟩) (q_pS (hO.sub (ws' := []) [] rfl) (hK.sub [] rfl)) rfl rfl hl.1 rfl (lv_room (Nat.le_of_ble_eq_true rfl)) dL_act_3 ⟨Nat.le_of_ble_eq_true rfl, Nat.le_of_ble_eq_true rfl⟩) (fun t h => trivial) hS (fun q h => h.elim) (fun x1 H locs e1 _ hk hS => ?_)
  have hC := hC.kp hk
  have hO := k_kp hO hk
  have e1 : x1 = (lw v (nI 32)) := e1
  subst e1
  refine lv_istore_n (lv' := [(3, .int (lw v (nI 32))), (0, .ref (z.o)), (1, .int v), (2, .ref oa)]) hx hb dL_act_6 rfl hl (by decide) rfl (fun ls hl => ?_)
  refine lv_iload_n hx hb dL_act_7 rfl (lv_at hl 2 rfl) ?_
  refine lv_iconst (v := nI 5) hx hb dL_act_8 (by decide) ?_
  refine lv_ishr hx hb dL_act_9 ?_
  refine lv_istore (lv' := [(4, .int (v >>> ((nI 5) &&& 31))), (3, .int (lw v (nI 32))), (0, .ref (z.o)), (1, .int v), (2, .ref oa)]) hx hb dL_act_10 hl (by decide) rfl (fun ls hl => ?_)
  refine lv_iload_n hx hb dL_act_12 rfl (lv_at hl 3 rfl) ?_
  refine lv_bipush (v := nI 22) hx hb dL_act_13 (by decide) ?_
  refine lv_ishr hx hb dL_act_15 ?_
  refine lv_bipush (v := nI 7) hx hb dL_act_16 (by decide) ?_
  refine q_ciK (BH := fun _ => True) (va_runS (rm := { frames := 0, cells := 0, slots := 0, locals := 0 }) (As := [.int (v >>> ((nI 22) &&& 31)), .int (nI 7)]) (rest := []) ⟨hx, hb, hml, hown, hts⟩ (L_low l D (v >>> ((nI 22) &&& 31)) (nI 7) (by decide)) (va_cwS 2 hts gL_act_L_low rfl rfl rfl (by decide +kernel) ⟨Nat.le_of_ble_eq_true rfl, Nat.le_of_ble_eq_true rfl⟩) (q_pS (hO.sub (ws' := []) [] rfl) (hK.sub [] rfl)) rfl rfl hl.1 rfl (lv_room (Nat.le_of_ble_eq_true rfl)) dL_act_18 ⟨Nat.le_of_ble_eq_true rfl, Nat.le_of_ble_eq_true rfl⟩) (fun t h => trivial) hS (fun q h => h.elim) (fun x2 H locs e2 _ hk hS => ?_)
  have hC := hC.kp hk
  have hO := k_kp hO hk
  have e2 : x2 = (lw (v >>> ((nI 22) &&& 31)) (nI 7)) := e2
  subst e2
  refine lv_if_le (tgt := 28) hx hb dL_act_21 (by decide) (fun c3 => ?_) (fun c3 => absurd c3 (fun z => z hi))
  refine lv_iconst (v := nI 0) hx hb dL_act_28 (by decide) ?_
  refine lv_istore (lv' := [(5, .int (nI 0)), (4, .int (v >>> ((nI 5) &&& 31))), (3, .int (lw v (nI 32))), (0, .ref (z.o)), (1, .int v), (2, .ref oa)]) hx hb dL_act_29 hl (by decide) rfl (fun ls hl => ?_)
  refine lv_iload hx hb dL_act_31 (lv_at hl 1 rfl) ?_
  refine lv_iload hx hb dL_act_33 (lv_at hl 0 rfl) ?_
  refine lv_if_eq (tgt := 42) hx hb dL_act_35 (by decide) (fun c4 => ?_) (fun c4 => absurd c4 (by decide))
  refine lv_iconst (v := nI 4) hx hb dL_act_42 (by decide) ?_
  refine q_ciK (BH := fun _ => True) (va_runS (rm := { frames := 0, cells := 0, slots := 0, locals := 0 }) (As := [.int (v >>> ((nI 5) &&& 31)), .int (nI 4)]) (rest := []) ⟨hx, hb, hml, hown, hts⟩ (L_low l D (v >>> ((nI 5) &&& 31)) (nI 4) (by decide)) (va_cwS 2 hts gL_act_L_low rfl rfl rfl (by decide +kernel) ⟨Nat.le_of_ble_eq_true rfl, Nat.le_of_ble_eq_true rfl⟩) (q_pS (hO.sub (ws' := []) [] rfl) (hK.sub [] rfl)) rfl rfl hl.1 rfl (lv_room (Nat.le_of_ble_eq_true rfl)) dL_act_43 ⟨Nat.le_of_ble_eq_true rfl, Nat.le_of_ble_eq_true rfl⟩) (fun t h => trivial) hS (fun q h => h.elim) (fun x5 H locs e5 _ hk hS => ?_)
  have hC := hC.kp hk
  have hO := k_kp hO hk
  have e5 : x5 = (lw (v >>> ((nI 5) &&& 31)) (nI 4)) := e5
  subst e5
  refine lv_istore (lv' := [(6, .int (lw (v >>> ((nI 5) &&& 31)) (nI 4))), (5, .int (nI 0)), (4, .int (v >>> ((nI 5) &&& 31))), (3, .int (lw v (nI 32))), (0, .ref (z.o)), (1, .int v), (2, .ref oa)]) hx hb dL_act_46 hl (by decide) rfl (fun ls hl => ?_)
  refine lv_iload hx hb dL_act_48 (lv_at hl 2 rfl) ?_
  refine lv_iload hx hb dL_act_50 (lv_at hl 1 rfl) ?_
  refine lv_if_eq (tgt := 60) hx hb dL_act_52 (by decide) (fun c6 => ?_) (fun c6 => absurd c6 (by decide))
  refine lv_bipush (v := nI 9) hx hb dL_act_60 (by decide) ?_
  refine q_ciK (BH := fun _ => True) (va_runS (rm := { frames := 0, cells := 0, slots := 0, locals := 0 }) (As := [.int (v >>> ((nI 5) &&& 31)), .int (nI 9)]) (rest := []) ⟨hx, hb, hml, hown, hts⟩ (L_low l D (v >>> ((nI 5) &&& 31)) (nI 9) (by decide)) (va_cwS 2 hts gL_act_L_low rfl rfl rfl (by decide +kernel) ⟨Nat.le_of_ble_eq_true rfl, Nat.le_of_ble_eq_true rfl⟩) (q_pS (hO.sub (ws' := []) [] rfl) (hK.sub [] rfl)) rfl rfl hl.1 rfl (lv_room (Nat.le_of_ble_eq_true rfl)) dL_act_62 ⟨Nat.le_of_ble_eq_true rfl, Nat.le_of_ble_eq_true rfl⟩) (fun t h => trivial) hS (fun q h => h.elim) (fun x7 H locs e7 _ hk hS => ?_)
  have hC := hC.kp hk
  have hO := k_kp hO hk
  have e7 : x7 = (lw (v >>> ((nI 5) &&& 31)) (nI 9)) := e7
  subst e7
  refine lv_istore (lv' := [(7, .int (lw (v >>> ((nI 5) &&& 31)) (nI 9))), (6, .int (lw (v >>> ((nI 5) &&& 31)) (nI 4))), (5, .int (nI 0)), (4, .int (v >>> ((nI 5) &&& 31))), (3, .int (lw v (nI 32))), (0, .ref (z.o)), (1, .int v), (2, .ref oa)]) hx hb dL_act_65 hl (by decide) rfl (fun ls hl => ?_)
  refine lv_iload_n hx hb dL_act_67 rfl (lv_at hl 4 rfl) ?_
  refine lv_bipush (v := nI 7) hx hb dL_act_68 (by decide) ?_
  refine lv_icmp_ge (tgt := 118) hx hb dL_act_70 (by decide) (fun c8 => ?_) (fun c8 => absurd c8 (fun z => z w0))
  refine lv_iload_n hx hb dL_act_118 rfl (lv_at hl 4 rfl) ?_
  refine lv_bipush (v := nI 14) hx hb dL_act_119 (by decide) ?_
  refine lv_icmp_ge (tgt := 134) hx hb dL_act_121 (by decide) (fun c9 => ?_) (fun c9 => absurd c9 (fun z => z w1))
  refine lv_iload_n hx hb dL_act_134 rfl (lv_at hl 4 rfl) ?_
  refine lv_bipush (v := nI 22) hx hb dL_act_135 (by decide) ?_
  refine lv_icmp_ge (tgt := 166) hx hb dL_act_137 (by decide) (fun c10 => ?_) (fun c10 => absurd c10 (fun z => z w2))
  refine lv_iload_n hx hb dL_act_166 rfl (lv_at hl 4 rfl) ?_
  refine lv_bipush (v := nI 25) hx hb dL_act_167 (by decide) ?_
  refine lv_icmp_ge (tgt := 182) hx hb dL_act_169 (by decide) (fun c11 => absurd c11 w3) (fun c11 => ?_)
  refine lv_aload_n hx hb dL_act_172 rfl (lv_at hl 5 rfl) ?_
  refine lv_iconst (v := nI 3) hx hb dL_act_173 (by decide) ?_
  refine lv_iload hx hb dL_act_174 (lv_at hl 1 rfl) ?_
  refine lv_iconst (v := nI 0) hx hb dL_act_176 (by decide) ?_
  refine lv_aload_n hx hb dL_act_177 rfl (lv_at hl 7 rfl) ?_
  refine q_ciK (BH := fun H => CE k z D sn T T' H ∧ ∃ g', OE k x g' ∧ va_P D vwCl (wI oa z.cI g') H) (vx_runSW (rm := { frames := 8, cells := 1, slots := 6, locals := 139 }) (As := [.ref (z.o), .int (nI 3), .int (lw (v >>> ((nI 5) &&& 31)) (nI 4)), .int (nI 0), .ref oa]) (rest := []) ⟨hx, hb, hml, hown, hts⟩ (h3 l hl9 D st z oa hoa hDX g sn hsn) (vx_cwSW (hh := [(0, 76, 79, 30), (0, 76, 83, 32), (0, 76, 87, 34)]) 5 hts gL_act_L_changes rfl rfl rfl (by decide +kernel) ⟨Nat.le_of_ble_eq_true rfl, Nat.le_of_ble_eq_true rfl⟩) (k_pS (C0 := OS z D sn T) hC hO hK hT hS (fun q h => h)) rfl rfl hl.1 rfl (lv_room (Nat.le_of_ble_eq_true rfl)) dL_act_178 ⟨Nat.le_of_ble_eq_true rfl, Nat.le_of_ble_eq_true rfl⟩) (fun _ h => h) hS (fun q h => h) (fun r H locs er hCO hk5 hS => ?_)
  obtain ⟨hC, g1, hg1, hO⟩ := hCO
  have er : nI k = r := Eq.symm er
  subst er
  exact hret _ _ _ _ _ hC hg1 hO hS dL_act_181
set_option maxHeartbeats 4000000 in
set_option maxRecDepth 100000 in
theorem act_04 {B : Nat} {T : Nat → Int32} (hJ : Jv B T) (hB : B < 1000000000) (v : Int32) (hi : (lw (v >>> (nI 22 &&& 31)) (nI 7)) ≤ 0) (w0 : nI 7 ≤ (lw v (nI 32))) (w1 : nI 14 ≤ (lw v (nI 32))) (w2 : nI 22 ≤ (lw v (nI 32))) (w3 : nI 25 ≤ (lw v (nI 32))) (w4 : ¬ nI 29 ≤ (lw v (nI 32))) : ∃ (k : Nat) (T' : Nat → Int32) (x : Int32), k ≤ 3 ∧ Jv (B + 3200) T' ∧ (∀ (l : Launch) (hl9 : l.stackTraces = false) (D : va_G) (st : Nat → Nat) (z : Ad) (oa : Nat) (hoa : ¬ AX z oa) (hDX : va_D (fun _ => True) (wX z 0 0 0 f00 f00 f00 (fun _ => f00) 0 (0, 0, 0, 0) (fun _ => 0))) (g : Int32) (sn : Nat) (hsn : sn ≤ 6), k_H l yL_act wsL_act { frames := 9, cells := 1, slots := 6, locals := 164 } [.ref z.o, .int v, .ref oa] st D z oa (OS z D sn T) g (nI k) (CE k z D sn T T') (OE k x)) := by
  obtain ⟨k, T', x, h1, h2, h3⟩ := ch_4 hJ hB (lw (v >>> (nI 5 &&& 31)) (nI 9)) (nI 0)
  refine ⟨k, T', x, h1, h2, fun l hl9 D st z oa hoa hDX g sn hsn => ?_⟩
  refine k_goA (cc := cL_act) (maxL := 8) (ty := .int) (lv0 := [(0, .ref z.o), (1, .int v), (2, .ref oa)]) (by decide) rfl (Nat.le_of_ble_eq_true rfl) rfl rfl ?_
  intro p e s m args below meth c Q ls hx hb hml hts hown hC hO hK hT hl hret
  have hS : va_S (AXo z oa) s.heap s.heap [] := va_S.rf
  refine lv_iload_n hx hb dL_act_0 rfl (lv_at hl 1 rfl) ?_
  refine lv_bipush (v := nI 32) hx hb dL_act_1 (by decide) ?_
  refine q_ciK (BH := fun _ => True) (va_runS (rm := { frames := 0, cells := 0, slots := 0, locals := 0 }) (As := [.int v, .int (nI 32)]) (rest := []) ⟨hx, hb, hml, hown, hts⟩ (L_low l D v (nI 32) (by decide)) (va_cwS 2 hts gL_act_L_low rfl rfl rfl (by decide +kernel) ⟨Nat.le_of_ble_eq_true rfl, Nat.le_of_ble_eq_true rfl⟩) (q_pS (hO.sub (ws' := []) [] rfl) (hK.sub [] rfl)) rfl rfl hl.1 rfl (lv_room (Nat.le_of_ble_eq_true rfl)) dL_act_3 ⟨Nat.le_of_ble_eq_true rfl, Nat.le_of_ble_eq_true rfl⟩) (fun t h => trivial) hS (fun q h => h.elim) (fun x1 H locs e1 _ hk hS => ?_)
  have hC := hC.kp hk
  have hO := k_kp hO hk
  have e1 : x1 = (lw v (nI 32)) := e1
  subst e1
  refine lv_istore_n (lv' := [(3, .int (lw v (nI 32))), (0, .ref (z.o)), (1, .int v), (2, .ref oa)]) hx hb dL_act_6 rfl hl (by decide) rfl (fun ls hl => ?_)
  refine lv_iload_n hx hb dL_act_7 rfl (lv_at hl 2 rfl) ?_
  refine lv_iconst (v := nI 5) hx hb dL_act_8 (by decide) ?_
  refine lv_ishr hx hb dL_act_9 ?_
  refine lv_istore (lv' := [(4, .int (v >>> ((nI 5) &&& 31))), (3, .int (lw v (nI 32))), (0, .ref (z.o)), (1, .int v), (2, .ref oa)]) hx hb dL_act_10 hl (by decide) rfl (fun ls hl => ?_)
  refine lv_iload_n hx hb dL_act_12 rfl (lv_at hl 3 rfl) ?_
  refine lv_bipush (v := nI 22) hx hb dL_act_13 (by decide) ?_
  refine lv_ishr hx hb dL_act_15 ?_
  refine lv_bipush (v := nI 7) hx hb dL_act_16 (by decide) ?_
  refine q_ciK (BH := fun _ => True) (va_runS (rm := { frames := 0, cells := 0, slots := 0, locals := 0 }) (As := [.int (v >>> ((nI 22) &&& 31)), .int (nI 7)]) (rest := []) ⟨hx, hb, hml, hown, hts⟩ (L_low l D (v >>> ((nI 22) &&& 31)) (nI 7) (by decide)) (va_cwS 2 hts gL_act_L_low rfl rfl rfl (by decide +kernel) ⟨Nat.le_of_ble_eq_true rfl, Nat.le_of_ble_eq_true rfl⟩) (q_pS (hO.sub (ws' := []) [] rfl) (hK.sub [] rfl)) rfl rfl hl.1 rfl (lv_room (Nat.le_of_ble_eq_true rfl)) dL_act_18 ⟨Nat.le_of_ble_eq_true rfl, Nat.le_of_ble_eq_true rfl⟩) (fun t h => trivial) hS (fun q h => h.elim) (fun x2 H locs e2 _ hk hS => ?_)
  have hC := hC.kp hk
  have hO := k_kp hO hk
  have e2 : x2 = (lw (v >>> ((nI 22) &&& 31)) (nI 7)) := e2
  subst e2
  refine lv_if_le (tgt := 28) hx hb dL_act_21 (by decide) (fun c3 => ?_) (fun c3 => absurd c3 (fun z => z hi))
  refine lv_iconst (v := nI 0) hx hb dL_act_28 (by decide) ?_
  refine lv_istore (lv' := [(5, .int (nI 0)), (4, .int (v >>> ((nI 5) &&& 31))), (3, .int (lw v (nI 32))), (0, .ref (z.o)), (1, .int v), (2, .ref oa)]) hx hb dL_act_29 hl (by decide) rfl (fun ls hl => ?_)
  refine lv_iload hx hb dL_act_31 (lv_at hl 1 rfl) ?_
  refine lv_iload hx hb dL_act_33 (lv_at hl 0 rfl) ?_
  refine lv_if_eq (tgt := 42) hx hb dL_act_35 (by decide) (fun c4 => ?_) (fun c4 => absurd c4 (by decide))
  refine lv_iconst (v := nI 4) hx hb dL_act_42 (by decide) ?_
  refine q_ciK (BH := fun _ => True) (va_runS (rm := { frames := 0, cells := 0, slots := 0, locals := 0 }) (As := [.int (v >>> ((nI 5) &&& 31)), .int (nI 4)]) (rest := []) ⟨hx, hb, hml, hown, hts⟩ (L_low l D (v >>> ((nI 5) &&& 31)) (nI 4) (by decide)) (va_cwS 2 hts gL_act_L_low rfl rfl rfl (by decide +kernel) ⟨Nat.le_of_ble_eq_true rfl, Nat.le_of_ble_eq_true rfl⟩) (q_pS (hO.sub (ws' := []) [] rfl) (hK.sub [] rfl)) rfl rfl hl.1 rfl (lv_room (Nat.le_of_ble_eq_true rfl)) dL_act_43 ⟨Nat.le_of_ble_eq_true rfl, Nat.le_of_ble_eq_true rfl⟩) (fun t h => trivial) hS (fun q h => h.elim) (fun x5 H locs e5 _ hk hS => ?_)
  have hC := hC.kp hk
  have hO := k_kp hO hk
  have e5 : x5 = (lw (v >>> ((nI 5) &&& 31)) (nI 4)) := e5
  subst e5
  refine lv_istore (lv' := [(6, .int (lw (v >>> ((nI 5) &&& 31)) (nI 4))), (5, .int (nI 0)), (4, .int (v >>> ((nI 5) &&& 31))), (3, .int (lw v (nI 32))), (0, .ref (z.o)), (1, .int v), (2, .ref oa)]) hx hb dL_act_46 hl (by decide) rfl (fun ls hl => ?_)
  refine lv_iload hx hb dL_act_48 (lv_at hl 2 rfl) ?_
  refine lv_iload hx hb dL_act_50 (lv_at hl 1 rfl) ?_
  refine lv_if_eq (tgt := 60) hx hb dL_act_52 (by decide) (fun c6 => ?_) (fun c6 => absurd c6 (by decide))
  refine lv_bipush (v := nI 9) hx hb dL_act_60 (by decide) ?_
  refine q_ciK (BH := fun _ => True) (va_runS (rm := { frames := 0, cells := 0, slots := 0, locals := 0 }) (As := [.int (v >>> ((nI 5) &&& 31)), .int (nI 9)]) (rest := []) ⟨hx, hb, hml, hown, hts⟩ (L_low l D (v >>> ((nI 5) &&& 31)) (nI 9) (by decide)) (va_cwS 2 hts gL_act_L_low rfl rfl rfl (by decide +kernel) ⟨Nat.le_of_ble_eq_true rfl, Nat.le_of_ble_eq_true rfl⟩) (q_pS (hO.sub (ws' := []) [] rfl) (hK.sub [] rfl)) rfl rfl hl.1 rfl (lv_room (Nat.le_of_ble_eq_true rfl)) dL_act_62 ⟨Nat.le_of_ble_eq_true rfl, Nat.le_of_ble_eq_true rfl⟩) (fun t h => trivial) hS (fun q h => h.elim) (fun x7 H locs e7 _ hk hS => ?_)
  have hC := hC.kp hk
  have hO := k_kp hO hk
  have e7 : x7 = (lw (v >>> ((nI 5) &&& 31)) (nI 9)) := e7
  subst e7
  refine lv_istore (lv' := [(7, .int (lw (v >>> ((nI 5) &&& 31)) (nI 9))), (6, .int (lw (v >>> ((nI 5) &&& 31)) (nI 4))), (5, .int (nI 0)), (4, .int (v >>> ((nI 5) &&& 31))), (3, .int (lw v (nI 32))), (0, .ref (z.o)), (1, .int v), (2, .ref oa)]) hx hb dL_act_65 hl (by decide) rfl (fun ls hl => ?_)
  refine lv_iload_n hx hb dL_act_67 rfl (lv_at hl 4 rfl) ?_
  refine lv_bipush (v := nI 7) hx hb dL_act_68 (by decide) ?_
  refine lv_icmp_ge (tgt := 118) hx hb dL_act_70 (by decide) (fun c8 => ?_) (fun c8 => absurd c8 (fun z => z w0))
  refine lv_iload_n hx hb dL_act_118 rfl (lv_at hl 4 rfl) ?_
  refine lv_bipush (v := nI 14) hx hb dL_act_119 (by decide) ?_
  refine lv_icmp_ge (tgt := 134) hx hb dL_act_121 (by decide) (fun c9 => ?_) (fun c9 => absurd c9 (fun z => z w1))
  refine lv_iload_n hx hb dL_act_134 rfl (lv_at hl 4 rfl) ?_
  refine lv_bipush (v := nI 22) hx hb dL_act_135 (by decide) ?_
  refine lv_icmp_ge (tgt := 166) hx hb dL_act_137 (by decide) (fun c10 => ?_) (fun c10 => absurd c10 (fun z => z w2))
  refine lv_iload_n hx hb dL_act_166 rfl (lv_at hl 4 rfl) ?_
  refine lv_bipush (v := nI 25) hx hb dL_act_167 (by decide) ?_
  refine lv_icmp_ge (tgt := 182) hx hb dL_act_169 (by decide) (fun c11 => ?_) (fun c11 => absurd c11 (fun z => z w3))
  refine lv_iload_n hx hb dL_act_182 rfl (lv_at hl 4 rfl) ?_
  refine lv_bipush (v := nI 29) hx hb dL_act_183 (by decide) ?_
  refine lv_icmp_ge (tgt := 198) hx hb dL_act_185 (by decide) (fun c12 => absurd c12 w4) (fun c12 => ?_)
  refine lv_aload_n hx hb dL_act_188 rfl (lv_at hl 5 rfl) ?_
  refine lv_iconst (v := nI 4) hx hb dL_act_189 (by decide) ?_
  refine lv_iload hx hb dL_act_190 (lv_at hl 0 rfl) ?_
  refine lv_iconst (v := nI 0) hx hb dL_act_192 (by decide) ?_
  refine lv_aload_n hx hb dL_act_193 rfl (lv_at hl 7 rfl) ?_
  refine q_ciK (BH := fun H => CE k z D sn T T' H ∧ ∃ g', OE k x g' ∧ va_P D vwCl (wI oa z.cI g') H) (vx_runSW (rm := { frames := 8, cells := 1, slots := 6, locals := 139 }) (As := [.ref (z.o), .int (nI 4), .int (lw (v >>> ((nI 5) &&& 31)) (nI 9)), .int (nI 0), .ref oa]) (rest := []) ⟨hx, hb, hml, hown, hts⟩ (h3 l hl9 D st z oa hoa hDX g sn hsn) (vx_cwSW (hh := [(0, 76, 79, 30), (0, 76, 83, 32), (0, 76, 87, 34)]) 5 hts gL_act_L_changes rfl rfl rfl (by decide +kernel) ⟨Nat.le_of_ble_eq_true rfl, Nat.le_of_ble_eq_true rfl⟩) (k_pS (C0 := OS z D sn T) hC hO hK hT hS (fun q h => h)) rfl rfl hl.1 rfl (lv_room (Nat.le_of_ble_eq_true rfl)) dL_act_194 ⟨Nat.le_of_ble_eq_true rfl, Nat.le_of_ble_eq_true rfl⟩) (fun _ h => h) hS (fun q h => h) (fun r H locs er hCO hk5 hS => ?_)
  obtain ⟨hC, g1, hg1, hO⟩ := hCO
  have er : nI k = r := Eq.symm er
  subst er
  exact hret _ _ _ _ _ hC hg1 hO hS dL_act_197
set_option maxHeartbeats 4000000 in
set_option maxRecDepth 100000 in
theorem act_05 {B : Nat} {T : Nat → Int32} (hJ : Jv B T) (hB : B < 1000000000) (v : Int32) (hi : (lw (v >>> (nI 22 &&& 31)) (nI 7)) ≤ 0) (w0 : nI 7 ≤ (lw v (nI 32))) (w1 : nI 14 ≤ (lw v (nI 32))) (w2 : nI 22 ≤ (lw v (nI 32))) (w3 : nI 25 ≤ (lw v (nI 32))) (w4 : nI 29 ≤ (lw v (nI 32))) (w5 : (lw v (nI 32)) = nI 29) : ∃ (k : Nat) (T' : Nat → Int32) (x : Int32), k ≤ 3 ∧ Jv (B + 3200) T' ∧ (∀ (l : Launch) (hl9 : l.stackTraces = false) (D : va_G) (st : Nat → Nat) (z : Ad) (oa : Nat) (hoa : ¬ AX z oa) (hDX : va_D (fun _ => True) (wX z 0 0 0 f00 f00 f00 (fun _ => f00) 0 (0, 0, 0, 0) (fun _ => 0))) (g : Int32) (sn : Nat) (hsn : sn ≤ 6), k_H l yL_act wsL_act { frames := 9, cells := 1, slots := 6, locals := 164 } [.ref z.o, .int v, .ref oa] st D z oa (OS z D sn T) g (nI k) (CE k z D sn T T') (OE k x)) := by
  obtain ⟨k, T', x, h1, h2, h3⟩ := ch_5 hJ hB (lw (v >>> (nI 5 &&& 31)) (nI 9)) (nI 5 + lw ((v >>> (nI 5 &&& 31)) >>> (nI 3 &&& 31)) (nI 40))
  refine ⟨k, T', x, h1, h2, fun l hl9 D st z oa hoa hDX g sn hsn => ?_⟩
  refine k_goA (cc := cL_act) (maxL := 8) (ty := .int) (lv0 := [(0, .ref z.o), (1, .int v), (2, .ref oa)]) (by decide) rfl (Nat.le_of_ble_eq_true rfl) rfl rfl ?_
  intro p e s m args below meth c Q ls hx hb hml hts hown hC hO hK hT hl hret
  have hS : va_S (AXo z oa) s.heap s.heap [] := va_S.rf
  refine lv_iload_n hx hb dL_act_0 rfl (lv_at hl 1 rfl) ?_
  refine lv_bipush (v := nI 32) hx hb dL_act_1 (by decide) ?_
  refine q_ciK (BH := fun _ => True) (va_runS (rm := { frames := 0, cells := 0, slots := 0, locals := 0 }) (As := [.int v, .int (nI 32)]) (rest := []) ⟨hx, hb, hml, hown, hts⟩ (L_low l D v (nI 32) (by decide)) (va_cwS 2 hts gL_act_L_low rfl rfl rfl (by decide +kernel) ⟨Nat.le_of_ble_eq_true rfl, Nat.le_of_ble_eq_true rfl⟩) (q_pS (hO.sub (ws' := []) [] rfl) (hK.sub [] rfl)) rfl rfl hl.1 rfl (lv_room (Nat.le_of_ble_eq_true rfl)) dL_act_3 ⟨Nat.le_of_ble_eq_true rfl, Nat.le_of_ble_eq_true rfl⟩) (fun t h => trivial) hS (fun q h => h.elim) (fun x1 H locs e1 _ hk hS => ?_)
  have hC := hC.kp hk
  have hO := k_kp hO hk
  have e1 : x1 = (lw v (nI 32)) := e1
  subst e1
  refine lv_istore_n (lv' := [(3, .int (lw v (nI 32))), (0, .ref (z.o)), (1, .int v), (2, .ref oa)]) hx hb dL_act_6 rfl hl (by decide) rfl (fun ls hl => ?_)
  refine lv_iload_n hx hb dL_act_7 rfl (lv_at hl 2 rfl) ?_
  refine lv_iconst (v := nI 5) hx hb dL_act_8 (by decide) ?_
  refine lv_ishr hx hb dL_act_9 ?_
  refine lv_istore (lv' := [(4, .int (v >>> ((nI 5) &&& 31))), (3, .int (lw v (nI 32))), (0, .ref (z.o)), (1, .int v), (2, .ref oa)]) hx hb dL_act_10 hl (by decide) rfl (fun ls hl => ?_)
  refine lv_iload_n hx hb dL_act_12 rfl (lv_at hl 3 rfl) ?_
  refine lv_bipush (v := nI 22) hx hb dL_act_13 (by decide) ?_
  refine lv_ishr hx hb dL_act_15 ?_
  refine lv_bipush (v := nI 7) hx hb dL_act_16 (by decide) ?_
  refine q_ciK (BH := fun _ => True) (va_runS (rm := { frames := 0, cells := 0, slots := 0, locals := 0 }) (As := [.int (v >>> ((nI 22) &&& 31)), .int (nI 7)]) (rest := []) ⟨hx, hb, hml, hown, hts⟩ (L_low l D (v >>> ((nI 22) &&& 31)) (nI 7) (by decide)) (va_cwS 2 hts gL_act_L_low rfl rfl rfl (by decide +kernel) ⟨Nat.le_of_ble_eq_true rfl, Nat.le_of_ble_eq_true rfl⟩) (q_pS (hO.sub (ws' := []) [] rfl) (hK.sub [] rfl)) rfl rfl hl.1 rfl (lv_room (Nat.le_of_ble_eq_true rfl)) dL_act_18 ⟨Nat.le_of_ble_eq_true rfl, Nat.le_of_ble_eq_true rfl⟩) (fun t h => trivial) hS (fun q h => h.elim) (fun x2 H locs e2 _ hk hS => ?_)
  have hC := hC.kp hk
  have hO := k_kp hO hk
  have e2 : x2 = (lw (v >>> ((nI 22) &&& 31)) (nI 7)) := e2
  subst e2
  refine lv_if_le (tgt := 28) hx hb dL_act_21 (by decide) (fun c3 => ?_) (fun c3 => absurd c3 (fun z => z hi))
  refine lv_iconst (v := nI 0) hx hb dL_act_28 (by decide) ?_
  refine lv_istore (lv' := [(5, .int (nI 0)), (4, .int (v >>> ((nI 5) &&& 31))), (3, .int (lw v (nI 32))), (0, .ref (z.o)), (1, .int v), (2, .ref oa)]) hx hb dL_act_29 hl (by decide) rfl (fun ls hl => ?_)
  refine lv_iload hx hb dL_act_31 (lv_at hl 1 rfl) ?_
  refine lv_iload hx hb dL_act_33 (lv_at hl 0 rfl) ?_
  refine lv_if_eq (tgt := 42) hx hb dL_act_35 (by decide) (fun c4 => ?_) (fun c4 => absurd c4 (by decide))
  refine lv_iconst (v := nI 4) hx hb dL_act_42 (by decide) ?_
  refine q_ciK (BH := fun _ => True) (va_runS (rm := { frames := 0, cells := 0, slots := 0, locals := 0 }) (As := [.int (v >>> ((nI 5) &&& 31)), .int (nI 4)]) (rest := []) ⟨hx, hb, hml, hown, hts⟩ (L_low l D (v >>> ((nI 5) &&& 31)) (nI 4) (by decide)) (va_cwS 2 hts gL_act_L_low rfl rfl rfl (by decide +kernel) ⟨Nat.le_of_ble_eq_true rfl, Nat.le_of_ble_eq_true rfl⟩) (q_pS (hO.sub (ws' := []) [] rfl) (hK.sub [] rfl)) rfl rfl hl.1 rfl (lv_room (Nat.le_of_ble_eq_true rfl)) dL_act_43 ⟨Nat.le_of_ble_eq_true rfl, Nat.le_of_ble_eq_true rfl⟩) (fun t h => trivial) hS (fun q h => h.elim) (fun x5 H locs e5 _ hk hS => ?_)
  have hC := hC.kp hk
  have hO := k_kp hO hk
  have e5 : x5 = (lw (v >>> ((nI 5) &&& 31)) (nI 4)) := e5
  subst e5
  refine lv_istore (lv' := [(6, .int (lw (v >>> ((nI 5) &&& 31)) (nI 4))), (5, .int (nI 0)), (4, .int (v >>> ((nI 5) &&& 31))), (3, .int (lw v (nI 32))), (0, .ref (z.o)), (1, .int v), (2, .ref oa)]) hx hb dL_act_46 hl (by decide) rfl (fun ls hl => ?_)
  refine lv_iload hx hb dL_act_48 (lv_at hl 2 rfl) ?_
  refine lv_iload hx hb dL_act_50 (lv_at hl 1 rfl) ?_
  refine lv_if_eq (tgt := 60) hx hb dL_act_52 (by decide) (fun c6 => ?_) (fun c6 => absurd c6 (by decide))
  refine lv_bipush (v := nI 9) hx hb dL_act_60 (by decide) ?_
  refine q_ciK (BH := fun _ => True) (va_runS (rm := { frames := 0, cells := 0, slots := 0, locals := 0 }) (As := [.int (v >>> ((nI 5) &&& 31)), .int (nI 9)]) (rest := []) ⟨hx, hb, hml, hown, hts⟩ (L_low l D (v >>> ((nI 5) &&& 31)) (nI 9) (by decide)) (va_cwS 2 hts gL_act_L_low rfl rfl rfl (by decide +kernel) ⟨Nat.le_of_ble_eq_true rfl, Nat.le_of_ble_eq_true rfl⟩) (q_pS (hO.sub (ws' := []) [] rfl) (hK.sub [] rfl)) rfl rfl hl.1 rfl (lv_room (Nat.le_of_ble_eq_true rfl)) dL_act_62 ⟨Nat.le_of_ble_eq_true rfl, Nat.le_of_ble_eq_true rfl⟩) (fun t h => trivial) hS (fun q h => h.elim) (fun x7 H locs e7 _ hk hS => ?_)
  have hC := hC.kp hk
  have hO := k_kp hO hk
  have e7 : x7 = (lw (v >>> ((nI 5) &&& 31)) (nI 9)) := e7
  subst e7
  refine lv_istore (lv' := [(7, .int (lw (v >>> ((nI 5) &&& 31)) (nI 9))), (6, .int (lw (v >>> ((nI 5) &&& 31)) (nI 4))), (5, .int (nI 0)), (4, .int (v >>> ((nI 5) &&& 31))), (3, .int (lw v (nI 32))), (0, .ref (z.o)), (1, .int v), (2, .ref oa)]) hx hb dL_act_65 hl (by decide) rfl (fun ls hl => ?_)
  refine lv_iload_n hx hb dL_act_67 rfl (lv_at hl 4 rfl) ?_
  refine lv_bipush (v := nI 7) hx hb dL_act_68 (by decide) ?_
  refine lv_icmp_ge (tgt := 118) hx hb dL_act_70 (by decide) (fun c8 => ?_) (fun c8 => absurd c8 (fun z => z w0))
  refine lv_iload_n hx hb dL_act_118 rfl (lv_at hl 4 rfl) ?_
  refine lv_bipush (v := nI 14) hx hb dL_act_119 (by decide) ?_
  refine lv_icmp_ge (tgt := 134) hx hb dL_act_121 (by decide) (fun c9 => ?_) (fun c9 => absurd c9 (fun z => z w1))
  refine lv_iload_n hx hb dL_act_134 rfl (lv_at hl 4 rfl) ?_
  refine lv_bipush (v := nI 22) hx hb dL_act_135 (by decide) ?_
  refine lv_icmp_ge (tgt := 166) hx hb dL_act_137 (by decide) (fun c10 => ?_) (fun c10 => absurd c10 (fun z => z w2))
  refine lv_iload_n hx hb dL_act_166 rfl (lv_at hl 4 rfl) ?_
  refine lv_bipush (v := nI 25) hx hb dL_act_167 (by decide) ?_
  refine lv_icmp_ge (tgt := 182) hx hb dL_act_169 (by decide) (fun c11 => ?_) (fun c11 => absurd c11 (fun z => z w3))
  refine lv_iload_n hx hb dL_act_182 rfl (lv_at hl 4 rfl) ?_
  refine lv_bipush (v := nI 29) hx hb dL_act_183 (by decide) ?_
  refine lv_icmp_ge (tgt := 198) hx hb dL_act_185 (by decide) (fun c12 => ?_) (fun c12 => absurd c12 (fun z => z w4))
  refine lv_iload_n hx hb dL_act_198 rfl (lv_at hl 4 rfl) ?_
  refine lv_bipush (v := nI 29) hx hb dL_act_199 (by decide) ?_
  refine lv_icmp_ne (tgt := 246) hx hb dL_act_201 (by decide) (fun c13 => absurd c13 (fun z => z w5)) (fun c13 => ?_)
  refine lv_aload_n hx hb dL_act_204 rfl (lv_at hl 5 rfl) ?_
  refine lv_iconst (v := nI 5) hx hb dL_act_205 (by decide) ?_
  refine lv_iload hx hb dL_act_206 (lv_at hl 0 rfl) ?_
  refine lv_iload hx hb dL_act_208 (lv_at hl 2 rfl) ?_
  refine lv_if_eq (tgt := 218) hx hb dL_act_210 (by decide) (fun c14 => ?_) (fun c14 => absurd c14 (by decide))
  refine lv_iconst (v := nI 5) hx hb dL_act_218 (by decide) ?_
  refine lv_iload hx hb dL_act_219 (lv_at hl 3 rfl) ?_
  refine lv_iconst (v := nI 3) hx hb dL_act_221 (by decide) ?_
  refine lv_ishr hx hb dL_act_222 ?_
  refine lv_iload hx hb dL_act_223 (lv_at hl 2 rfl) ?_
  refine lv_if_eq (tgt := 233) hx hb dL_act_225 (by decide) (fun c15 => ?_) (fun c15 => absurd c15 (by decide))
  refine lv_bipush (v := nI 40) hx hb dL_act_233 (by decide) ?_
  refine q_ciK (BH := fun _ => True) (va_runS (rm := { frames := 0, cells := 0, slots := 0, locals := 0 }) (As := [.int ((v >>> ((nI 5) &&& 31)) >>> ((nI 3) &&& 31)), .int (nI 40)]) (rest := [.int (nI 5), .int (lw (v >>> ((nI 5) &&& 31)) (nI 9)), .int (nI 5), .ref (z.o)]) ⟨hx, hb, hml, hown, hts⟩ (L_low l D ((v >>> ((nI 5) &&& 31)) >>> ((nI 3) &&& 31)) (nI 40) (by decide)) (va_cwS 2 hts gL_act_L_low rfl rfl rfl (by decide +kernel) ⟨Nat.le_of_ble_eq_true rfl, Nat.le_of_ble_eq_true rfl⟩) (q_pS (hO.sub (ws' := []) [] rfl) (hK.sub [] rfl)) rfl rfl hl.1 rfl (lv_room (Nat.le_of_ble_eq_true rfl)) dL_act_235 ⟨Nat.le_of_ble_eq_true rfl, Nat.le_of_ble_eq_true rfl⟩) (fun t h => trivial) hS (fun q h => h.elim) (fun x16 H locs e16 _ hk hS => ?_)
  have hC := hC.kp hk
  have hO := k_kp hO hk
  have e16 : x16 = (lw ((v >>> ((nI 5) &&& 31)) >>> ((nI 3) &&& 31)) (nI 40)) := e16
  subst e16
  refine lv_iadd hx hb dL_act_238 ?_
  refine lv_aload_n hx hb dL_act_239 rfl (lv_at hl 7 rfl) ?_
  refine q_ciK (BH := fun H => CE k z D sn T T' H ∧ ∃ g', OE k x g' ∧ va_P D vwCl (wI oa z.cI g') H) (vx_runSW (rm := { frames := 8, cells := 1, slots := 6, locals := 139 }) (As := [.ref (z.o), .int (nI 5), .int (lw (v >>> ((nI 5) &&& 31)) (nI 9)), .int ((nI 5) + (lw ((v >>> ((nI 5) &&& 31)) >>> ((nI 3) &&& 31)) (nI 40))), .ref oa]) (rest := []) ⟨hx, hb, hml, hown, hts⟩ (h3 l hl9 D st z oa hoa hDX g sn hsn) (vx_cwSW (hh := [(0, 76, 79, 30), (0, 76, 83, 32), (0, 76, 87, 34)]) 5 hts gL_act_L_changes rfl rfl rfl (by decide +kernel) ⟨Nat.le_of_ble_eq_true rfl, Nat.le_of_ble_eq_true rfl⟩) (k_pS (C0 := OS z D sn T) hC hO hK hT hS (fun q h => h)) rfl rfl hl.1 rfl (lv_room (Nat.le_of_ble_eq_true rfl)) dL_act_240 ⟨Nat.le_of_ble_eq_true rfl, Nat.le_of_ble_eq_true rfl⟩) (fun _ h => h) hS (fun q h => h) (fun r H locs er hCO hk5 hS => ?_)
  obtain ⟨hC, g1, hg1, hO⟩ := hCO
  have er : nI k = r := Eq.symm er
  subst er
  refine lv_goto (tgt := 317) hx hb dL_act_243 (by decide) ?_
  exact hret _ _ _ _ _ hC hg1 hO hS dL_act_317
set_option maxHeartbeats 4000000 in
set_option maxRecDepth 100000 in
theorem act_06 {B : Nat} {T : Nat → Int32} (hJ : Jv B T) (hB : B < 1000000000) (v : Int32) (hi : (lw (v >>> (nI 22 &&& 31)) (nI 7)) ≤ 0) (w0 : nI 7 ≤ (lw v (nI 32))) (w1 : nI 14 ≤ (lw v (nI 32))) (w2 : nI 22 ≤ (lw v (nI 32))) (w3 : nI 25 ≤ (lw v (nI 32))) (w4 : nI 29 ≤ (lw v (nI 32))) (w5 : ¬ (lw v (nI 32)) = nI 29) : ∃ (k : Nat) (T' : Nat → Int32) (x : Int32), k ≤ 3 ∧ Jv (B + 3200) T' ∧ (∀ (l : Launch) (hl9 : l.stackTraces = false) (D : va_G) (st : Nat → Nat) (z : Ad) (oa : Nat) (hoa : ¬ AX z oa) (hDX : va_D (fun _ => True) (wX z 0 0 0 f00 f00 f00 (fun _ => f00) 0 (0, 0, 0, 0) (fun _ => 0))) (g : Int32) (sn : Nat) (hsn : sn ≤ 6), k_H l yL_act wsL_act { frames := 9, cells := 1, slots := 6, locals := 164 } [.ref z.o, .int v, .ref oa] st D z oa (OS z D sn T) g (nI k) (CE k z D sn T T') (OE k x)) := by
  obtain ⟨k, T', x, h1, h2, h3⟩ := lk_0 hJ (lw (v >>> (nI 5 &&& 31)) (nI 9)) (nI 1 + lw ((v >>> (nI 5 &&& 31)) >>> (nI 3 &&& 31)) (nI 25)) (lw ((v >>> (nI 5 &&& 31)) >>> (nI 6 &&& 31)) (nI 14)) (lw ((v >>> (nI 5 &&& 31)) >>> (nI 9 &&& 31)) (nI 50) - nI 20)
  refine ⟨k, T', x, h1, h2, fun l hl9 D st z oa hoa hDX g sn hsn => ?_⟩
  refine k_goA (cc := cL_act) (maxL := 8) (ty := .int) (lv0 := [(0, .ref z.o), (1, .int v), (2, .ref oa)]) (by decide) rfl (Nat.le_of_ble_eq_true rfl) rfl rfl ?_
  intro p e s m args below meth c Q ls hx hb hml hts hown hC hO hK hT hl hret
  have hS : va_S (AXo z oa) s.heap s.heap [] := va_S.rf
  refine lv_iload_n hx hb dL_act_0 rfl (lv_at hl 1 rfl) ?_
  refine lv_bipush (v := nI 32) hx hb dL_act_1 (by decide) ?_
  refine q_ciK (BH := fun _ => True) (va_runS (rm := { frames := 0, cells := 0, slots := 0, locals := 0 }) (As := [.int v, .int (nI 32)]) (rest := []) ⟨hx, hb, hml, hown, hts⟩ (L_low l D v (nI 32) (by decide)) (va_cwS 2 hts gL_act_L_low rfl rfl rfl (by decide +kernel) ⟨Nat.le_of_ble_eq_true rfl, Nat.le_of_ble_eq_true rfl⟩) (q_pS (hO.sub (ws' := []) [] rfl) (hK.sub [] rfl)) rfl rfl hl.1 rfl (lv_room (Nat.le_of_ble_eq_true rfl)) dL_act_3 ⟨Nat.le_of_ble_eq_true rfl, Nat.le_of_ble_eq_true rfl⟩) (fun t h => trivial) hS (fun q h => h.elim) (fun x1 H locs e1 _ hk hS => ?_)
  have hC := hC.kp hk
  have hO := k_kp hO hk
  have e1 : x1 = (lw v (nI 32)) := e1
  subst e1
  refine lv_istore_n (lv' := [(3, .int (lw v (nI 32))), (0, .ref (z.o)), (1, .int v), (2, .ref oa)]) hx hb dL_act_6 rfl hl (by decide) rfl (fun ls hl => ?_)
  refine lv_iload_n hx hb dL_act_7 rfl (lv_at hl 2 rfl) ?_
  refine lv_iconst (v := nI 5) hx hb dL_act_8 (by decide) ?_
  refine lv_ishr hx hb dL_act_9 ?_
  refine lv_istore (lv' := [(4, .int (v >>> ((nI 5) &&& 31))), (3, .int (lw v (nI 32))), (0, .ref (z.o)), (1, .int v), (2, .ref oa)]) hx hb dL_act_10 hl (by decide) rfl (fun ls hl => ?_)
  refine lv_iload_n hx hb dL_act_12 rfl (lv_at hl 3 rfl) ?_
  refine lv_bipush (v := nI 22) hx hb dL_act_13 (by decide) ?_
  refine lv_ishr hx hb dL_act_15 ?_
  refine lv_bipush (v := nI 7) hx hb dL_act_16 (by decide) ?_
  refine q_ciK (BH := fun _ => True) (va_runS (rm := { frames := 0, cells := 0, slots := 0, locals := 0 }) (As := [.int (v >>> ((nI 22) &&& 31)), .int (nI 7)]) (rest := []) ⟨hx, hb, hml, hown, hts⟩ (L_low l D (v >>> ((nI 22) &&& 31)) (nI 7) (by decide)) (va_cwS 2 hts gL_act_L_low rfl rfl rfl (by decide +kernel) ⟨Nat.le_of_ble_eq_true rfl, Nat.le_of_ble_eq_true rfl⟩) (q_pS (hO.sub (ws' := []) [] rfl) (hK.sub [] rfl)) rfl rfl hl.1 rfl (lv_room (Nat.le_of_ble_eq_true rfl)) dL_act_18 ⟨Nat.le_of_ble_eq_true rfl, Nat.le_of_ble_eq_true rfl⟩) (fun t h => trivial) hS (fun q h => h.elim) (fun x2 H locs e2 _ hk hS => ?_)
  have hC := hC.kp hk
  have hO := k_kp hO hk
  have e2 : x2 = (lw (v >>> ((nI 22) &&& 31)) (nI 7)) := e2
  subst e2
  refine lv_if_le (tgt := 28) hx hb dL_act_21 (by decide) (fun c3 => ?_) (fun c3 => absurd c3 (fun z => z hi))
  refine lv_iconst (v := nI 0) hx hb dL_act_28 (by decide) ?_
  refine lv_istore (lv' := [(5, .int (nI 0)), (4, .int (v >>> ((nI 5) &&& 31))), (3, .int (lw v (nI 32))), (0, .ref (z.o)), (1, .int v), (2, .ref oa)]) hx hb dL_act_29 hl (by decide) rfl (fun ls hl => ?_)
  refine lv_iload hx hb dL_act_31 (lv_at hl 1 rfl) ?_
  refine lv_iload hx hb dL_act_33 (lv_at hl 0 rfl) ?_
  refine lv_if_eq (tgt := 42) hx hb dL_act_35 (by decide) (fun c4 => ?_) (fun c4 => absurd c4 (by decide))
  refine lv_iconst (v := nI 4) hx hb dL_act_42 (by decide) ?_
  refine q_ciK (BH := fun _ => True) (va_runS (rm := { frames := 0, cells := 0, slots := 0, locals := 0 }) (As := [.int (v >>> ((nI 5) &&& 31)), .int (nI 4)]) (rest := []) ⟨hx, hb, hml, hown, hts⟩ (L_low l D (v >>> ((nI 5) &&& 31)) (nI 4) (by decide)) (va_cwS 2 hts gL_act_L_low rfl rfl rfl (by decide +kernel) ⟨Nat.le_of_ble_eq_true rfl, Nat.le_of_ble_eq_true rfl⟩) (q_pS (hO.sub (ws' := []) [] rfl) (hK.sub [] rfl)) rfl rfl hl.1 rfl (lv_room (Nat.le_of_ble_eq_true rfl)) dL_act_43 ⟨Nat.le_of_ble_eq_true rfl, Nat.le_of_ble_eq_true rfl⟩) (fun t h => trivial) hS (fun q h => h.elim) (fun x5 H locs e5 _ hk hS => ?_)
  have hC := hC.kp hk
  have hO := k_kp hO hk
  have e5 : x5 = (lw (v >>> ((nI 5) &&& 31)) (nI 4)) := e5
  subst e5
  refine lv_istore (lv' := [(6, .int (lw (v >>> ((nI 5) &&& 31)) (nI 4))), (5, .int (nI 0)), (4, .int (v >>> ((nI 5) &&& 31))), (3, .int (lw v (nI 32))), (0, .ref (z.o)), (1, .int v), (2, .ref oa)]) hx hb dL_act_46 hl (by decide) rfl (fun ls hl => ?_)
  refine lv_iload hx hb dL_act_48 (lv_at hl 2 rfl) ?_
  refine lv_iload hx hb dL_act_50 (lv_at hl 1 rfl) ?_
  refine lv_if_eq (tgt := 60) hx hb dL_act_52 (by decide) (fun c6 => ?_) (fun c6 => absurd c6 (by decide))
  refine lv_bipush (v := nI 9) hx hb dL_act_60 (by decide) ?_
  refine q_ciK (BH := fun _ => True) (va_runS (rm := { frames := 0, cells := 0, slots := 0, locals := 0 }) (As := [.int (v >>> ((nI 5) &&& 31)), .int (nI 9)]) (rest := []) ⟨hx, hb, hml, hown, hts⟩ (L_low l D (v >>> ((nI 5) &&& 31)) (nI 9) (by decide)) (va_cwS 2 hts gL_act_L_low rfl rfl rfl (by decide +kernel) ⟨Nat.le_of_ble_eq_true rfl, Nat.le_of_ble_eq_true rfl⟩) (q_pS (hO.sub (ws' := []) [] rfl) (hK.sub [] rfl)) rfl rfl hl.1 rfl (lv_room (Nat.le_of_ble_eq_true rfl)) dL_act_62 ⟨Nat.le_of_ble_eq_true rfl, Nat.le_of_ble_eq_true rfl⟩) (fun t h => trivial) hS (fun q h => h.elim) (fun x7 H locs e7 _ hk hS => ?_)
  have hC := hC.kp hk
  have hO := k_kp hO hk
  have e7 : x7 = (lw (v >>> ((nI 5) &&& 31)) (nI 9)) := e7
  subst e7
  refine lv_istore (lv' := [(7, .int (lw (v >>> ((nI 5) &&& 31)) (nI 9))), (6, .int (lw (v >>> ((nI 5) &&& 31)) (nI 4))), (5, .int (nI 0)), (4, .int (v >>> ((nI 5) &&& 31))), (3, .int (lw v (nI 32))), (0, .ref (z.o)), (1, .int v), (2, .ref oa)]) hx hb dL_act_65 hl (by decide) rfl (fun ls hl => ?_)
  refine lv_iload_n hx hb dL_act_67 rfl (lv_at hl 4 rfl) ?_
  refine lv_bipush (v := nI 7) hx hb dL_act_68 (by decide) ?_
  refine lv_icmp_ge (tgt := 118) hx hb dL_act_70 (by decide) (fun c8 => ?_) (fun c8 => absurd c8 (fun z => z w0))
  refine lv_iload_n hx hb dL_act_118 rfl (lv_at hl 4 rfl) ?_
  refine lv_bipush (v := nI 14) hx hb dL_act_119 (by decide) ?_
  refine lv_icmp_ge (tgt := 134) hx hb dL_act_121 (by decide) (fun c9 => ?_) (fun c9 => absurd c9 (fun z => z w1))
  refine lv_iload_n hx hb dL_act_134 rfl (lv_at hl 4 rfl) ?_
  refine lv_bipush (v := nI 22) hx hb dL_act_135 (by decide) ?_
  refine lv_icmp_ge (tgt := 166) hx hb dL_act_137 (by decide) (fun c10 => ?_) (fun c10 => absurd c10 (fun z => z w2))
  refine lv_iload_n hx hb dL_act_166 rfl (lv_at hl 4 rfl) ?_
  refine lv_bipush (v := nI 25) hx hb dL_act_167 (by decide) ?_
  refine lv_icmp_ge (tgt := 182) hx hb dL_act_169 (by decide) (fun c11 => ?_) (fun c11 => absurd c11 (fun z => z w3))
  refine lv_iload_n hx hb dL_act_182 rfl (lv_at hl 4 rfl) ?_
  refine lv_bipush (v := nI 29) hx hb dL_act_183 (by decide) ?_
  refine lv_icmp_ge (tgt := 198) hx hb dL_act_185 (by decide) (fun c12 => ?_) (fun c12 => absurd c12 (fun z => z w4))
  refine lv_iload_n hx hb dL_act_198 rfl (lv_at hl 4 rfl) ?_
  refine lv_bipush (v := nI 29) hx hb dL_act_199 (by decide) ?_
  refine lv_icmp_ne (tgt := 246) hx hb dL_act_201 (by decide) (fun c13 => ?_) (fun c13 => absurd c13 (fun z => w5 z))
  refine lv_aload_n hx hb dL_act_246 rfl (lv_at hl 5 rfl) ?_
  refine lv_iload hx hb dL_act_247 (lv_at hl 0 rfl) ?_
  refine lv_iconst (v := nI 1) hx hb dL_act_249 (by decide) ?_
  refine lv_iload hx hb dL_act_250 (lv_at hl 3 rfl) ?_
  refine lv_iconst (v := nI 3) hx hb dL_act_252 (by decide) ?_
  refine lv_ishr hx hb dL_act_253 ?_
  refine lv_iload hx hb dL_act_254 (lv_at hl 2 rfl) ?_
  refine lv_if_eq (tgt := 264) hx hb dL_act_256 (by decide) (fun c14 => ?_) (fun c14 => absurd c14 (by decide))
  refine lv_bipush (v := nI 25) hx hb dL_act_264 (by decide) ?_
  refine q_ciK (BH := fun _ => True) (va_runS (rm := { frames := 0, cells := 0, slots := 0, locals := 0 }) (As := [.int ((v >>> ((nI 5) &&& 31)) >>> ((nI 3) &&& 31)), .int (nI 25)]) (rest := [.int (nI 1), .int (lw (v >>> ((nI 5) &&& 31)) (nI 9)), .ref (z.o)]) ⟨hx, hb, hml, hown, hts⟩ (L_low l D ((v >>> ((nI 5) &&& 31)) >>> ((nI 3) &&& 31)) (nI 25) (by decide)) (va_cwS 2 hts gL_act_L_low rfl rfl rfl (by decide +kernel) ⟨Nat.le_of_ble_eq_true rfl, Nat.le_of_ble_eq_true rfl⟩) (q_pS (hO.sub (ws' := []) [] rfl) (hK.sub [] rfl)) rfl rfl hl.1 rfl (lv_room (Nat.le_of_ble_eq_true rfl)) dL_act_266 ⟨Nat.le_of_ble_eq_true rfl, Nat.le_of_ble_eq_true rfl⟩) (fun t h => trivial) hS (fun q h => h.elim) (fun x15 H locs e15 _ hk hS => ?_)
  have hC := hC.kp hk
  have hO := k_kp hO hk
  have e15 : x15 = (lw ((v >>> ((nI 5) &&& 31)) >>> ((nI 3) &&& 31)) (nI 25)) := e15
  subst e15
  refine lv_iadd hx hb dL_act_269 ?_
  refine lv_iload hx hb dL_act_270 (lv_at hl 3 rfl) ?_
  refine lv_bipush (v := nI 6) hx hb dL_act_272 (by decide) ?_
  refine lv_ishr hx hb dL_act_274 ?_
  refine lv_iload hx hb dL_act_275 (lv_at hl 2 rfl) ?_
  refine lv_if_eq (tgt := 285) hx hb dL_act_277 (by decide) (fun c16 => ?_) (fun c16 => absurd c16 (by decide))
  refine lv_bipush (v := nI 14) hx hb dL_act_285 (by decide) ?_
  refine q_ciK (BH := fun _ => True) (va_runS (rm := { frames := 0, cells := 0, slots := 0, locals := 0 }) (As := [.int ((v >>> ((nI 5) &&& 31)) >>> ((nI 6) &&& 31)), .int (nI 14)]) (rest := [.int ((nI 1) + (lw ((v >>> ((nI 5) &&& 31)) >>> ((nI 3) &&& 31)) (nI 25))), .int (lw (v >>> ((nI 5) &&& 31)) (nI 9)), .ref (z.o)]) ⟨hx, hb, hml, hown, hts⟩ (L_low l D ((v >>> ((nI 5) &&& 31)) >>> ((nI 6) &&& 31)) (nI 14) (by decide)) (va_cwS 2 hts gL_act_L_low rfl rfl rfl (by decide +kernel) ⟨Nat.le_of_ble_eq_true rfl, Nat.le_of_ble_eq_true rfl⟩) (q_pS (hO.sub (ws' := []) [] rfl) (hK.sub [] rfl)) rfl rfl hl.1 rfl (lv_room (Nat.le_of_ble_eq_true rfl)) dL_act_287 ⟨Nat.le_of_ble_eq_true rfl, Nat.le_of_ble_eq_true rfl⟩) (fun t h => trivial) hS (fun q h => h.elim) (fun x17 H locs e17 _ hk hS => ?_)
  have hC := hC.kp hk
  have hO := k_kp hO hk
  have e17 : x17 = (lw ((v >>> ((nI 5) &&& 31)) >>> ((nI 6) &&& 31)) (nI 14)) := e17
  subst e17
  refine lv_iload hx hb dL_act_290 (lv_at hl 3 rfl) ?_
  refine lv_bipush (v := nI 9) hx hb dL_act_292 (by decide) ?_
  refine lv_ishr hx hb dL_act_294 ?_
  refine lv_iload hx hb dL_act_295 (lv_at hl 2 rfl) ?_
  refine lv_if_eq (tgt := 305) hx hb dL_act_297 (by decide) (fun c18 => ?_) (fun c18 => absurd c18 (by decide))
  refine lv_bipush (v := nI 50) hx hb dL_act_305 (by decide) ?_
  refine q_ciK (BH := fun _ => True) (va_runS (rm := { frames := 0, cells := 0, slots := 0, locals := 0 }) (As := [.int ((v >>> ((nI 5) &&& 31)) >>> ((nI 9) &&& 31)), .int (nI 50)]) (rest := [.int (lw ((v >>> ((nI 5) &&& 31)) >>> ((nI 6) &&& 31)) (nI 14)), .int ((nI 1) + (lw ((v >>> ((nI 5) &&& 31)) >>> ((nI 3) &&& 31)) (nI 25))), .int (lw (v >>> ((nI 5) &&& 31)) (nI 9)), .ref (z.o)]) ⟨hx, hb, hml, hown, hts⟩ (L_low l D ((v >>> ((nI 5) &&& 31)) >>> ((nI 9) &&& 31)) (nI 50) (by decide)) (va_cwS 2 hts gL_act_L_low rfl rfl rfl (by decide +kernel) ⟨Nat.le_of_ble_eq_true rfl, Nat.le_of_ble_eq_true rfl⟩) (q_pS (hO.sub (ws' := []) [] rfl) (hK.sub [] rfl)) rfl rfl hl.1 rfl (lv_room (Nat.le_of_ble_eq_true rfl)) dL_act_307 ⟨Nat.le_of_ble_eq_true rfl, Nat.le_of_ble_eq_true rfl⟩) (fun t h => trivial) hS (fun q h => h.elim) (fun x19 H locs e19 _ hk hS => ?_)
  have hC := hC.kp hk
  have hO := k_kp hO hk
  have e19 : x19 = (lw ((v >>> ((nI 5) &&& 31)) >>> ((nI 9) &&& 31)) (nI 50)) := e19
  subst e19
  refine lv_bipush (v := nI 20) hx hb dL_act_310 (by decide) ?_
  refine lv_isub hx hb dL_act_312 ?_
  refine lv_aload_n hx hb dL_act_313 rfl (lv_at hl 7 rfl) ?_
  refine q_ciK (BH := fun H => CE k z D sn T T' H ∧ ∃ g', OE k x g' ∧ va_P D vwCl (wI oa z.cI g') H) (vx_runSW (rm := { frames := 8, cells := 1, slots := 6, locals := 129 }) (As := [.ref (z.o), .int (lw (v >>> ((nI 5) &&& 31)) (nI 9)), .int ((nI 1) + (lw ((v >>> ((nI 5) &&& 31)) >>> ((nI 3) &&& 31)) (nI 25))), .int (lw ((v >>> ((nI 5) &&& 31)) >>> ((nI 6) &&& 31)) (nI 14)), .int ((lw ((v >>> ((nI 5) &&& 31)) >>> ((nI 9) &&& 31)) (nI 50)) - (nI 20)), .ref oa]) (rest := []) ⟨hx, hb, hml, hown, hts⟩ (h3 l hl9 D st z oa hoa hDX g sn hsn) (vx_cwSW (hh := [(0, 13, 16, 30), (0, 13, 20, 32)]) 6 hts gL_act_L_likes rfl rfl rfl (by decide +kernel) ⟨Nat.le_of_ble_eq_true rfl, Nat.le_of_ble_eq_true rfl⟩) (k_pS (C0 := OS z D sn T) hC hO hK hT hS (fun q h => h)) rfl rfl hl.1 rfl (lv_room (Nat.le_of_ble_eq_true rfl)) dL_act_314 ⟨Nat.le_of_ble_eq_true rfl, Nat.le_of_ble_eq_true rfl⟩) (fun _ h => h) hS (fun q h => h) (fun r H locs er hCO hk5 hS => ?_)
  obtain ⟨hC, g1, hg1, hO⟩ := hCO
  have er : nI k = r := Eq.symm er
  subst er
  exact hret _ _ _ _ _ hC hg1 hO hS dL_act_317
theorem act_all {B : Nat} {T : Nat → Int32} (hJ : Jv B T) (hB : B < 1000000000) (v : Int32) : ∃ (k : Nat) (T' : Nat → Int32) (x : Int32), k ≤ 3 ∧ Jv (B + 3200) T' ∧ (∀ (l : Launch) (hl9 : l.stackTraces = false) (D : va_G) (st : Nat → Nat) (z : Ad) (oa : Nat) (hoa : ¬ AX z oa) (hDX : va_D (fun _ => True) (wX z 0 0 0 f00 f00 f00 (fun _ => f00) 0 (0, 0, 0, 0) (fun _ => 0))) (g : Int32) (sn : Nat) (hsn : sn ≤ 6), k_H l yL_act wsL_act { frames := 9, cells := 1, slots := 6, locals := 164 } [.ref z.o, .int v, .ref oa] st D z oa (OS z D sn T) g (nI k) (CE k z D sn T T') (OE k x)) := by
  by_cases hi : (lw (v >>> (nI 22 &&& 31)) (nI 7)) ≤ 0
  · skip
    by_cases w0 : nI 7 ≤ (lw v (nI 32))
    · skip
      by_cases w1 : nI 14 ≤ (lw v (nI 32))
      · skip
        by_cases w2 : nI 22 ≤ (lw v (nI 32))
        · skip
          by_cases w3 : nI 25 ≤ (lw v (nI 32))
          · skip
            by_cases w4 : nI 29 ≤ (lw v (nI 32))
            · skip
              by_cases w5 : (lw v (nI 32)) = nI 29
              · exact act_05 hJ hB v hi w0 w1 w2 w3 w4 w5
              · exact act_06 hJ hB v hi w0 w1 w2 w3 w4 w5
            · exact act_04 hJ hB v hi w0 w1 w2 w3 w4
          · exact act_03 hJ hB v hi w0 w1 w2 w3
        · exact act_02 hJ hB v hi w0 w1 w2
      · exact act_01 hJ hB v hi w0 w1
    · by_cases hb0 : ((v >>> (nI 5 &&& 31)) >>> (nI 10 &&& 31)) &&& nI 1 = 0
      · exact act_00a hJ hB v hi w0 hb0
      · exact act_00b hJ hB v hi w0 hb0
  · skip
    by_cases w0 : nI 7 ≤ (lw v (nI 32))
    · skip
      by_cases w1 : nI 14 ≤ (lw v (nI 32))
      · skip
        by_cases w2 : nI 22 ≤ (lw v (nI 32))
        · skip
          by_cases w3 : nI 25 ≤ (lw v (nI 32))
          · skip
            by_cases w4 : nI 29 ≤ (lw v (nI 32))
            · skip
              by_cases w5 : (lw v (nI 32)) = nI 29
              · exact act_15 hJ hB v hi w0 w1 w2 w3 w4 w5
              · exact act_16 hJ hB v hi w0 w1 w2 w3 w4 w5
            · exact act_14 hJ hB v hi w0 w1 w2 w3 w4
          · exact act_13 hJ hB v hi w0 w1 w2 w3
        · exact act_12 hJ hB v hi w0 w1 w2
      · exact act_11 hJ hB v hi w0 w1
    · by_cases hb0 : ((v >>> (nI 5 &&& 31)) >>> (nI 10 &&& 31)) &&& nI 1 = 0
      · exact act_10a hJ hB v hi w0 hb0
      · exact act_10b hJ hB v hi w0 hb0
