set_option maxHeartbeats 4000000 in
set_option maxRecDepth 100000 in
theorem L_like_ok (l : Launch) (hl9 : l.stackTraces = false) (D : va_G) (st : Nat → Nat) (z : Ad) (oa : Nat) (cJ : ClassId) (hoa : ¬ AX z oa) (hDX : va_D (fun _ => True) (wX z 0 0 0 f00 f00 f00 (fun _ => f00) 0 (0, 0, 0, 0) (fun _ => 0))) (g : Int64) (ol sn hs : Nat) (T S : Nat → Int32) (G : Nat → Nat → Int32) (len : Nat) (ch : Nat → Nat) (hol : ol < 6) (hsn : sn ≤ 6) (B : Nat) (hI : Inv B T) (n : Nat) (hg : n < 8) (xt xr xl : Int32) (h1q : q_in (nI 1) (nI 20) xt = true) (h2q : q_in (nI 0) (nI 10) xr = true) (h3q : q_in (-20) (nI 20) xl = true) : q_H l yL_like wsL_like { frames := 8, cells := 1, slots := 6, locals := 129 } [.ref (z.o), .int (nI n), .int xt, .int xr, .int xl, .ref oa] st D z oa cJ (CS z D ol sn hs T S G len ch) g 0 (CS z D (so ol sn) (svn sn) hs (g_like T n xt xr xl) S (updG G (sr ol sn) T) len ch) ((T (16 + n)).toInt64) := by
  refine q_goH (cc := cL_like) (maxL := 7) (hh := [(0, 14, 17, 13), (0, 14, 21, 15)]) (lv0 := [(0, .ref (z.o)), (1, .int (nI n)), (2, .int xt), (3, .int xr), (4, .int xl), (5, .ref oa)]) (by decide) rfl (Nat.le_of_ble_eq_true rfl) rfl ?_
  intro p e s m args below meth c Q ls hx hb hml hts hown hC hO hK hT hl htab hret
  obtain ⟨Y, P, hsm, hP⟩ := hC
  have hD := q_D2 (ws' := wX z ol sn hs T S Y G len P ch) hDX rfl
  have hS : va_S (AXo z oa) s.heap s.heap [] := va_S.rf
  refine lv_aload hx hb dL_like_0 (lv_at hl 5 rfl) ?_
  refine lv_iconst (v := nI 0) hx hb dL_like_2 (by decide) ?_
  refine lv_aload_n hx hb dL_like_3 rfl (lv_at hl 0 rfl) ?_
  refine lv_iload_n hx hb dL_like_4 rfl (lv_at hl 1 rfl) ?_
  refine lv_iload_n hx hb dL_like_5 rfl (lv_at hl 2 rfl) ?_
  refine lv_iload_n hx hb dL_like_6 rfl (lv_at hl 3 rfl) ?_
  refine lv_iload hx hb dL_like_7 (lv_at hl 4 rfl) ?_
  refine q_ciK (BH := CS z D (so ol sn) (svn sn) hs (g_like T n xt xr xl) S (updG G (sr ol sn) T) len ch) (va_runV (rm := { frames := 3, cells := 0, slots := 0, locals := 101 }) (As := [.int (nI n), .int xt, .int xr, .int xl]) (rest := [.int (nI 0), .ref oa]) ⟨hx, hb, hml, hown, hts⟩ (m2_like_ok l D z ol sn hs hol hsn T S Y G len P ch B hI n hg xt xr xl h1q h2q h3q hD) (cwV 4 hts gL_like_X2_like rfl rfl rfl (by decide +kernel) ⟨Nat.le_of_ble_eq_true rfl, Nat.le_of_ble_eq_true rfl⟩) (q_pV (ci := 2) (q0 := 0) hP (hK.sub [0, 1] rfl) rfl rfl) rfl rfl hl.1 rfl (lv_room (Nat.le_of_ble_eq_true rfl)) dL_like_9 ⟨Nat.le_of_ble_eq_true rfl, Nat.le_of_ble_eq_true rfl⟩) (fun t h => ⟨_, _, hsm, h⟩) hS (fun q h => Or.inl h) (fun x H locs ex hC hk hS => ?_)
  have hO := wO_kept hO hoa hk
  have ex : x = T (16 + n) := ex
  refine lv_i2l (v := x.toInt64) hx hb dL_like_12 rfl ?_
  refine q_lst0 hx hb hK hO hS 2 rfl (Or.inr rfl) dL_like_13 (fun H locs hO hk hS => ?_)
  have hC := hC.kept (B := fun q => q = oa) (fun q h (e : q = oa) => hoa (e ▸ h)) hk
  refine lv_goto (tgt := 25) hx hb dL_like_14 (by decide) ?_
  refine lv_iconst (v := nI 0) hx hb dL_like_25 (by decide) ?_
  refine W.widen (k := 1) (n := 6) (Nat.le_of_ble_eq_true rfl) (Nat.le_of_ble_eq_true rfl) ?_
  rw [ex] at hO
  exact hret _ _ _ _ _ rfl hC hO hS dL_like_26
set_option maxHeartbeats 4000000 in
set_option maxRecDepth 100000 in
theorem L_like_1 (l : Launch) (hl9 : l.stackTraces = false) (D : va_G) (st : Nat → Nat) (z : Ad) (oa : Nat) (cJ : ClassId) (hoa : ¬ AX z oa) (hDX : va_D (fun _ => True) (wX z 0 0 0 f00 f00 f00 (fun _ => f00) 0 (0, 0, 0, 0) (fun _ => 0))) (g : Int64) (ol sn hs : Nat) (T S : Nat → Int32) (G : Nat → Nat → Int32) (len : Nat) (ch : Nat → Nat) (B : Nat) (hI : Inv B T) (x0 xt xr xl : Int32) (h0q : q_in (nI 0) (nI 7) x0 = false) : q_H l yL_like wsL_like { frames := 8, cells := 1, slots := 6, locals := 129 } [.ref (z.o), .int x0, .int xt, .int xr, .int xl, .ref oa] st D z oa cJ (CS z D ol sn hs T S G len ch) g 1 (CS z D ol sn hs T S G len ch) (g) := by
  refine q_goH (cc := cL_like) (maxL := 7) (hh := [(0, 14, 17, 13), (0, 14, 21, 15)]) (lv0 := [(0, .ref (z.o)), (1, .int x0), (2, .int xt), (3, .int xr), (4, .int xl), (5, .ref oa)]) (by decide) rfl (Nat.le_of_ble_eq_true rfl) rfl ?_
  intro p e s m args below meth c Q ls hx hb hml hts hown hC hO hK hT hl htab hret
  obtain ⟨Y, P, hsm, hP⟩ := hC
  have hD := q_D2 (ws' := wX z ol sn hs T S Y G len P ch) hDX rfl
  have hS : va_S (AXo z oa) s.heap s.heap [] := va_S.rf
  refine lv_aload hx hb dL_like_0 (lv_at hl 5 rfl) ?_
  refine lv_iconst (v := nI 0) hx hb dL_like_2 (by decide) ?_
  refine lv_aload_n hx hb dL_like_3 rfl (lv_at hl 0 rfl) ?_
  refine lv_iload_n hx hb dL_like_4 rfl (lv_at hl 1 rfl) ?_
  refine lv_iload_n hx hb dL_like_5 rfl (lv_at hl 2 rfl) ?_
  refine lv_iload_n hx hb dL_like_6 rfl (lv_at hl 3 rfl) ?_
  refine lv_iload hx hb dL_like_7 (lv_at hl 4 rfl) ?_
  refine q_ctch (E := xI.cls) (own := RL) (name := xI.cls) (hh := [(0, 14, 17, 13), (0, 14, 21, 15)]) (vx_runV (rm := { frames := 7, cells := 1, slots := 6, locals := 102 }) (As := [.int x0, .int xt, .int xr, .int xl]) (rest := [.int (nI 0), .ref oa]) ⟨hx, hb, hml, hown, hts⟩ (m2_like_1 l hl9 D st z ol sn hs T S Y G len P ch B hI x0 xt xr xl h0q) (cwV 4 hts gL_like_X2_like rfl rfl rfl (by decide +kernel) ⟨Nat.le_of_ble_eq_true rfl, Nat.le_of_ble_eq_true rfl⟩) (q_pVX (ci := 2) (q0 := 0) hP (hK.sub [0, 1] rfl) hT.1 hS (fun q h => Or.inl h) rfl rfl) rfl rfl hl.1 rfl (lv_room (Nat.le_of_ble_eq_true rfl)) dL_like_9 ⟨Nat.le_of_ble_eq_true rfl, Nat.le_of_ble_eq_true rfl⟩) hS (fun q h => h.elim) hown htab (tableOf []) ⟨0, 14, 17, 13⟩ (tableOf [(0, 14, 21, 15)]) rfl (fun _ h => nomatch h) rfl (by decide) (hts (.classLink RL 13 xI.cls) (by decide +kernel)) (va_Nw.use rfl hT.1.c1) (fun q H locs hP2 hk hS => ?_)
  have hC : CS z D ol sn hs T S G len ch H := ⟨_, _, hsm, hP2⟩
  have hO := wO_kept hO (fun h => h) hk
  refine lv_astore (lv' := [(6, .ref q), (0, .ref (z.o)), (1, .int x0), (2, .int xt), (3, .int xr), (4, .int xl), (5, .ref oa)]) hx hb dL_like_17 hl (by decide) rfl (fun ls hl => ?_)
  refine lv_iconst (v := nI 1) hx hb dL_like_19 (by decide) ?_
  exact hret _ _ _ _ _ rfl hC hO hS dL_like_20
set_option maxHeartbeats 4000000 in
set_option maxRecDepth 100000 in
theorem L_like_2a (l : Launch) (hl9 : l.stackTraces = false) (D : va_G) (st : Nat → Nat) (z : Ad) (oa : Nat) (cJ : ClassId) (hoa : ¬ AX z oa) (hDX : va_D (fun _ => True) (wX z 0 0 0 f00 f00 f00 (fun _ => f00) 0 (0, 0, 0, 0) (fun _ => 0))) (g : Int64) (ol sn hs : Nat) (T S : Nat → Int32) (G : Nat → Nat → Int32) (len : Nat) (ch : Nat → Nat) (B : Nat) (hI : Inv B T) (n : Nat) (hg : n < 8) (xt xr xl : Int32) (h1q : q_in (nI 1) (nI 20) xt = false) : q_H l yL_like wsL_like { frames := 8, cells := 1, slots := 6, locals := 129 } [.ref (z.o), .int (nI n), .int xt, .int xr, .int xl, .ref oa] st D z oa cJ (CS z D ol sn hs T S G len ch) g 2 (CS z D ol sn hs T S G len ch) (g) := by
  refine q_goH (cc := cL_like) (maxL := 7) (hh := [(0, 14, 17, 13), (0, 14, 21, 15)]) (lv0 := [(0, .ref (z.o)), (1, .int (nI n)), (2, .int xt), (3, .int xr), (4, .int xl), (5, .ref oa)]) (by decide) rfl (Nat.le_of_ble_eq_true rfl) rfl ?_
  intro p e s m args below meth c Q ls hx hb hml hts hown hC hO hK hT hl htab hret
  obtain ⟨Y, P, hsm, hP⟩ := hC
  have hD := q_D2 (ws' := wX z ol sn hs T S Y G len P ch) hDX rfl
  have hS : va_S (AXo z oa) s.heap s.heap [] := va_S.rf
  refine lv_aload hx hb dL_like_0 (lv_at hl 5 rfl) ?_
  refine lv_iconst (v := nI 0) hx hb dL_like_2 (by decide) ?_
  refine lv_aload_n hx hb dL_like_3 rfl (lv_at hl 0 rfl) ?_
  refine lv_iload_n hx hb dL_like_4 rfl (lv_at hl 1 rfl) ?_
  refine lv_iload_n hx hb dL_like_5 rfl (lv_at hl 2 rfl) ?_
  refine lv_iload_n hx hb dL_like_6 rfl (lv_at hl 3 rfl) ?_
  refine lv_iload hx hb dL_like_7 (lv_at hl 4 rfl) ?_
  refine q_ctch (E := xA.cls) (own := RL) (name := xA.cls) (hh := [(0, 14, 17, 13), (0, 14, 21, 15)]) (vx_runV (rm := { frames := 7, cells := 1, slots := 6, locals := 104 }) (As := [.int (nI n), .int xt, .int xr, .int xl]) (rest := [.int (nI 0), .ref oa]) ⟨hx, hb, hml, hown, hts⟩ (m2_like_2a l hl9 D st z ol sn hs T S Y G len P ch B hI n hg xt xr xl h1q) (cwV 4 hts gL_like_X2_like rfl rfl rfl (by decide +kernel) ⟨Nat.le_of_ble_eq_true rfl, Nat.le_of_ble_eq_true rfl⟩) (q_pVX (ci := 2) (q0 := 0) hP (hK.sub [0, 1] rfl) hT.1 hS (fun q h => Or.inl h) rfl rfl) rfl rfl hl.1 rfl (lv_room (Nat.le_of_ble_eq_true rfl)) dL_like_9 ⟨Nat.le_of_ble_eq_true rfl, Nat.le_of_ble_eq_true rfl⟩) hS (fun q h => h.elim) hown htab (tableOf [(0, 14, 17, 13)]) ⟨0, 14, 21, 15⟩ (tableOf []) rfl (fun zz hz => by rw [List.mem_singleton.mp hz]; exact Or.inr ⟨by decide, xI.cls, hts _ (by decide +kernel), hT.2.1⟩) rfl (by decide) (hts (.classLink RL 15 xA.cls) (by decide +kernel)) (va_Nw.use rfl hT.1.c2) (fun q H locs hP2 hk hS => ?_)
  have hC : CS z D ol sn hs T S G len ch H := ⟨_, _, hsm, hP2⟩
  have hO := wO_kept hO (fun h => h) hk
  refine lv_astore (lv' := [(6, .ref q), (0, .ref (z.o)), (1, .int (nI n)), (2, .int xt), (3, .int xr), (4, .int xl), (5, .ref oa)]) hx hb dL_like_21 hl (by decide) rfl (fun ls hl => ?_)
  refine lv_iconst (v := nI 2) hx hb dL_like_23 (by decide) ?_
  exact hret _ _ _ _ _ rfl hC hO hS dL_like_24
set_option maxHeartbeats 4000000 in
set_option maxRecDepth 100000 in
theorem L_like_2b (l : Launch) (hl9 : l.stackTraces = false) (D : va_G) (st : Nat → Nat) (z : Ad) (oa : Nat) (cJ : ClassId) (hoa : ¬ AX z oa) (hDX : va_D (fun _ => True) (wX z 0 0 0 f00 f00 f00 (fun _ => f00) 0 (0, 0, 0, 0) (fun _ => 0))) (g : Int64) (ol sn hs : Nat) (T S : Nat → Int32) (G : Nat → Nat → Int32) (len : Nat) (ch : Nat → Nat) (B : Nat) (hI : Inv B T) (n : Nat) (hg : n < 8) (xt xr xl : Int32) (h1q : q_in (nI 1) (nI 20) xt = true) (h2q : q_in (nI 0) (nI 10) xr = false) : q_H l yL_like wsL_like { frames := 8, cells := 1, slots := 6, locals := 129 } [.ref (z.o), .int (nI n), .int xt, .int xr, .int xl, .ref oa] st D z oa cJ (CS z D ol sn hs T S G len ch) g 2 (CS z D ol sn hs T S G len ch) (g) := by
  refine q_goH (cc := cL_like) (maxL := 7) (hh := [(0, 14, 17, 13), (0, 14, 21, 15)]) (lv0 := [(0, .ref (z.o)), (1, .int (nI n)), (2, .int xt), (3, .int xr), (4, .int xl), (5, .ref oa)]) (by decide) rfl (Nat.le_of_ble_eq_true rfl) rfl ?_
  intro p e s m args below meth c Q ls hx hb hml hts hown hC hO hK hT hl htab hret
  obtain ⟨Y, P, hsm, hP⟩ := hC
  have hD := q_D2 (ws' := wX z ol sn hs T S Y G len P ch) hDX rfl
  have hS : va_S (AXo z oa) s.heap s.heap [] := va_S.rf
  refine lv_aload hx hb dL_like_0 (lv_at hl 5 rfl) ?_
  refine lv_iconst (v := nI 0) hx hb dL_like_2 (by decide) ?_
  refine lv_aload_n hx hb dL_like_3 rfl (lv_at hl 0 rfl) ?_
  refine lv_iload_n hx hb dL_like_4 rfl (lv_at hl 1 rfl) ?_
  refine lv_iload_n hx hb dL_like_5 rfl (lv_at hl 2 rfl) ?_
  refine lv_iload_n hx hb dL_like_6 rfl (lv_at hl 3 rfl) ?_
  refine lv_iload hx hb dL_like_7 (lv_at hl 4 rfl) ?_
  refine q_ctch (E := xA.cls) (own := RL) (name := xA.cls) (hh := [(0, 14, 17, 13), (0, 14, 21, 15)]) (vx_runV (rm := { frames := 7, cells := 1, slots := 6, locals := 104 }) (As := [.int (nI n), .int xt, .int xr, .int xl]) (rest := [.int (nI 0), .ref oa]) ⟨hx, hb, hml, hown, hts⟩ (m2_like_2b l hl9 D st z ol sn hs T S Y G len P ch B hI n hg xt xr xl h1q h2q) (cwV 4 hts gL_like_X2_like rfl rfl rfl (by decide +kernel) ⟨Nat.le_of_ble_eq_true rfl, Nat.le_of_ble_eq_true rfl⟩) (q_pVX (ci := 2) (q0 := 0) hP (hK.sub [0, 1] rfl) hT.1 hS (fun q h => Or.inl h) rfl rfl) rfl rfl hl.1 rfl (lv_room (Nat.le_of_ble_eq_true rfl)) dL_like_9 ⟨Nat.le_of_ble_eq_true rfl, Nat.le_of_ble_eq_true rfl⟩) hS (fun q h => h.elim) hown htab (tableOf [(0, 14, 17, 13)]) ⟨0, 14, 21, 15⟩ (tableOf []) rfl (fun zz hz => by rw [List.mem_singleton.mp hz]; exact Or.inr ⟨by decide, xI.cls, hts _ (by decide +kernel), hT.2.1⟩) rfl (by decide) (hts (.classLink RL 15 xA.cls) (by decide +kernel)) (va_Nw.use rfl hT.1.c2) (fun q H locs hP2 hk hS => ?_)
  have hC : CS z D ol sn hs T S G len ch H := ⟨_, _, hsm, hP2⟩
  have hO := wO_kept hO (fun h => h) hk
  refine lv_astore (lv' := [(6, .ref q), (0, .ref (z.o)), (1, .int (nI n)), (2, .int xt), (3, .int xr), (4, .int xl), (5, .ref oa)]) hx hb dL_like_21 hl (by decide) rfl (fun ls hl => ?_)
  refine lv_iconst (v := nI 2) hx hb dL_like_23 (by decide) ?_
  exact hret _ _ _ _ _ rfl hC hO hS dL_like_24
set_option maxHeartbeats 4000000 in
set_option maxRecDepth 100000 in
theorem L_like_2c (l : Launch) (hl9 : l.stackTraces = false) (D : va_G) (st : Nat → Nat) (z : Ad) (oa : Nat) (cJ : ClassId) (hoa : ¬ AX z oa) (hDX : va_D (fun _ => True) (wX z 0 0 0 f00 f00 f00 (fun _ => f00) 0 (0, 0, 0, 0) (fun _ => 0))) (g : Int64) (ol sn hs : Nat) (T S : Nat → Int32) (G : Nat → Nat → Int32) (len : Nat) (ch : Nat → Nat) (B : Nat) (hI : Inv B T) (n : Nat) (hg : n < 8) (xt xr xl : Int32) (h1q : q_in (nI 1) (nI 20) xt = true) (h2q : q_in (nI 0) (nI 10) xr = true) (h3q : q_in (-20) (nI 20) xl = false) : q_H l yL_like wsL_like { frames := 8, cells := 1, slots := 6, locals := 129 } [.ref (z.o), .int (nI n), .int xt, .int xr, .int xl, .ref oa] st D z oa cJ (CS z D ol sn hs T S G len ch) g 2 (CS z D ol sn hs T S G len ch) (g) := by
  refine q_goH (cc := cL_like) (maxL := 7) (hh := [(0, 14, 17, 13), (0, 14, 21, 15)]) (lv0 := [(0, .ref (z.o)), (1, .int (nI n)), (2, .int xt), (3, .int xr), (4, .int xl), (5, .ref oa)]) (by decide) rfl (Nat.le_of_ble_eq_true rfl) rfl ?_
  intro p e s m args below meth c Q ls hx hb hml hts hown hC hO hK hT hl htab hret
  obtain ⟨Y, P, hsm, hP⟩ := hC
  have hD := q_D2 (ws' := wX z ol sn hs T S Y G len P ch) hDX rfl
  have hS : va_S (AXo z oa) s.heap s.heap [] := va_S.rf
  refine lv_aload hx hb dL_like_0 (lv_at hl 5 rfl) ?_
  refine lv_iconst (v := nI 0) hx hb dL_like_2 (by decide) ?_
  refine lv_aload_n hx hb dL_like_3 rfl (lv_at hl 0 rfl) ?_
  refine lv_iload_n hx hb dL_like_4 rfl (lv_at hl 1 rfl) ?_
  refine lv_iload_n hx hb dL_like_5 rfl (lv_at hl 2 rfl) ?_
  refine lv_iload_n hx hb dL_like_6 rfl (lv_at hl 3 rfl) ?_
  refine lv_iload hx hb dL_like_7 (lv_at hl 4 rfl) ?_
  refine q_ctch (E := xA.cls) (own := RL) (name := xA.cls) (hh := [(0, 14, 17, 13), (0, 14, 21, 15)]) (vx_runV (rm := { frames := 7, cells := 1, slots := 6, locals := 104 }) (As := [.int (nI n), .int xt, .int xr, .int xl]) (rest := [.int (nI 0), .ref oa]) ⟨hx, hb, hml, hown, hts⟩ (m2_like_2c l hl9 D st z ol sn hs T S Y G len P ch B hI n hg xt xr xl h1q h2q h3q) (cwV 4 hts gL_like_X2_like rfl rfl rfl (by decide +kernel) ⟨Nat.le_of_ble_eq_true rfl, Nat.le_of_ble_eq_true rfl⟩) (q_pVX (ci := 2) (q0 := 0) hP (hK.sub [0, 1] rfl) hT.1 hS (fun q h => Or.inl h) rfl rfl) rfl rfl hl.1 rfl (lv_room (Nat.le_of_ble_eq_true rfl)) dL_like_9 ⟨Nat.le_of_ble_eq_true rfl, Nat.le_of_ble_eq_true rfl⟩) hS (fun q h => h.elim) hown htab (tableOf [(0, 14, 17, 13)]) ⟨0, 14, 21, 15⟩ (tableOf []) rfl (fun zz hz => by rw [List.mem_singleton.mp hz]; exact Or.inr ⟨by decide, xI.cls, hts _ (by decide +kernel), hT.2.1⟩) rfl (by decide) (hts (.classLink RL 15 xA.cls) (by decide +kernel)) (va_Nw.use rfl hT.1.c2) (fun q H locs hP2 hk hS => ?_)
  have hC : CS z D ol sn hs T S G len ch H := ⟨_, _, hsm, hP2⟩
  have hO := wO_kept hO (fun h => h) hk
  refine lv_astore (lv' := [(6, .ref q), (0, .ref (z.o)), (1, .int (nI n)), (2, .int xt), (3, .int xr), (4, .int xl), (5, .ref oa)]) hx hb dL_like_21 hl (by decide) rfl (fun ls hl => ?_)
  refine lv_iconst (v := nI 2) hx hb dL_like_23 (by decide) ?_
  exact hret _ _ _ _ _ rfl hC hO hS dL_like_24
set_option maxHeartbeats 4000000 in
set_option maxRecDepth 100000 in
theorem L_cup_ok (l : Launch) (hl9 : l.stackTraces = false) (D : va_G) (st : Nat → Nat) (z : Ad) (oa : Nat) (cJ : ClassId) (hoa : ¬ AX z oa) (hDX : va_D (fun _ => True) (wX z 0 0 0 f00 f00 f00 (fun _ => f00) 0 (0, 0, 0, 0) (fun _ => 0))) (g : Int64) (ol sn hs : Nat) (T S : Nat → Int32) (G : Nat → Nat → Int32) (len : Nat) (ch : Nat → Nat) (hol : ol < 6) (hsn : sn ≤ 6) (B : Nat) (hI : Inv B T) (n : Nat) (hg : n < 8) (xc : Int32) (h1q : q_in (nI 10) (nI 40) xc = true) (ht : T (8 + n) ≤ xc) : q_H l yL_cup wsL_cup { frames := 8, cells := 1, slots := 6, locals := 127 } [.ref (z.o), .int (nI n), .int xc, .ref oa] st D z oa cJ (CS z D ol sn hs T S G len ch) g 0 (CS z D (so ol sn) (svn sn) hs (upd T n xc) S (updG G (sr ol sn) T) len ch) ((T n).toInt64) := by
  refine q_goH (cc := cL_cup) (maxL := 5) (hh := [(0, 10, 13, 13), (0, 10, 17, 15), (0, 10, 21, 21)]) (lv0 := [(0, .ref (z.o)), (1, .int (nI n)), (2, .int xc), (3, .ref oa)]) (by decide) rfl (Nat.le_of_ble_eq_true rfl) rfl ?_
  intro p e s m args below meth c Q ls hx hb hml hts hown hC hO hK hT hl htab hret
  obtain ⟨Y, P, hsm, hP⟩ := hC
  have hD := q_D2 (ws' := wX z ol sn hs T S Y G len P ch) hDX rfl
  have hS : va_S (AXo z oa) s.heap s.heap [] := va_S.rf
  refine lv_aload_n hx hb dL_cup_0 rfl (lv_at hl 3 rfl) ?_
  refine lv_iconst (v := nI 0) hx hb dL_cup_1 (by decide) ?_
  refine lv_aload_n hx hb dL_cup_2 rfl (lv_at hl 0 rfl) ?_
  refine lv_iload_n hx hb dL_cup_3 rfl (lv_at hl 1 rfl) ?_
  refine lv_iload_n hx hb dL_cup_4 rfl (lv_at hl 2 rfl) ?_
  refine q_ciK (BH := CS z D (so ol sn) (svn sn) hs (upd T n xc) S (updG G (sr ol sn) T) len ch) (va_runV (rm := { frames := 3, cells := 0, slots := 0, locals := 101 }) (As := [.int (nI n), .int xc]) (rest := [.int (nI 0), .ref oa]) ⟨hx, hb, hml, hown, hts⟩ (m2_cup_ok l D z ol sn hs hol hsn T S Y G len P ch B hI n hg xc h1q ht hD) (cwV 2 hts gL_cup_X2_cup rfl rfl rfl (by decide +kernel) ⟨Nat.le_of_ble_eq_true rfl, Nat.le_of_ble_eq_true rfl⟩) (q_pV (ci := 2) (q0 := 0) hP (hK.sub [0, 1] rfl) rfl rfl) rfl rfl hl.1 rfl (lv_room (Nat.le_of_ble_eq_true rfl)) dL_cup_5 ⟨Nat.le_of_ble_eq_true rfl, Nat.le_of_ble_eq_true rfl⟩) (fun t h => ⟨_, _, hsm, h⟩) hS (fun q h => Or.inl h) (fun x H locs ex hC hk hS => ?_)
  have hO := wO_kept hO hoa hk
  have ex : x = T n := ex
  refine lv_i2l (v := x.toInt64) hx hb dL_cup_8 rfl ?_
  refine q_lst0 hx hb hK hO hS 2 rfl (Or.inr rfl) dL_cup_9 (fun H locs hO hk hS => ?_)
  have hC := hC.kept (B := fun q => q = oa) (fun q h (e : q = oa) => hoa (e ▸ h)) hk
  refine lv_goto (tgt := 25) hx hb dL_cup_10 (by decide) ?_
  refine lv_iconst (v := nI 0) hx hb dL_cup_25 (by decide) ?_
  refine W.widen (k := 1) (n := 6) (Nat.le_of_ble_eq_true rfl) (Nat.le_of_ble_eq_true rfl) ?_
  rw [ex] at hO
  exact hret _ _ _ _ _ rfl hC hO hS dL_cup_26
set_option maxHeartbeats 4000000 in
set_option maxRecDepth 100000 in
theorem L_cup_1 (l : Launch) (hl9 : l.stackTraces = false) (D : va_G) (st : Nat → Nat) (z : Ad) (oa : Nat) (cJ : ClassId) (hoa : ¬ AX z oa) (hDX : va_D (fun _ => True) (wX z 0 0 0 f00 f00 f00 (fun _ => f00) 0 (0, 0, 0, 0) (fun _ => 0))) (g : Int64) (ol sn hs : Nat) (T S : Nat → Int32) (G : Nat → Nat → Int32) (len : Nat) (ch : Nat → Nat) (B : Nat) (hI : Inv B T) (x0 xc : Int32) (h0q : q_in (nI 0) (nI 7) x0 = false) : q_H l yL_cup wsL_cup { frames := 8, cells := 1, slots := 6, locals := 127 } [.ref (z.o), .int x0, .int xc, .ref oa] st D z oa cJ (CS z D ol sn hs T S G len ch) g 1 (CS z D ol sn hs T S G len ch) (g) := by
  refine q_goH (cc := cL_cup) (maxL := 5) (hh := [(0, 10, 13, 13), (0, 10, 17, 15), (0, 10, 21, 21)]) (lv0 := [(0, .ref (z.o)), (1, .int x0), (2, .int xc), (3, .ref oa)]) (by decide) rfl (Nat.le_of_ble_eq_true rfl) rfl ?_
  intro p e s m args below meth c Q ls hx hb hml hts hown hC hO hK hT hl htab hret
  obtain ⟨Y, P, hsm, hP⟩ := hC
  have hD := q_D2 (ws' := wX z ol sn hs T S Y G len P ch) hDX rfl
  have hS : va_S (AXo z oa) s.heap s.heap [] := va_S.rf
  refine lv_aload_n hx hb dL_cup_0 rfl (lv_at hl 3 rfl) ?_
  refine lv_iconst (v := nI 0) hx hb dL_cup_1 (by decide) ?_
  refine lv_aload_n hx hb dL_cup_2 rfl (lv_at hl 0 rfl) ?_
  refine lv_iload_n hx hb dL_cup_3 rfl (lv_at hl 1 rfl) ?_
  refine lv_iload_n hx hb dL_cup_4 rfl (lv_at hl 2 rfl) ?_
  refine q_ctch (E := xI.cls) (own := RL) (name := xI.cls) (hh := [(0, 10, 13, 13), (0, 10, 17, 15), (0, 10, 21, 21)]) (vx_runV (rm := { frames := 7, cells := 1, slots := 6, locals := 102 }) (As := [.int x0, .int xc]) (rest := [.int (nI 0), .ref oa]) ⟨hx, hb, hml, hown, hts⟩ (m2_cup_1 l hl9 D st z ol sn hs T S Y G len P ch B hI x0 xc h0q) (cwV 2 hts gL_cup_X2_cup rfl rfl rfl (by decide +kernel) ⟨Nat.le_of_ble_eq_true rfl, Nat.le_of_ble_eq_true rfl⟩) (q_pVX (ci := 2) (q0 := 0) hP (hK.sub [0, 1] rfl) hT.1 hS (fun q h => Or.inl h) rfl rfl) rfl rfl hl.1 rfl (lv_room (Nat.le_of_ble_eq_true rfl)) dL_cup_5 ⟨Nat.le_of_ble_eq_true rfl, Nat.le_of_ble_eq_true rfl⟩) hS (fun q h => h.elim) hown htab (tableOf []) ⟨0, 10, 13, 13⟩ (tableOf [(0, 10, 17, 15), (0, 10, 21, 21)]) rfl (fun _ h => nomatch h) rfl (by decide) (hts (.classLink RL 13 xI.cls) (by decide +kernel)) (va_Nw.use rfl hT.1.c1) (fun q H locs hP2 hk hS => ?_)
  have hC : CS z D ol sn hs T S G len ch H := ⟨_, _, hsm, hP2⟩
  have hO := wO_kept hO (fun h => h) hk
  refine lv_astore (lv' := [(4, .ref q), (0, .ref (z.o)), (1, .int x0), (2, .int xc), (3, .ref oa)]) hx hb dL_cup_13 hl (by decide) rfl (fun ls hl => ?_)
  refine lv_iconst (v := nI 1) hx hb dL_cup_15 (by decide) ?_
  exact hret _ _ _ _ _ rfl hC hO hS dL_cup_16
set_option maxHeartbeats 4000000 in
set_option maxRecDepth 100000 in
theorem L_cup_2 (l : Launch) (hl9 : l.stackTraces = false) (D : va_G) (st : Nat → Nat) (z : Ad) (oa : Nat) (cJ : ClassId) (hoa : ¬ AX z oa) (hDX : va_D (fun _ => True) (wX z 0 0 0 f00 f00 f00 (fun _ => f00) 0 (0, 0, 0, 0) (fun _ => 0))) (g : Int64) (ol sn hs : Nat) (T S : Nat → Int32) (G : Nat → Nat → Int32) (len : Nat) (ch : Nat → Nat) (B : Nat) (hI : Inv B T) (n : Nat) (hg : n < 8) (xc : Int32) (h1q : q_in (nI 10) (nI 40) xc = false) : q_H l yL_cup wsL_cup { frames := 8, cells := 1, slots := 6, locals := 127 } [.ref (z.o), .int (nI n), .int xc, .ref oa] st D z oa cJ (CS z D ol sn hs T S G len ch) g 2 (CS z D ol sn hs T S G len ch) (g) := by
  refine q_goH (cc := cL_cup) (maxL := 5) (hh := [(0, 10, 13, 13), (0, 10, 17, 15), (0, 10, 21, 21)]) (lv0 := [(0, .ref (z.o)), (1, .int (nI n)), (2, .int xc), (3, .ref oa)]) (by decide) rfl (Nat.le_of_ble_eq_true rfl) rfl ?_
  intro p e s m args below meth c Q ls hx hb hml hts hown hC hO hK hT hl htab hret
  obtain ⟨Y, P, hsm, hP⟩ := hC
  have hD := q_D2 (ws' := wX z ol sn hs T S Y G len P ch) hDX rfl
  have hS : va_S (AXo z oa) s.heap s.heap [] := va_S.rf
  refine lv_aload_n hx hb dL_cup_0 rfl (lv_at hl 3 rfl) ?_
  refine lv_iconst (v := nI 0) hx hb dL_cup_1 (by decide) ?_
  refine lv_aload_n hx hb dL_cup_2 rfl (lv_at hl 0 rfl) ?_
  refine lv_iload_n hx hb dL_cup_3 rfl (lv_at hl 1 rfl) ?_
  refine lv_iload_n hx hb dL_cup_4 rfl (lv_at hl 2 rfl) ?_
  refine q_ctch (E := xA.cls) (own := RL) (name := xA.cls) (hh := [(0, 10, 13, 13), (0, 10, 17, 15), (0, 10, 21, 21)]) (vx_runV (rm := { frames := 7, cells := 1, slots := 6, locals := 104 }) (As := [.int (nI n), .int xc]) (rest := [.int (nI 0), .ref oa]) ⟨hx, hb, hml, hown, hts⟩ (m2_cup_2 l hl9 D st z ol sn hs T S Y G len P ch B hI n hg xc h1q) (cwV 2 hts gL_cup_X2_cup rfl rfl rfl (by decide +kernel) ⟨Nat.le_of_ble_eq_true rfl, Nat.le_of_ble_eq_true rfl⟩) (q_pVX (ci := 2) (q0 := 0) hP (hK.sub [0, 1] rfl) hT.1 hS (fun q h => Or.inl h) rfl rfl) rfl rfl hl.1 rfl (lv_room (Nat.le_of_ble_eq_true rfl)) dL_cup_5 ⟨Nat.le_of_ble_eq_true rfl, Nat.le_of_ble_eq_true rfl⟩) hS (fun q h => h.elim) hown htab (tableOf [(0, 10, 13, 13)]) ⟨0, 10, 17, 15⟩ (tableOf [(0, 10, 21, 21)]) rfl (fun zz hz => by rw [List.mem_singleton.mp hz]; exact Or.inr ⟨by decide, xI.cls, hts _ (by decide +kernel), hT.2.1⟩) rfl (by decide) (hts (.classLink RL 15 xA.cls) (by decide +kernel)) (va_Nw.use rfl hT.1.c2) (fun q H locs hP2 hk hS => ?_)
  have hC : CS z D ol sn hs T S G len ch H := ⟨_, _, hsm, hP2⟩
  have hO := wO_kept hO (fun h => h) hk
  refine lv_astore (lv' := [(4, .ref q), (0, .ref (z.o)), (1, .int (nI n)), (2, .int xc), (3, .ref oa)]) hx hb dL_cup_17 hl (by decide) rfl (fun ls hl => ?_)
  refine lv_iconst (v := nI 2) hx hb dL_cup_19 (by decide) ?_
  exact hret _ _ _ _ _ rfl hC hO hS dL_cup_20
set_option maxHeartbeats 4000000 in
set_option maxRecDepth 100000 in
theorem L_cup_3 (l : Launch) (hl9 : l.stackTraces = false) (D : va_G) (st : Nat → Nat) (z : Ad) (oa : Nat) (cJ : ClassId) (hoa : ¬ AX z oa) (hDX : va_D (fun _ => True) (wX z 0 0 0 f00 f00 f00 (fun _ => f00) 0 (0, 0, 0, 0) (fun _ => 0))) (g : Int64) (ol sn hs : Nat) (T S : Nat → Int32) (G : Nat → Nat → Int32) (len : Nat) (ch : Nat → Nat) (B : Nat) (hI : Inv B T) (n : Nat) (hg : n < 8) (xc : Int32) (h1q : q_in (nI 10) (nI 40) xc = true) (ht : ¬ T (8 + n) ≤ xc) : q_H l yL_cup wsL_cup { frames := 8, cells := 1, slots := 6, locals := 127 } [.ref (z.o), .int (nI n), .int xc, .ref oa] st D z oa cJ (CS z D ol sn hs T S G len ch) g 3 (CS z D ol sn hs T S G len ch) (g) := by
  refine q_goH (cc := cL_cup) (maxL := 5) (hh := [(0, 10, 13, 13), (0, 10, 17, 15), (0, 10, 21, 21)]) (lv0 := [(0, .ref (z.o)), (1, .int (nI n)), (2, .int xc), (3, .ref oa)]) (by decide) rfl (Nat.le_of_ble_eq_true rfl) rfl ?_
  intro p e s m args below meth c Q ls hx hb hml hts hown hC hO hK hT hl htab hret
  obtain ⟨Y, P, hsm, hP⟩ := hC
  have hD := q_D2 (ws' := wX z ol sn hs T S Y G len P ch) hDX rfl
  have hS : va_S (AXo z oa) s.heap s.heap [] := va_S.rf
  refine lv_aload_n hx hb dL_cup_0 rfl (lv_at hl 3 rfl) ?_
  refine lv_iconst (v := nI 0) hx hb dL_cup_1 (by decide) ?_
  refine lv_aload_n hx hb dL_cup_2 rfl (lv_at hl 0 rfl) ?_
  refine lv_iload_n hx hb dL_cup_3 rfl (lv_at hl 1 rfl) ?_
  refine lv_iload_n hx hb dL_cup_4 rfl (lv_at hl 2 rfl) ?_
  refine q_ctch (E := xS.cls) (own := RL) (name := xS.cls) (hh := [(0, 10, 13, 13), (0, 10, 17, 15), (0, 10, 21, 21)]) (vx_runV (rm := { frames := 6, cells := 1, slots := 6, locals := 82 }) (As := [.int (nI n), .int xc]) (rest := [.int (nI 0), .ref oa]) ⟨hx, hb, hml, hown, hts⟩ (m2_cup_3 l hl9 D st z ol sn hs T S Y G len P ch B hI n hg xc h1q ht) (cwV 2 hts gL_cup_X2_cup rfl rfl rfl (by decide +kernel) ⟨Nat.le_of_ble_eq_true rfl, Nat.le_of_ble_eq_true rfl⟩) (q_pVX (ci := 2) (q0 := 0) hP (hK.sub [0, 1] rfl) hT.1 hS (fun q h => Or.inl h) rfl rfl) rfl rfl hl.1 rfl (lv_room (Nat.le_of_ble_eq_true rfl)) dL_cup_5 ⟨Nat.le_of_ble_eq_true rfl, Nat.le_of_ble_eq_true rfl⟩) hS (fun q h => h.elim) hown htab (tableOf [(0, 10, 13, 13), (0, 10, 17, 15)]) ⟨0, 10, 21, 21⟩ (tableOf []) rfl (fun zz hz => (List.mem_cons.mp hz).elim (fun e => by rw [e]; exact Or.inr ⟨by decide, xI.cls, hts _ (by decide +kernel), hT.2.2.1⟩) (fun hz => by rw [List.mem_singleton.mp hz]; exact Or.inr ⟨by decide, xA.cls, hts _ (by decide +kernel), hT.2.2.2⟩)) rfl (by decide) (hts (.classLink RL 21 xS.cls) (by decide +kernel)) (va_Nw.use rfl hT.1.c3) (fun q H locs hP2 hk hS => ?_)
  have hC : CS z D ol sn hs T S G len ch H := ⟨_, _, hsm, hP2⟩
  have hO := wO_kept hO (fun h => h) hk
  refine lv_astore (lv' := [(4, .ref q), (0, .ref (z.o)), (1, .int (nI n)), (2, .int xc), (3, .ref oa)]) hx hb dL_cup_21 hl (by decide) rfl (fun ls hl => ?_)
  refine lv_iconst (v := nI 3) hx hb dL_cup_23 (by decide) ?_
  exact hret _ _ _ _ _ rfl hC hO hS dL_cup_24
set_option maxHeartbeats 4000000 in
set_option maxRecDepth 100000 in
theorem L_sip_ok (l : Launch) (hl9 : l.stackTraces = false) (D : va_G) (st : Nat → Nat) (z : Ad) (oa : Nat) (cJ : ClassId) (hoa : ¬ AX z oa) (hDX : va_D (fun _ => True) (wX z 0 0 0 f00 f00 f00 (fun _ => f00) 0 (0, 0, 0, 0) (fun _ => 0))) (g : Int64) (ol sn hs : Nat) (T S : Nat → Int32) (G : Nat → Nat → Int32) (len : Nat) (ch : Nat → Nat) (hol : ol < 6) (hsn : sn ≤ 6) (B : Nat) (hI : Inv B T) (n : Nat) (hg : n < 8) : q_H l yL_sip wsL_sip { frames := 8, cells := 1, slots := 6, locals := 123 } [.ref (z.o), .int (nI n), .ref oa] st D z oa cJ (CS z D ol sn hs T S G len ch) g 0 (CS z D (so ol sn) (svn sn) hs (g_drink T n) S (updG G (sr ol sn) T) len ch) ((g_dr T n).toInt64) := by
  refine q_goH (cc := cL_sip) (maxL := 4) (hh := [(0, 9, 12, 13)]) (lv0 := [(0, .ref (z.o)), (1, .int (nI n)), (2, .ref oa)]) (by decide) rfl (Nat.le_of_ble_eq_true rfl) rfl ?_
  intro p e s m args below meth c Q ls hx hb hml hts hown hC hO hK hT hl htab hret
  obtain ⟨Y, P, hsm, hP⟩ := hC
  have hD := q_D2 (ws' := wX z ol sn hs T S Y G len P ch) hDX rfl
  have hS : va_S (AXo z oa) s.heap s.heap [] := va_S.rf
  refine lv_aload_n hx hb dL_sip_0 rfl (lv_at hl 2 rfl) ?_
  refine lv_iconst (v := nI 0) hx hb dL_sip_1 (by decide) ?_
  refine lv_aload_n hx hb dL_sip_2 rfl (lv_at hl 0 rfl) ?_
  refine lv_iload_n hx hb dL_sip_3 rfl (lv_at hl 1 rfl) ?_
  refine q_ciK (BH := CS z D (so ol sn) (svn sn) hs (g_drink T n) S (updG G (sr ol sn) T) len ch) (va_runV (rm := { frames := 3, cells := 0, slots := 0, locals := 101 }) (As := [.int (nI n)]) (rest := [.int (nI 0), .ref oa]) ⟨hx, hb, hml, hown, hts⟩ (m2_sip_ok l D z ol sn hs hol hsn T S Y G len P ch B hI n hg hD) (cwV 1 hts gL_sip_X2_sip rfl rfl rfl (by decide +kernel) ⟨Nat.le_of_ble_eq_true rfl, Nat.le_of_ble_eq_true rfl⟩) (q_pV (ci := 2) (q0 := 0) hP (hK.sub [0, 1] rfl) rfl rfl) rfl rfl hl.1 rfl (lv_room (Nat.le_of_ble_eq_true rfl)) dL_sip_4 ⟨Nat.le_of_ble_eq_true rfl, Nat.le_of_ble_eq_true rfl⟩) (fun t h => ⟨_, _, hsm, h⟩) hS (fun q h => Or.inl h) (fun x H locs ex hC hk hS => ?_)
  have hO := wO_kept hO hoa hk
  have ex : x = g_dr T n := ex
  refine lv_i2l (v := x.toInt64) hx hb dL_sip_7 rfl ?_
  refine q_lst0 hx hb hK hO hS 2 rfl (Or.inr rfl) dL_sip_8 (fun H locs hO hk hS => ?_)
  have hC := hC.kept (B := fun q => q = oa) (fun q h (e : q = oa) => hoa (e ▸ h)) hk
  refine lv_goto (tgt := 15) hx hb dL_sip_9 (by decide) ?_
  refine lv_iconst (v := nI 0) hx hb dL_sip_15 (by decide) ?_
  refine W.widen (k := 1) (n := 6) (Nat.le_of_ble_eq_true rfl) (Nat.le_of_ble_eq_true rfl) ?_
  rw [ex] at hO
  exact hret _ _ _ _ _ rfl hC hO hS dL_sip_16
set_option maxHeartbeats 4000000 in
set_option maxRecDepth 100000 in
theorem L_sip_1 (l : Launch) (hl9 : l.stackTraces = false) (D : va_G) (st : Nat → Nat) (z : Ad) (oa : Nat) (cJ : ClassId) (hoa : ¬ AX z oa) (hDX : va_D (fun _ => True) (wX z 0 0 0 f00 f00 f00 (fun _ => f00) 0 (0, 0, 0, 0) (fun _ => 0))) (g : Int64) (ol sn hs : Nat) (T S : Nat → Int32) (G : Nat → Nat → Int32) (len : Nat) (ch : Nat → Nat) (B : Nat) (hI : Inv B T) (x0 : Int32) (h0q : q_in (nI 0) (nI 7) x0 = false) : q_H l yL_sip wsL_sip { frames := 8, cells := 1, slots := 6, locals := 123 } [.ref (z.o), .int x0, .ref oa] st D z oa cJ (CS z D ol sn hs T S G len ch) g 1 (CS z D ol sn hs T S G len ch) (g) := by
  refine q_goH (cc := cL_sip) (maxL := 4) (hh := [(0, 9, 12, 13)]) (lv0 := [(0, .ref (z.o)), (1, .int x0), (2, .ref oa)]) (by decide) rfl (Nat.le_of_ble_eq_true rfl) rfl ?_
  intro p e s m args below meth c Q ls hx hb hml hts hown hC hO hK hT hl htab hret
  obtain ⟨Y, P, hsm, hP⟩ := hC
  have hD := q_D2 (ws' := wX z ol sn hs T S Y G len P ch) hDX rfl
  have hS : va_S (AXo z oa) s.heap s.heap [] := va_S.rf
  refine lv_aload_n hx hb dL_sip_0 rfl (lv_at hl 2 rfl) ?_
  refine lv_iconst (v := nI 0) hx hb dL_sip_1 (by decide) ?_
  refine lv_aload_n hx hb dL_sip_2 rfl (lv_at hl 0 rfl) ?_
  refine lv_iload_n hx hb dL_sip_3 rfl (lv_at hl 1 rfl) ?_
  refine q_ctch (E := xI.cls) (own := RL) (name := xI.cls) (hh := [(0, 9, 12, 13)]) (vx_runV (rm := { frames := 7, cells := 1, slots := 6, locals := 102 }) (As := [.int x0]) (rest := [.int (nI 0), .ref oa]) ⟨hx, hb, hml, hown, hts⟩ (m2_sip_1 l hl9 D st z ol sn hs T S Y G len P ch B hI x0 h0q) (cwV 1 hts gL_sip_X2_sip rfl rfl rfl (by decide +kernel) ⟨Nat.le_of_ble_eq_true rfl, Nat.le_of_ble_eq_true rfl⟩) (q_pVX (ci := 2) (q0 := 0) hP (hK.sub [0, 1] rfl) hT.1 hS (fun q h => Or.inl h) rfl rfl) rfl rfl hl.1 rfl (lv_room (Nat.le_of_ble_eq_true rfl)) dL_sip_4 ⟨Nat.le_of_ble_eq_true rfl, Nat.le_of_ble_eq_true rfl⟩) hS (fun q h => h.elim) hown htab (tableOf []) ⟨0, 9, 12, 13⟩ (tableOf []) rfl (fun _ h => nomatch h) rfl (by decide) (hts (.classLink RL 13 xI.cls) (by decide +kernel)) (va_Nw.use rfl hT.1.c1) (fun q H locs hP2 hk hS => ?_)
  have hC : CS z D ol sn hs T S G len ch H := ⟨_, _, hsm, hP2⟩
  have hO := wO_kept hO (fun h => h) hk
  refine lv_astore_n (lv' := [(3, .ref q), (0, .ref (z.o)), (1, .int x0), (2, .ref oa)]) hx hb dL_sip_12 rfl hl (by decide) rfl (fun ls hl => ?_)
  refine lv_iconst (v := nI 1) hx hb dL_sip_13 (by decide) ?_
  exact hret _ _ _ _ _ rfl hC hO hS dL_sip_14
set_option maxHeartbeats 4000000 in
set_option maxRecDepth 100000 in
theorem L_brew_ok (l : Launch) (hl9 : l.stackTraces = false) (D : va_G) (st : Nat → Nat) (z : Ad) (oa : Nat) (cJ : ClassId) (hoa : ¬ AX z oa) (hDX : va_D (fun _ => True) (wX z 0 0 0 f00 f00 f00 (fun _ => f00) 0 (0, 0, 0, 0) (fun _ => 0))) (g : Int64) (ol sn hs : Nat) (T S : Nat → Int32) (G : Nat → Nat → Int32) (len : Nat) (ch : Nat → Nat) (hol : ol < 6) (hsn : sn ≤ 6) (B : Nat) (hI : Inv B T) (n : Nat) (hk : n < 3) (xt : Int32) (h1q : q_in (nI 1) (nI 200) xt = true) (ht : T (75 + n) + xt ≤ nI 200) : q_H l yL_brew wsL_brew { frames := 8, cells := 1, slots := 6, locals := 126 } [.ref (z.o), .int (nI n), .int xt, .ref oa] st D z oa cJ (CS z D ol sn hs T S G len ch) g 0 (CS z D (so ol sn) (svn sn) hs (g_brew T n xt) S (updG G (sr ol sn) T) len ch) ((g_brew T n xt (75 + n)).toInt64) := by
  refine q_goH (cc := cL_brew) (maxL := 5) (hh := [(0, 10, 13, 13), (0, 10, 17, 15), (0, 10, 21, 21)]) (lv0 := [(0, .ref (z.o)), (1, .int (nI n)), (2, .int xt), (3, .ref oa)]) (by decide) rfl (Nat.le_of_ble_eq_true rfl) rfl ?_
  intro p e s m args below meth c Q ls hx hb hml hts hown hC hO hK hT hl htab hret
  obtain ⟨Y, P, hsm, hP⟩ := hC
  have hD := q_D2 (ws' := wX z ol sn hs T S Y G len P ch) hDX rfl
  have hS : va_S (AXo z oa) s.heap s.heap [] := va_S.rf
  refine lv_aload_n hx hb dL_brew_0 rfl (lv_at hl 3 rfl) ?_
  refine lv_iconst (v := nI 0) hx hb dL_brew_1 (by decide) ?_
  refine lv_aload_n hx hb dL_brew_2 rfl (lv_at hl 0 rfl) ?_
  refine lv_iload_n hx hb dL_brew_3 rfl (lv_at hl 1 rfl) ?_
  refine lv_iload_n hx hb dL_brew_4 rfl (lv_at hl 2 rfl) ?_
  refine q_ciK (BH := CS z D (so ol sn) (svn sn) hs (g_brew T n xt) S (updG G (sr ol sn) T) len ch) (va_runV (rm := { frames := 3, cells := 0, slots := 0, locals := 101 }) (As := [.int (nI n), .int xt]) (rest := [.int (nI 0), .ref oa]) ⟨hx, hb, hml, hown, hts⟩ (m2_brew_ok l D z ol sn hs hol hsn T S Y G len P ch B hI n hk xt h1q ht hD) (cwV 2 hts gL_brew_X2_brew rfl rfl rfl (by decide +kernel) ⟨Nat.le_of_ble_eq_true rfl, Nat.le_of_ble_eq_true rfl⟩) (q_pV (ci := 2) (q0 := 0) hP (hK.sub [0, 1] rfl) rfl rfl) rfl rfl hl.1 rfl (lv_room (Nat.le_of_ble_eq_true rfl)) dL_brew_5 ⟨Nat.le_of_ble_eq_true rfl, Nat.le_of_ble_eq_true rfl⟩) (fun t h => ⟨_, _, hsm, h⟩) hS (fun q h => Or.inl h) (fun x H locs ex hC hk hS => ?_)
  have hO := wO_kept hO hoa hk
  have ex : x = g_brew T n xt (75 + n) := ex
  refine lv_i2l (v := x.toInt64) hx hb dL_brew_8 rfl ?_
  refine q_lst0 hx hb hK hO hS 2 rfl (Or.inr rfl) dL_brew_9 (fun H locs hO hk hS => ?_)
  have hC := hC.kept (B := fun q => q = oa) (fun q h (e : q = oa) => hoa (e ▸ h)) hk
  refine lv_goto (tgt := 25) hx hb dL_brew_10 (by decide) ?_
  refine lv_iconst (v := nI 0) hx hb dL_brew_25 (by decide) ?_
  refine W.widen (k := 1) (n := 6) (Nat.le_of_ble_eq_true rfl) (Nat.le_of_ble_eq_true rfl) ?_
  rw [ex] at hO
  exact hret _ _ _ _ _ rfl hC hO hS dL_brew_26
set_option maxHeartbeats 4000000 in
set_option maxRecDepth 100000 in
theorem L_brew_1 (l : Launch) (hl9 : l.stackTraces = false) (D : va_G) (st : Nat → Nat) (z : Ad) (oa : Nat) (cJ : ClassId) (hoa : ¬ AX z oa) (hDX : va_D (fun _ => True) (wX z 0 0 0 f00 f00 f00 (fun _ => f00) 0 (0, 0, 0, 0) (fun _ => 0))) (g : Int64) (ol sn hs : Nat) (T S : Nat → Int32) (G : Nat → Nat → Int32) (len : Nat) (ch : Nat → Nat) (B : Nat) (hI : Inv B T) (x0 xt : Int32) (h0q : q_in (nI 0) (nI 2) x0 = false) : q_H l yL_brew wsL_brew { frames := 8, cells := 1, slots := 6, locals := 126 } [.ref (z.o), .int x0, .int xt, .ref oa] st D z oa cJ (CS z D ol sn hs T S G len ch) g 1 (CS z D ol sn hs T S G len ch) (g) := by
  refine q_goH (cc := cL_brew) (maxL := 5) (hh := [(0, 10, 13, 13), (0, 10, 17, 15), (0, 10, 21, 21)]) (lv0 := [(0, .ref (z.o)), (1, .int x0), (2, .int xt), (3, .ref oa)]) (by decide) rfl (Nat.le_of_ble_eq_true rfl) rfl ?_
  intro p e s m args below meth c Q ls hx hb hml hts hown hC hO hK hT hl htab hret
  obtain ⟨Y, P, hsm, hP⟩ := hC
  have hD := q_D2 (ws' := wX z ol sn hs T S Y G len P ch) hDX rfl
  have hS : va_S (AXo z oa) s.heap s.heap [] := va_S.rf
  refine lv_aload_n hx hb dL_brew_0 rfl (lv_at hl 3 rfl) ?_
  refine lv_iconst (v := nI 0) hx hb dL_brew_1 (by decide) ?_
  refine lv_aload_n hx hb dL_brew_2 rfl (lv_at hl 0 rfl) ?_
  refine lv_iload_n hx hb dL_brew_3 rfl (lv_at hl 1 rfl) ?_
  refine lv_iload_n hx hb dL_brew_4 rfl (lv_at hl 2 rfl) ?_
  refine q_ctch (E := xI.cls) (own := RL) (name := xI.cls) (hh := [(0, 10, 13, 13), (0, 10, 17, 15), (0, 10, 21, 21)]) (vx_runV (rm := { frames := 7, cells := 1, slots := 6, locals := 102 }) (As := [.int x0, .int xt]) (rest := [.int (nI 0), .ref oa]) ⟨hx, hb, hml, hown, hts⟩ (m2_brew_1 l hl9 D st z ol sn hs T S Y G len P ch B hI x0 xt h0q) (cwV 2 hts gL_brew_X2_brew rfl rfl rfl (by decide +kernel) ⟨Nat.le_of_ble_eq_true rfl, Nat.le_of_ble_eq_true rfl⟩) (q_pVX (ci := 2) (q0 := 0) hP (hK.sub [0, 1] rfl) hT.1 hS (fun q h => Or.inl h) rfl rfl) rfl rfl hl.1 rfl (lv_room (Nat.le_of_ble_eq_true rfl)) dL_brew_5 ⟨Nat.le_of_ble_eq_true rfl, Nat.le_of_ble_eq_true rfl⟩) hS (fun q h => h.elim) hown htab (tableOf []) ⟨0, 10, 13, 13⟩ (tableOf [(0, 10, 17, 15), (0, 10, 21, 21)]) rfl (fun _ h => nomatch h) rfl (by decide) (hts (.classLink RL 13 xI.cls) (by decide +kernel)) (va_Nw.use rfl hT.1.c1) (fun q H locs hP2 hk hS => ?_)
  have hC : CS z D ol sn hs T S G len ch H := ⟨_, _, hsm, hP2⟩
  have hO := wO_kept hO (fun h => h) hk
  refine lv_astore (lv' := [(4, .ref q), (0, .ref (z.o)), (1, .int x0), (2, .int xt), (3, .ref oa)]) hx hb dL_brew_13 hl (by decide) rfl (fun ls hl => ?_)
  refine lv_iconst (v := nI 1) hx hb dL_brew_15 (by decide) ?_
  exact hret _ _ _ _ _ rfl hC hO hS dL_brew_16
set_option maxHeartbeats 4000000 in
set_option maxRecDepth 100000 in
theorem L_brew_2 (l : Launch) (hl9 : l.stackTraces = false) (D : va_G) (st : Nat → Nat) (z : Ad) (oa : Nat) (cJ : ClassId) (hoa : ¬ AX z oa) (hDX : va_D (fun _ => True) (wX z 0 0 0 f00 f00 f00 (fun _ => f00) 0 (0, 0, 0, 0) (fun _ => 0))) (g : Int64) (ol sn hs : Nat) (T S : Nat → Int32) (G : Nat → Nat → Int32) (len : Nat) (ch : Nat → Nat) (B : Nat) (hI : Inv B T) (n : Nat) (hk : n < 3) (xt : Int32) (h1q : q_in (nI 1) (nI 200) xt = false) : q_H l yL_brew wsL_brew { frames := 8, cells := 1, slots := 6, locals := 126 } [.ref (z.o), .int (nI n), .int xt, .ref oa] st D z oa cJ (CS z D ol sn hs T S G len ch) g 2 (CS z D ol sn hs T S G len ch) (g) := by
  refine q_goH (cc := cL_brew) (maxL := 5) (hh := [(0, 10, 13, 13), (0, 10, 17, 15), (0, 10, 21, 21)]) (lv0 := [(0, .ref (z.o)), (1, .int (nI n)), (2, .int xt), (3, .ref oa)]) (by decide) rfl (Nat.le_of_ble_eq_true rfl) rfl ?_
  intro p e s m args below meth c Q ls hx hb hml hts hown hC hO hK hT hl htab hret
  obtain ⟨Y, P, hsm, hP⟩ := hC
  have hD := q_D2 (ws' := wX z ol sn hs T S Y G len P ch) hDX rfl
  have hS : va_S (AXo z oa) s.heap s.heap [] := va_S.rf
  refine lv_aload_n hx hb dL_brew_0 rfl (lv_at hl 3 rfl) ?_
  refine lv_iconst (v := nI 0) hx hb dL_brew_1 (by decide) ?_
  refine lv_aload_n hx hb dL_brew_2 rfl (lv_at hl 0 rfl) ?_
  refine lv_iload_n hx hb dL_brew_3 rfl (lv_at hl 1 rfl) ?_
  refine lv_iload_n hx hb dL_brew_4 rfl (lv_at hl 2 rfl) ?_
  refine q_ctch (E := xA.cls) (own := RL) (name := xA.cls) (hh := [(0, 10, 13, 13), (0, 10, 17, 15), (0, 10, 21, 21)]) (vx_runV (rm := { frames := 7, cells := 1, slots := 6, locals := 104 }) (As := [.int (nI n), .int xt]) (rest := [.int (nI 0), .ref oa]) ⟨hx, hb, hml, hown, hts⟩ (m2_brew_2 l hl9 D st z ol sn hs T S Y G len P ch B hI n hk xt h1q) (cwV 2 hts gL_brew_X2_brew rfl rfl rfl (by decide +kernel) ⟨Nat.le_of_ble_eq_true rfl, Nat.le_of_ble_eq_true rfl⟩) (q_pVX (ci := 2) (q0 := 0) hP (hK.sub [0, 1] rfl) hT.1 hS (fun q h => Or.inl h) rfl rfl) rfl rfl hl.1 rfl (lv_room (Nat.le_of_ble_eq_true rfl)) dL_brew_5 ⟨Nat.le_of_ble_eq_true rfl, Nat.le_of_ble_eq_true rfl⟩) hS (fun q h => h.elim) hown htab (tableOf [(0, 10, 13, 13)]) ⟨0, 10, 17, 15⟩ (tableOf [(0, 10, 21, 21)]) rfl (fun zz hz => by rw [List.mem_singleton.mp hz]; exact Or.inr ⟨by decide, xI.cls, hts _ (by decide +kernel), hT.2.1⟩) rfl (by decide) (hts (.classLink RL 15 xA.cls) (by decide +kernel)) (va_Nw.use rfl hT.1.c2) (fun q H locs hP2 hk hS => ?_)
  have hC : CS z D ol sn hs T S G len ch H := ⟨_, _, hsm, hP2⟩
  have hO := wO_kept hO (fun h => h) hk
  refine lv_astore (lv' := [(4, .ref q), (0, .ref (z.o)), (1, .int (nI n)), (2, .int xt), (3, .ref oa)]) hx hb dL_brew_17 hl (by decide) rfl (fun ls hl => ?_)
  refine lv_iconst (v := nI 2) hx hb dL_brew_19 (by decide) ?_
  exact hret _ _ _ _ _ rfl hC hO hS dL_brew_20
set_option maxHeartbeats 4000000 in
set_option maxRecDepth 100000 in
theorem L_brew_3 (l : Launch) (hl9 : l.stackTraces = false) (D : va_G) (st : Nat → Nat) (z : Ad) (oa : Nat) (cJ : ClassId) (hoa : ¬ AX z oa) (hDX : va_D (fun _ => True) (wX z 0 0 0 f00 f00 f00 (fun _ => f00) 0 (0, 0, 0, 0) (fun _ => 0))) (g : Int64) (ol sn hs : Nat) (T S : Nat → Int32) (G : Nat → Nat → Int32) (len : Nat) (ch : Nat → Nat) (B : Nat) (hI : Inv B T) (n : Nat) (hk : n < 3) (xt : Int32) (h1q : q_in (nI 1) (nI 200) xt = true) (ht : ¬ T (75 + n) + xt ≤ nI 200) : q_H l yL_brew wsL_brew { frames := 8, cells := 1, slots := 6, locals := 126 } [.ref (z.o), .int (nI n), .int xt, .ref oa] st D z oa cJ (CS z D ol sn hs T S G len ch) g 3 (CS z D ol sn hs T S G len ch) (g) := by
  refine q_goH (cc := cL_brew) (maxL := 5) (hh := [(0, 10, 13, 13), (0, 10, 17, 15), (0, 10, 21, 21)]) (lv0 := [(0, .ref (z.o)), (1, .int (nI n)), (2, .int xt), (3, .ref oa)]) (by decide) rfl (Nat.le_of_ble_eq_true rfl) rfl ?_
  intro p e s m args below meth c Q ls hx hb hml hts hown hC hO hK hT hl htab hret
  obtain ⟨Y, P, hsm, hP⟩ := hC
  have hD := q_D2 (ws' := wX z ol sn hs T S Y G len P ch) hDX rfl
  have hS : va_S (AXo z oa) s.heap s.heap [] := va_S.rf
  refine lv_aload_n hx hb dL_brew_0 rfl (lv_at hl 3 rfl) ?_
  refine lv_iconst (v := nI 0) hx hb dL_brew_1 (by decide) ?_
  refine lv_aload_n hx hb dL_brew_2 rfl (lv_at hl 0 rfl) ?_
  refine lv_iload_n hx hb dL_brew_3 rfl (lv_at hl 1 rfl) ?_
  refine lv_iload_n hx hb dL_brew_4 rfl (lv_at hl 2 rfl) ?_
  refine q_ctch (E := xS.cls) (own := RL) (name := xS.cls) (hh := [(0, 10, 13, 13), (0, 10, 17, 15), (0, 10, 21, 21)]) (vx_runV (rm := { frames := 6, cells := 1, slots := 6, locals := 82 }) (As := [.int (nI n), .int xt]) (rest := [.int (nI 0), .ref oa]) ⟨hx, hb, hml, hown, hts⟩ (m2_brew_3 l hl9 D st z ol sn hs T S Y G len P ch B hI n hk xt h1q ht) (cwV 2 hts gL_brew_X2_brew rfl rfl rfl (by decide +kernel) ⟨Nat.le_of_ble_eq_true rfl, Nat.le_of_ble_eq_true rfl⟩) (q_pVX (ci := 2) (q0 := 0) hP (hK.sub [0, 1] rfl) hT.1 hS (fun q h => Or.inl h) rfl rfl) rfl rfl hl.1 rfl (lv_room (Nat.le_of_ble_eq_true rfl)) dL_brew_5 ⟨Nat.le_of_ble_eq_true rfl, Nat.le_of_ble_eq_true rfl⟩) hS (fun q h => h.elim) hown htab (tableOf [(0, 10, 13, 13), (0, 10, 17, 15)]) ⟨0, 10, 21, 21⟩ (tableOf []) rfl (fun zz hz => (List.mem_cons.mp hz).elim (fun e => by rw [e]; exact Or.inr ⟨by decide, xI.cls, hts _ (by decide +kernel), hT.2.2.1⟩) (fun hz => by rw [List.mem_singleton.mp hz]; exact Or.inr ⟨by decide, xA.cls, hts _ (by decide +kernel), hT.2.2.2⟩)) rfl (by decide) (hts (.classLink RL 21 xS.cls) (by decide +kernel)) (va_Nw.use rfl hT.1.c3) (fun q H locs hP2 hk hS => ?_)
  have hC : CS z D ol sn hs T S G len ch H := ⟨_, _, hsm, hP2⟩
  have hO := wO_kept hO (fun h => h) hk
  refine lv_astore (lv' := [(4, .ref q), (0, .ref (z.o)), (1, .int (nI n)), (2, .int xt), (3, .ref oa)]) hx hb dL_brew_21 hl (by decide) rfl (fun ls hl => ?_)
  refine lv_iconst (v := nI 3) hx hb dL_brew_23 (by decide) ?_
  exact hret _ _ _ _ _ rfl hC hO hS dL_brew_24
set_option maxHeartbeats 4000000 in
set_option maxRecDepth 100000 in
theorem L_pour_ok (l : Launch) (hl9 : l.stackTraces = false) (D : va_G) (st : Nat → Nat) (z : Ad) (oa : Nat) (cJ : ClassId) (hoa : ¬ AX z oa) (hDX : va_D (fun _ => True) (wX z 0 0 0 f00 f00 f00 (fun _ => f00) 0 (0, 0, 0, 0) (fun _ => 0))) (g : Int64) (ol sn hs : Nat) (T S : Nat → Int32) (G : Nat → Nat → Int32) (len : Nat) (ch : Nat → Nat) (hol : ol < 6) (hsn : sn ≤ 6) (B : Nat) (hI : Inv B T) (n : Nat) (hk : n < 3) (hw : g_wy T n = 0) : q_H l yL_pour wsL_pour { frames := 8, cells := 1, slots := 6, locals := 123 } [.ref (z.o), .int (nI n), .ref oa] st D z oa cJ (CS z D ol sn hs T S G len ch) g 0 (CS z D (so ol sn) (svn sn) hs (g_pour T n) S (updG G (sr ol sn) T) len ch) ((g_ov T n).toInt64) := by
  refine q_goH (cc := cL_pour) (maxL := 4) (hh := [(0, 9, 12, 13), (0, 9, 15, 21)]) (lv0 := [(0, .ref (z.o)), (1, .int (nI n)), (2, .ref oa)]) (by decide) rfl (Nat.le_of_ble_eq_true rfl) rfl ?_
  intro p e s m args below meth c Q ls hx hb hml hts hown hC hO hK hT hl htab hret
  obtain ⟨Y, P, hsm, hP⟩ := hC
  have hD := q_D2 (ws' := wX z ol sn hs T S Y G len P ch) hDX rfl
  have hS : va_S (AXo z oa) s.heap s.heap [] := va_S.rf
  refine lv_aload_n hx hb dL_pour_0 rfl (lv_at hl 2 rfl) ?_
  refine lv_iconst (v := nI 0) hx hb dL_pour_1 (by decide) ?_
  refine lv_aload_n hx hb dL_pour_2 rfl (lv_at hl 0 rfl) ?_
  refine lv_iload_n hx hb dL_pour_3 rfl (lv_at hl 1 rfl) ?_
  refine q_ciK (BH := CS z D (so ol sn) (svn sn) hs (g_pour T n) S (updG G (sr ol sn) T) len ch) (va_runV (rm := { frames := 4, cells := 0, slots := 0, locals := 101 }) (As := [.int (nI n)]) (rest := [.int (nI 0), .ref oa]) ⟨hx, hb, hml, hown, hts⟩ (m2_pour_ok l D z ol sn hs hol hsn T S Y G len P ch B hI n hk hw hD) (cwV 1 hts gL_pour_X2_pour rfl rfl rfl (by decide +kernel) ⟨Nat.le_of_ble_eq_true rfl, Nat.le_of_ble_eq_true rfl⟩) (q_pV (ci := 2) (q0 := 0) hP (hK.sub [0, 1] rfl) rfl rfl) rfl rfl hl.1 rfl (lv_room (Nat.le_of_ble_eq_true rfl)) dL_pour_4 ⟨Nat.le_of_ble_eq_true rfl, Nat.le_of_ble_eq_true rfl⟩) (fun t h => ⟨_, _, hsm, h⟩) hS (fun q h => Or.inl h) (fun x H locs ex hC hk hS => ?_)
  have hO := wO_kept hO hoa hk
  have ex : x = g_ov T n := ex
  refine lv_i2l (v := x.toInt64) hx hb dL_pour_7 rfl ?_
  refine q_lst0 hx hb hK hO hS 2 rfl (Or.inr rfl) dL_pour_8 (fun H locs hO hk hS => ?_)
  have hC := hC.kept (B := fun q => q = oa) (fun q h (e : q = oa) => hoa (e ▸ h)) hk
  refine lv_goto (tgt := 18) hx hb dL_pour_9 (by decide) ?_
  refine lv_iconst (v := nI 0) hx hb dL_pour_18 (by decide) ?_
  refine W.widen (k := 1) (n := 6) (Nat.le_of_ble_eq_true rfl) (Nat.le_of_ble_eq_true rfl) ?_
  rw [ex] at hO
  exact hret _ _ _ _ _ rfl hC hO hS dL_pour_19
set_option maxHeartbeats 4000000 in
set_option maxRecDepth 100000 in
theorem L_pour_1 (l : Launch) (hl9 : l.stackTraces = false) (D : va_G) (st : Nat → Nat) (z : Ad) (oa : Nat) (cJ : ClassId) (hoa : ¬ AX z oa) (hDX : va_D (fun _ => True) (wX z 0 0 0 f00 f00 f00 (fun _ => f00) 0 (0, 0, 0, 0) (fun _ => 0))) (g : Int64) (ol sn hs : Nat) (T S : Nat → Int32) (G : Nat → Nat → Int32) (len : Nat) (ch : Nat → Nat) (B : Nat) (hI : Inv B T) (x0 : Int32) (h0q : q_in (nI 0) (nI 2) x0 = false) : q_H l yL_pour wsL_pour { frames := 8, cells := 1, slots := 6, locals := 123 } [.ref (z.o), .int x0, .ref oa] st D z oa cJ (CS z D ol sn hs T S G len ch) g 1 (CS z D ol sn hs T S G len ch) (g) := by
  refine q_goH (cc := cL_pour) (maxL := 4) (hh := [(0, 9, 12, 13), (0, 9, 15, 21)]) (lv0 := [(0, .ref (z.o)), (1, .int x0), (2, .ref oa)]) (by decide) rfl (Nat.le_of_ble_eq_true rfl) rfl ?_
  intro p e s m args below meth c Q ls hx hb hml hts hown hC hO hK hT hl htab hret
  obtain ⟨Y, P, hsm, hP⟩ := hC
  have hD := q_D2 (ws' := wX z ol sn hs T S Y G len P ch) hDX rfl
  have hS : va_S (AXo z oa) s.heap s.heap [] := va_S.rf
  refine lv_aload_n hx hb dL_pour_0 rfl (lv_at hl 2 rfl) ?_
  refine lv_iconst (v := nI 0) hx hb dL_pour_1 (by decide) ?_
  refine lv_aload_n hx hb dL_pour_2 rfl (lv_at hl 0 rfl) ?_
  refine lv_iload_n hx hb dL_pour_3 rfl (lv_at hl 1 rfl) ?_
  refine q_ctch (E := xI.cls) (own := RL) (name := xI.cls) (hh := [(0, 9, 12, 13), (0, 9, 15, 21)]) (vx_runV (rm := { frames := 7, cells := 1, slots := 6, locals := 102 }) (As := [.int x0]) (rest := [.int (nI 0), .ref oa]) ⟨hx, hb, hml, hown, hts⟩ (m2_pour_1 l hl9 D st z ol sn hs T S Y G len P ch B hI x0 h0q) (cwV 1 hts gL_pour_X2_pour rfl rfl rfl (by decide +kernel) ⟨Nat.le_of_ble_eq_true rfl, Nat.le_of_ble_eq_true rfl⟩) (q_pVX (ci := 2) (q0 := 0) hP (hK.sub [0, 1] rfl) hT.1 hS (fun q h => Or.inl h) rfl rfl) rfl rfl hl.1 rfl (lv_room (Nat.le_of_ble_eq_true rfl)) dL_pour_4 ⟨Nat.le_of_ble_eq_true rfl, Nat.le_of_ble_eq_true rfl⟩) hS (fun q h => h.elim) hown htab (tableOf []) ⟨0, 9, 12, 13⟩ (tableOf [(0, 9, 15, 21)]) rfl (fun _ h => nomatch h) rfl (by decide) (hts (.classLink RL 13 xI.cls) (by decide +kernel)) (va_Nw.use rfl hT.1.c1) (fun q H locs hP2 hk hS => ?_)
  have hC : CS z D ol sn hs T S G len ch H := ⟨_, _, hsm, hP2⟩
  have hO := wO_kept hO (fun h => h) hk
  refine lv_astore_n (lv' := [(3, .ref q), (0, .ref (z.o)), (1, .int x0), (2, .ref oa)]) hx hb dL_pour_12 rfl hl (by decide) rfl (fun ls hl => ?_)
  refine lv_iconst (v := nI 1) hx hb dL_pour_13 (by decide) ?_
  exact hret _ _ _ _ _ rfl hC hO hS dL_pour_14
set_option maxHeartbeats 4000000 in
set_option maxRecDepth 100000 in
theorem L_pour_2 (l : Launch) (hl9 : l.stackTraces = false) (D : va_G) (st : Nat → Nat) (z : Ad) (oa : Nat) (cJ : ClassId) (hoa : ¬ AX z oa) (hDX : va_D (fun _ => True) (wX z 0 0 0 f00 f00 f00 (fun _ => f00) 0 (0, 0, 0, 0) (fun _ => 0))) (g : Int64) (ol sn hs : Nat) (T S : Nat → Int32) (G : Nat → Nat → Int32) (len : Nat) (ch : Nat → Nat) (B : Nat) (hI : Inv B T) (n : Nat) (hk : n < 3) (hw : ¬ g_wy T n = 0) : q_H l yL_pour wsL_pour { frames := 8, cells := 1, slots := 6, locals := 123 } [.ref (z.o), .int (nI n), .ref oa] st D z oa cJ (CS z D ol sn hs T S G len ch) g 2 (CS z D ol sn hs T S G len ch) (g) := by
  refine q_goH (cc := cL_pour) (maxL := 4) (hh := [(0, 9, 12, 13), (0, 9, 15, 21)]) (lv0 := [(0, .ref (z.o)), (1, .int (nI n)), (2, .ref oa)]) (by decide) rfl (Nat.le_of_ble_eq_true rfl) rfl ?_
  intro p e s m args below meth c Q ls hx hb hml hts hown hC hO hK hT hl htab hret
  obtain ⟨Y, P, hsm, hP⟩ := hC
  have hD := q_D2 (ws' := wX z ol sn hs T S Y G len P ch) hDX rfl
  have hS : va_S (AXo z oa) s.heap s.heap [] := va_S.rf
  refine lv_aload_n hx hb dL_pour_0 rfl (lv_at hl 2 rfl) ?_
  refine lv_iconst (v := nI 0) hx hb dL_pour_1 (by decide) ?_
  refine lv_aload_n hx hb dL_pour_2 rfl (lv_at hl 0 rfl) ?_
  refine lv_iload_n hx hb dL_pour_3 rfl (lv_at hl 1 rfl) ?_
  refine q_ctch (E := xS.cls) (own := RL) (name := xS.cls) (hh := [(0, 9, 12, 13), (0, 9, 15, 21)]) (vx_runV (rm := { frames := 6, cells := 1, slots := 6, locals := 82 }) (As := [.int (nI n)]) (rest := [.int (nI 0), .ref oa]) ⟨hx, hb, hml, hown, hts⟩ (m2_pour_2 l hl9 D st z ol sn hs T S Y G len P ch B hI n hk hw) (cwV 1 hts gL_pour_X2_pour rfl rfl rfl (by decide +kernel) ⟨Nat.le_of_ble_eq_true rfl, Nat.le_of_ble_eq_true rfl⟩) (q_pVX (ci := 2) (q0 := 0) hP (hK.sub [0, 1] rfl) hT.1 hS (fun q h => Or.inl h) rfl rfl) rfl rfl hl.1 rfl (lv_room (Nat.le_of_ble_eq_true rfl)) dL_pour_4 ⟨Nat.le_of_ble_eq_true rfl, Nat.le_of_ble_eq_true rfl⟩) hS (fun q h => h.elim) hown htab (tableOf [(0, 9, 12, 13)]) ⟨0, 9, 15, 21⟩ (tableOf []) rfl (fun zz hz => by rw [List.mem_singleton.mp hz]; exact Or.inr ⟨by decide, xI.cls, hts _ (by decide +kernel), hT.2.2.1⟩) rfl (by decide) (hts (.classLink RL 21 xS.cls) (by decide +kernel)) (va_Nw.use rfl hT.1.c3) (fun q H locs hP2 hk hS => ?_)
  have hC : CS z D ol sn hs T S G len ch H := ⟨_, _, hsm, hP2⟩
  have hO := wO_kept hO (fun h => h) hk
  refine lv_astore_n (lv' := [(3, .ref q), (0, .ref (z.o)), (1, .int (nI n)), (2, .ref oa)]) hx hb dL_pour_15 rfl hl (by decide) rfl (fun ls hl => ?_)
  refine lv_iconst (v := nI 2) hx hb dL_pour_16 (by decide) ?_
  exact hret _ _ _ _ _ rfl hC hO hS dL_pour_17
set_option maxHeartbeats 4000000 in
set_option maxRecDepth 100000 in
theorem L_hand_ok1 (l : Launch) (hl9 : l.stackTraces = false) (D : va_G) (st : Nat → Nat) (z : Ad) (oa : Nat) (cJ : ClassId) (hoa : ¬ AX z oa) (hDX : va_D (fun _ => True) (wX z 0 0 0 f00 f00 f00 (fun _ => f00) 0 (0, 0, 0, 0) (fun _ => 0))) (g : Int64) (ol sn hs : Nat) (T S : Nat → Int32) (G : Nat → Nat → Int32) (len : Nat) (ch : Nat → Nat) (hol : ol < 6) (hsn : sn ≤ 6) (B : Nat) (hI : Inv B T) (n : Nat) (hk : n < 3) : q_H l yL_hand wsL_hand { frames := 8, cells := 1, slots := 6, locals := 126 } [.ref (z.o), .int (nI n), .int (nI 1), .ref oa] st D z oa cJ (CS z D ol sn hs T S G len ch) g 0 (CS z D (so ol sn) (svn sn) hs (g_hand T n 1) S (updG G (sr ol sn) T) len ch) ((nI ((hN T n + 1) % 8)).toInt64) := by
  refine q_goH (cc := cL_hand) (maxL := 5) (hh := [(0, 10, 13, 13), (0, 10, 17, 15)]) (lv0 := [(0, .ref (z.o)), (1, .int (nI n)), (2, .int (nI 1)), (3, .ref oa)]) (by decide) rfl (Nat.le_of_ble_eq_true rfl) rfl ?_
  intro p e s m args below meth c Q ls hx hb hml hts hown hC hO hK hT hl htab hret
  obtain ⟨Y, P, hsm, hP⟩ := hC
  have hD := q_D2 (ws' := wX z ol sn hs T S Y G len P ch) hDX rfl
  have hS : va_S (AXo z oa) s.heap s.heap [] := va_S.rf
  refine lv_aload_n hx hb dL_hand_0 rfl (lv_at hl 3 rfl) ?_
  refine lv_iconst (v := nI 0) hx hb dL_hand_1 (by decide) ?_
  refine lv_aload_n hx hb dL_hand_2 rfl (lv_at hl 0 rfl) ?_
  refine lv_iload_n hx hb dL_hand_3 rfl (lv_at hl 1 rfl) ?_
  refine lv_iload_n hx hb dL_hand_4 rfl (lv_at hl 2 rfl) ?_
  refine q_ciK (BH := CS z D (so ol sn) (svn sn) hs (g_hand T n 1) S (updG G (sr ol sn) T) len ch) (va_runV (rm := { frames := 3, cells := 0, slots := 0, locals := 101 }) (As := [.int (nI n), .int (nI 1)]) (rest := [.int (nI 0), .ref oa]) ⟨hx, hb, hml, hown, hts⟩ (m2_hand_ok1 l D z ol sn hs hol hsn T S Y G len P ch B hI n hk hD) (cwV 2 hts gL_hand_X2_hand rfl rfl rfl (by decide +kernel) ⟨Nat.le_of_ble_eq_true rfl, Nat.le_of_ble_eq_true rfl⟩) (q_pV (ci := 2) (q0 := 0) hP (hK.sub [0, 1] rfl) rfl rfl) rfl rfl hl.1 rfl (lv_room (Nat.le_of_ble_eq_true rfl)) dL_hand_5 ⟨Nat.le_of_ble_eq_true rfl, Nat.le_of_ble_eq_true rfl⟩) (fun t h => ⟨_, _, hsm, h⟩) hS (fun q h => Or.inl h) (fun x H locs ex hC hk hS => ?_)
  have hO := wO_kept hO hoa hk
  have ex : x = nI ((hN T n + 1) % 8) := ex
  refine lv_i2l (v := x.toInt64) hx hb dL_hand_8 rfl ?_
  refine q_lst0 hx hb hK hO hS 2 rfl (Or.inr rfl) dL_hand_9 (fun H locs hO hk hS => ?_)
  have hC := hC.kept (B := fun q => q = oa) (fun q h (e : q = oa) => hoa (e ▸ h)) hk
  refine lv_goto (tgt := 21) hx hb dL_hand_10 (by decide) ?_
  refine lv_iconst (v := nI 0) hx hb dL_hand_21 (by decide) ?_
  refine W.widen (k := 1) (n := 6) (Nat.le_of_ble_eq_true rfl) (Nat.le_of_ble_eq_true rfl) ?_
  rw [ex] at hO
  exact hret _ _ _ _ _ rfl hC hO hS dL_hand_22
set_option maxHeartbeats 4000000 in
set_option maxRecDepth 100000 in
theorem L_hand_ok0 (l : Launch) (hl9 : l.stackTraces = false) (D : va_G) (st : Nat → Nat) (z : Ad) (oa : Nat) (cJ : ClassId) (hoa : ¬ AX z oa) (hDX : va_D (fun _ => True) (wX z 0 0 0 f00 f00 f00 (fun _ => f00) 0 (0, 0, 0, 0) (fun _ => 0))) (g : Int64) (ol sn hs : Nat) (T S : Nat → Int32) (G : Nat → Nat → Int32) (len : Nat) (ch : Nat → Nat) (hol : ol < 6) (hsn : sn ≤ 6) (B : Nat) (hI : Inv B T) (n : Nat) (hk : n < 3) : q_H l yL_hand wsL_hand { frames := 8, cells := 1, slots := 6, locals := 126 } [.ref (z.o), .int (nI n), .int (nI 0), .ref oa] st D z oa cJ (CS z D ol sn hs T S G len ch) g 0 (CS z D (so ol sn) (svn sn) hs (g_hand T n 7) S (updG G (sr ol sn) T) len ch) ((nI ((hN T n + 7) % 8)).toInt64) := by
  refine q_goH (cc := cL_hand) (maxL := 5) (hh := [(0, 10, 13, 13), (0, 10, 17, 15)]) (lv0 := [(0, .ref (z.o)), (1, .int (nI n)), (2, .int (nI 0)), (3, .ref oa)]) (by decide) rfl (Nat.le_of_ble_eq_true rfl) rfl ?_
  intro p e s m args below meth c Q ls hx hb hml hts hown hC hO hK hT hl htab hret
  obtain ⟨Y, P, hsm, hP⟩ := hC
  have hD := q_D2 (ws' := wX z ol sn hs T S Y G len P ch) hDX rfl
  have hS : va_S (AXo z oa) s.heap s.heap [] := va_S.rf
  refine lv_aload_n hx hb dL_hand_0 rfl (lv_at hl 3 rfl) ?_
  refine lv_iconst (v := nI 0) hx hb dL_hand_1 (by decide) ?_
  refine lv_aload_n hx hb dL_hand_2 rfl (lv_at hl 0 rfl) ?_
  refine lv_iload_n hx hb dL_hand_3 rfl (lv_at hl 1 rfl) ?_
  refine lv_iload_n hx hb dL_hand_4 rfl (lv_at hl 2 rfl) ?_
  refine q_ciK (BH := CS z D (so ol sn) (svn sn) hs (g_hand T n 7) S (updG G (sr ol sn) T) len ch) (va_runV (rm := { frames := 3, cells := 0, slots := 0, locals := 101 }) (As := [.int (nI n), .int (nI 0)]) (rest := [.int (nI 0), .ref oa]) ⟨hx, hb, hml, hown, hts⟩ (m2_hand_ok0 l D z ol sn hs hol hsn T S Y G len P ch B hI n hk hD) (cwV 2 hts gL_hand_X2_hand rfl rfl rfl (by decide +kernel) ⟨Nat.le_of_ble_eq_true rfl, Nat.le_of_ble_eq_true rfl⟩) (q_pV (ci := 2) (q0 := 0) hP (hK.sub [0, 1] rfl) rfl rfl) rfl rfl hl.1 rfl (lv_room (Nat.le_of_ble_eq_true rfl)) dL_hand_5 ⟨Nat.le_of_ble_eq_true rfl, Nat.le_of_ble_eq_true rfl⟩) (fun t h => ⟨_, _, hsm, h⟩) hS (fun q h => Or.inl h) (fun x H locs ex hC hk hS => ?_)
  have hO := wO_kept hO hoa hk
  have ex : x = nI ((hN T n + 7) % 8) := ex
  refine lv_i2l (v := x.toInt64) hx hb dL_hand_8 rfl ?_
  refine q_lst0 hx hb hK hO hS 2 rfl (Or.inr rfl) dL_hand_9 (fun H locs hO hk hS => ?_)
  have hC := hC.kept (B := fun q => q = oa) (fun q h (e : q = oa) => hoa (e ▸ h)) hk
  refine lv_goto (tgt := 21) hx hb dL_hand_10 (by decide) ?_
  refine lv_iconst (v := nI 0) hx hb dL_hand_21 (by decide) ?_
  refine W.widen (k := 1) (n := 6) (Nat.le_of_ble_eq_true rfl) (Nat.le_of_ble_eq_true rfl) ?_
  rw [ex] at hO
  exact hret _ _ _ _ _ rfl hC hO hS dL_hand_22
set_option maxHeartbeats 4000000 in
set_option maxRecDepth 100000 in
theorem L_hand_1 (l : Launch) (hl9 : l.stackTraces = false) (D : va_G) (st : Nat → Nat) (z : Ad) (oa : Nat) (cJ : ClassId) (hoa : ¬ AX z oa) (hDX : va_D (fun _ => True) (wX z 0 0 0 f00 f00 f00 (fun _ => f00) 0 (0, 0, 0, 0) (fun _ => 0))) (g : Int64) (ol sn hs : Nat) (T S : Nat → Int32) (G : Nat → Nat → Int32) (len : Nat) (ch : Nat → Nat) (B : Nat) (hI : Inv B T) (x0 xn : Int32) (h0q : q_in (nI 0) (nI 2) x0 = false) : q_H l yL_hand wsL_hand { frames := 8, cells := 1, slots := 6, locals := 126 } [.ref (z.o), .int x0, .int xn, .ref oa] st D z oa cJ (CS z D ol sn hs T S G len ch) g 1 (CS z D ol sn hs T S G len ch) (g) := by
  refine q_goH (cc := cL_hand) (maxL := 5) (hh := [(0, 10, 13, 13), (0, 10, 17, 15)]) (lv0 := [(0, .ref (z.o)), (1, .int x0), (2, .int xn), (3, .ref oa)]) (by decide) rfl (Nat.le_of_ble_eq_true rfl) rfl ?_
  intro p e s m args below meth c Q ls hx hb hml hts hown hC hO hK hT hl htab hret
  obtain ⟨Y, P, hsm, hP⟩ := hC
  have hD := q_D2 (ws' := wX z ol sn hs T S Y G len P ch) hDX rfl
  have hS : va_S (AXo z oa) s.heap s.heap [] := va_S.rf
  refine lv_aload_n hx hb dL_hand_0 rfl (lv_at hl 3 rfl) ?_
  refine lv_iconst (v := nI 0) hx hb dL_hand_1 (by decide) ?_
  refine lv_aload_n hx hb dL_hand_2 rfl (lv_at hl 0 rfl) ?_
  refine lv_iload_n hx hb dL_hand_3 rfl (lv_at hl 1 rfl) ?_
  refine lv_iload_n hx hb dL_hand_4 rfl (lv_at hl 2 rfl) ?_
  refine q_ctch (E := xI.cls) (own := RL) (name := xI.cls) (hh := [(0, 10, 13, 13), (0, 10, 17, 15)]) (vx_runV (rm := { frames := 7, cells := 1, slots := 6, locals := 102 }) (As := [.int x0, .int xn]) (rest := [.int (nI 0), .ref oa]) ⟨hx, hb, hml, hown, hts⟩ (m2_hand_1 l hl9 D st z ol sn hs T S Y G len P ch B hI x0 xn h0q) (cwV 2 hts gL_hand_X2_hand rfl rfl rfl (by decide +kernel) ⟨Nat.le_of_ble_eq_true rfl, Nat.le_of_ble_eq_true rfl⟩) (q_pVX (ci := 2) (q0 := 0) hP (hK.sub [0, 1] rfl) hT.1 hS (fun q h => Or.inl h) rfl rfl) rfl rfl hl.1 rfl (lv_room (Nat.le_of_ble_eq_true rfl)) dL_hand_5 ⟨Nat.le_of_ble_eq_true rfl, Nat.le_of_ble_eq_true rfl⟩) hS (fun q h => h.elim) hown htab (tableOf []) ⟨0, 10, 13, 13⟩ (tableOf [(0, 10, 17, 15)]) rfl (fun _ h => nomatch h) rfl (by decide) (hts (.classLink RL 13 xI.cls) (by decide +kernel)) (va_Nw.use rfl hT.1.c1) (fun q H locs hP2 hk hS => ?_)
  have hC : CS z D ol sn hs T S G len ch H := ⟨_, _, hsm, hP2⟩
  have hO := wO_kept hO (fun h => h) hk
  refine lv_astore (lv' := [(4, .ref q), (0, .ref (z.o)), (1, .int x0), (2, .int xn), (3, .ref oa)]) hx hb dL_hand_13 hl (by decide) rfl (fun ls hl => ?_)
  refine lv_iconst (v := nI 1) hx hb dL_hand_15 (by decide) ?_
  exact hret _ _ _ _ _ rfl hC hO hS dL_hand_16
set_option maxHeartbeats 4000000 in
set_option maxRecDepth 100000 in
theorem L_hand_2 (l : Launch) (hl9 : l.stackTraces = false) (D : va_G) (st : Nat → Nat) (z : Ad) (oa : Nat) (cJ : ClassId) (hoa : ¬ AX z oa) (hDX : va_D (fun _ => True) (wX z 0 0 0 f00 f00 f00 (fun _ => f00) 0 (0, 0, 0, 0) (fun _ => 0))) (g : Int64) (ol sn hs : Nat) (T S : Nat → Int32) (G : Nat → Nat → Int32) (len : Nat) (ch : Nat → Nat) (B : Nat) (hI : Inv B T) (n : Nat) (hk : n < 3) (xn : Int32) (h1q : q_in (nI 0) (nI 1) xn = false) : q_H l yL_hand wsL_hand { frames := 8, cells := 1, slots := 6, locals := 126 } [.ref (z.o), .int (nI n), .int xn, .ref oa] st D z oa cJ (CS z D ol sn hs T S G len ch) g 2 (CS z D ol sn hs T S G len ch) (g) := by
  refine q_goH (cc := cL_hand) (maxL := 5) (hh := [(0, 10, 13, 13), (0, 10, 17, 15)]) (lv0 := [(0, .ref (z.o)), (1, .int (nI n)), (2, .int xn), (3, .ref oa)]) (by decide) rfl (Nat.le_of_ble_eq_true rfl) rfl ?_
  intro p e s m args below meth c Q ls hx hb hml hts hown hC hO hK hT hl htab hret
  obtain ⟨Y, P, hsm, hP⟩ := hC
  have hD := q_D2 (ws' := wX z ol sn hs T S Y G len P ch) hDX rfl
  have hS : va_S (AXo z oa) s.heap s.heap [] := va_S.rf
  refine lv_aload_n hx hb dL_hand_0 rfl (lv_at hl 3 rfl) ?_
  refine lv_iconst (v := nI 0) hx hb dL_hand_1 (by decide) ?_
  refine lv_aload_n hx hb dL_hand_2 rfl (lv_at hl 0 rfl) ?_
  refine lv_iload_n hx hb dL_hand_3 rfl (lv_at hl 1 rfl) ?_
  refine lv_iload_n hx hb dL_hand_4 rfl (lv_at hl 2 rfl) ?_
  refine q_ctch (E := xA.cls) (own := RL) (name := xA.cls) (hh := [(0, 10, 13, 13), (0, 10, 17, 15)]) (vx_runV (rm := { frames := 7, cells := 1, slots := 6, locals := 104 }) (As := [.int (nI n), .int xn]) (rest := [.int (nI 0), .ref oa]) ⟨hx, hb, hml, hown, hts⟩ (m2_hand_2 l hl9 D st z ol sn hs T S Y G len P ch B hI n hk xn h1q) (cwV 2 hts gL_hand_X2_hand rfl rfl rfl (by decide +kernel) ⟨Nat.le_of_ble_eq_true rfl, Nat.le_of_ble_eq_true rfl⟩) (q_pVX (ci := 2) (q0 := 0) hP (hK.sub [0, 1] rfl) hT.1 hS (fun q h => Or.inl h) rfl rfl) rfl rfl hl.1 rfl (lv_room (Nat.le_of_ble_eq_true rfl)) dL_hand_5 ⟨Nat.le_of_ble_eq_true rfl, Nat.le_of_ble_eq_true rfl⟩) hS (fun q h => h.elim) hown htab (tableOf [(0, 10, 13, 13)]) ⟨0, 10, 17, 15⟩ (tableOf []) rfl (fun zz hz => by rw [List.mem_singleton.mp hz]; exact Or.inr ⟨by decide, xI.cls, hts _ (by decide +kernel), hT.2.1⟩) rfl (by decide) (hts (.classLink RL 15 xA.cls) (by decide +kernel)) (va_Nw.use rfl hT.1.c2) (fun q H locs hP2 hk hS => ?_)
  have hC : CS z D ol sn hs T S G len ch H := ⟨_, _, hsm, hP2⟩
  have hO := wO_kept hO (fun h => h) hk
  refine lv_astore (lv' := [(4, .ref q), (0, .ref (z.o)), (1, .int (nI n)), (2, .int xn), (3, .ref oa)]) hx hb dL_hand_17 hl (by decide) rfl (fun ls hl => ?_)
  refine lv_iconst (v := nI 2) hx hb dL_hand_19 (by decide) ?_
  exact hret _ _ _ _ _ rfl hC hO hS dL_hand_20
set_option maxHeartbeats 4000000 in
set_option maxRecDepth 100000 in
theorem L_round_ok (l : Launch) (hl9 : l.stackTraces = false) (D : va_G) (st : Nat → Nat) (z : Ad) (oa : Nat) (cJ : ClassId) (hoa : ¬ AX z oa) (hDX : va_D (fun _ => True) (wX z 0 0 0 f00 f00 f00 (fun _ => f00) 0 (0, 0, 0, 0) (fun _ => 0))) (g : Int64) (ol sn hs : Nat) (T S : Nat → Int32) (G : Nat → Nat → Int32) (len : Nat) (ch : Nat → Nat) (hol : ol < 6) (hsn : sn ≤ 6) (B : Nat) (hI : Inv B T) (n : Nat) (hk : n < 3) (hB : B + 1600 < 2000000000) : q_H l yL_round wsL_round { frames := 8, cells := 1, slots := 6, locals := 139 } [.ref (z.o), .int (nI n), .ref oa] st D z oa cJ (CS z D ol sn hs T S G len ch) g 0 (CS z D (so ol sn) (svn sn) hs (g_rn 8 T n) S (updG G (sr ol sn) T) len ch) ((nI (g_rc 8 T n)).toInt64) := by
  refine q_goH (cc := cL_round) (maxL := 4) (hh := [(0, 9, 12, 13)]) (lv0 := [(0, .ref (z.o)), (1, .int (nI n)), (2, .ref oa)]) (by decide) rfl (Nat.le_of_ble_eq_true rfl) rfl ?_
  intro p e s m args below meth c Q ls hx hb hml hts hown hC hO hK hT hl htab hret
  obtain ⟨Y, P, hsm, hP⟩ := hC
  have hD := q_D2 (ws' := wX z ol sn hs T S Y G len P ch) hDX rfl
  have hS : va_S (AXo z oa) s.heap s.heap [] := va_S.rf
  refine lv_aload_n hx hb dL_round_0 rfl (lv_at hl 2 rfl) ?_
  refine lv_iconst (v := nI 0) hx hb dL_round_1 (by decide) ?_
  refine lv_aload_n hx hb dL_round_2 rfl (lv_at hl 0 rfl) ?_
  refine lv_iload_n hx hb dL_round_3 rfl (lv_at hl 1 rfl) ?_
  refine q_ciK (BH := CS z D (so ol sn) (svn sn) hs (g_rn 8 T n) S (updG G (sr ol sn) T) len ch) (va_runV (rm := { frames := 5, cells := 0, slots := 0, locals := 118 }) (As := [.int (nI n)]) (rest := [.int (nI 0), .ref oa]) ⟨hx, hb, hml, hown, hts⟩ (m2_round_ok l D z ol sn hs hol hsn T S Y G len P ch B hI n hk hB hD) (cwV 1 hts gL_round_X2_round rfl rfl rfl (by decide +kernel) ⟨Nat.le_of_ble_eq_true rfl, Nat.le_of_ble_eq_true rfl⟩) (q_pV (ci := 2) (q0 := 0) hP (hK.sub [0, 1] rfl) rfl rfl) rfl rfl hl.1 rfl (lv_room (Nat.le_of_ble_eq_true rfl)) dL_round_4 ⟨Nat.le_of_ble_eq_true rfl, Nat.le_of_ble_eq_true rfl⟩) (fun t h => ⟨_, _, hsm, h⟩) hS (fun q h => Or.inl h) (fun x H locs ex hC hk hS => ?_)
  have hO := wO_kept hO hoa hk
  have ex : x = nI (g_rc 8 T n) := ex
  refine lv_i2l (v := x.toInt64) hx hb dL_round_7 rfl ?_
  refine q_lst0 hx hb hK hO hS 2 rfl (Or.inr rfl) dL_round_8 (fun H locs hO hk hS => ?_)
  have hC := hC.kept (B := fun q => q = oa) (fun q h (e : q = oa) => hoa (e ▸ h)) hk
  refine lv_goto (tgt := 15) hx hb dL_round_9 (by decide) ?_
  refine lv_iconst (v := nI 0) hx hb dL_round_15 (by decide) ?_
  refine W.widen (k := 1) (n := 6) (Nat.le_of_ble_eq_true rfl) (Nat.le_of_ble_eq_true rfl) ?_
  rw [ex] at hO
  exact hret _ _ _ _ _ rfl hC hO hS dL_round_16
set_option maxHeartbeats 4000000 in
set_option maxRecDepth 100000 in
theorem L_round_1 (l : Launch) (hl9 : l.stackTraces = false) (D : va_G) (st : Nat → Nat) (z : Ad) (oa : Nat) (cJ : ClassId) (hoa : ¬ AX z oa) (hDX : va_D (fun _ => True) (wX z 0 0 0 f00 f00 f00 (fun _ => f00) 0 (0, 0, 0, 0) (fun _ => 0))) (g : Int64) (ol sn hs : Nat) (T S : Nat → Int32) (G : Nat → Nat → Int32) (len : Nat) (ch : Nat → Nat) (B : Nat) (hI : Inv B T) (x0 : Int32) (h0q : q_in (nI 0) (nI 2) x0 = false) : q_H l yL_round wsL_round { frames := 8, cells := 1, slots := 6, locals := 139 } [.ref (z.o), .int x0, .ref oa] st D z oa cJ (CS z D ol sn hs T S G len ch) g 1 (CS z D ol sn hs T S G len ch) (g) := by
  refine q_goH (cc := cL_round) (maxL := 4) (hh := [(0, 9, 12, 13)]) (lv0 := [(0, .ref (z.o)), (1, .int x0), (2, .ref oa)]) (by decide) rfl (Nat.le_of_ble_eq_true rfl) rfl ?_
  intro p e s m args below meth c Q ls hx hb hml hts hown hC hO hK hT hl htab hret
  obtain ⟨Y, P, hsm, hP⟩ := hC
  have hD := q_D2 (ws' := wX z ol sn hs T S Y G len P ch) hDX rfl
  have hS : va_S (AXo z oa) s.heap s.heap [] := va_S.rf
  refine lv_aload_n hx hb dL_round_0 rfl (lv_at hl 2 rfl) ?_
  refine lv_iconst (v := nI 0) hx hb dL_round_1 (by decide) ?_
  refine lv_aload_n hx hb dL_round_2 rfl (lv_at hl 0 rfl) ?_
  refine lv_iload_n hx hb dL_round_3 rfl (lv_at hl 1 rfl) ?_
  refine q_ctch (E := xI.cls) (own := RL) (name := xI.cls) (hh := [(0, 9, 12, 13)]) (vx_runV (rm := { frames := 7, cells := 1, slots := 6, locals := 102 }) (As := [.int x0]) (rest := [.int (nI 0), .ref oa]) ⟨hx, hb, hml, hown, hts⟩ (m2_round_1 l hl9 D st z ol sn hs T S Y G len P ch B hI x0 h0q) (cwV 1 hts gL_round_X2_round rfl rfl rfl (by decide +kernel) ⟨Nat.le_of_ble_eq_true rfl, Nat.le_of_ble_eq_true rfl⟩) (q_pVX (ci := 2) (q0 := 0) hP (hK.sub [0, 1] rfl) hT.1 hS (fun q h => Or.inl h) rfl rfl) rfl rfl hl.1 rfl (lv_room (Nat.le_of_ble_eq_true rfl)) dL_round_4 ⟨Nat.le_of_ble_eq_true rfl, Nat.le_of_ble_eq_true rfl⟩) hS (fun q h => h.elim) hown htab (tableOf []) ⟨0, 9, 12, 13⟩ (tableOf []) rfl (fun _ h => nomatch h) rfl (by decide) (hts (.classLink RL 13 xI.cls) (by decide +kernel)) (va_Nw.use rfl hT.1.c1) (fun q H locs hP2 hk hS => ?_)
  have hC : CS z D ol sn hs T S G len ch H := ⟨_, _, hsm, hP2⟩
  have hO := wO_kept hO (fun h => h) hk
  refine lv_astore_n (lv' := [(3, .ref q), (0, .ref (z.o)), (1, .int x0), (2, .ref oa)]) hx hb dL_round_12 rfl hl (by decide) rfl (fun ls hl => ?_)
  refine lv_iconst (v := nI 1) hx hb dL_round_13 (by decide) ?_
  exact hret _ _ _ _ _ rfl hC hO hS dL_round_14
set_option maxHeartbeats 4000000 in
set_option maxRecDepth 100000 in
theorem L_append_ok (l : Launch) (hl9 : l.stackTraces = false) (D : va_G) (st : Nat → Nat) (z : Ad) (oa : Nat) (cJ : ClassId) (hoa : ¬ AX z oa) (hDX : va_D (fun _ => True) (wX z 0 0 0 f00 f00 f00 (fun _ => f00) 0 (0, 0, 0, 0) (fun _ => 0))) (g : Int64) (ol sn hs : Nat) (T S : Nat → Int32) (G : Nat → Nat → Int32) (len : Nat) (ch : Nat → Nat) (hol : ol < 6) (hsn : sn ≤ 6) (B : Nat) (hI : Inv B T) (cx : Nat) (hlen : len < 60) (hc1 : 33 ≤ cx) (hc2 : cx ≤ 126) : q_H l yL_append wsL_append { frames := 8, cells := 1, slots := 6, locals := 125 } [.ref (z.o), .int (nI cx), .ref oa] st D z oa cJ (CS z D ol sn hs T S G len ch) g 0 (CS z D ol sn hs T S G (1 + len) (fun j => if j = len then cx else ch j)) ((nI (1 + len)).toInt64) := by
  refine q_goH (cc := cL_append) (maxL := 4) (hh := [(0, 9, 12, 15), (0, 9, 15, 21)]) (lv0 := [(0, .ref (z.o)), (1, .int (nI cx)), (2, .ref oa)]) (by decide) rfl (Nat.le_of_ble_eq_true rfl) rfl ?_
  intro p e s m args below meth c Q ls hx hb hml hts hown hC hO hK hT hl htab hret
  obtain ⟨Y, P, hsm, hP⟩ := hC
  have hD := q_D2 (ws' := wX z ol sn hs T S Y G len P ch) hDX rfl
  have hS : va_S (AXo z oa) s.heap s.heap [] := va_S.rf
  refine lv_aload_n hx hb dL_append_0 rfl (lv_at hl 2 rfl) ?_
  refine lv_iconst (v := nI 0) hx hb dL_append_1 (by decide) ?_
  refine lv_aload_n hx hb dL_append_2 rfl (lv_at hl 0 rfl) ?_
  refine lv_iload_n hx hb dL_append_3 rfl (lv_at hl 1 rfl) ?_
  refine q_ciK (BH := CS z D ol sn hs T S G (1 + len) (fun j => if j = len then cx else ch j)) (va_runV (rm := { frames := 1, cells := 0, slots := 0, locals := 22 }) (As := [.int (nI cx)]) (rest := [.int (nI 0), .ref oa]) ⟨hx, hb, hml, hown, hts⟩ (m2_append_ok l D z ol sn hs hol hsn T S Y G len P ch B hI cx hlen hc1 hc2 hD) (cwV 1 hts gL_append_X2_append rfl rfl rfl (by decide +kernel) ⟨Nat.le_of_ble_eq_true rfl, Nat.le_of_ble_eq_true rfl⟩) (q_pV (ci := 2) (q0 := 0) hP (hK.sub [0, 1] rfl) rfl rfl) rfl rfl hl.1 rfl (lv_room (Nat.le_of_ble_eq_true rfl)) dL_append_4 ⟨Nat.le_of_ble_eq_true rfl, Nat.le_of_ble_eq_true rfl⟩) (fun t h => ⟨_, _, hsm, h⟩) hS (fun q h => Or.inl h) (fun x H locs ex hC hk hS => ?_)
  have hO := wO_kept hO hoa hk
  have ex : x = nI (1 + len) := ex
  refine lv_i2l (v := x.toInt64) hx hb dL_append_7 rfl ?_
  refine q_lst0 hx hb hK hO hS 2 rfl (Or.inr rfl) dL_append_8 (fun H locs hO hk hS => ?_)
  have hC := hC.kept (B := fun q => q = oa) (fun q h (e : q = oa) => hoa (e ▸ h)) hk
  refine lv_goto (tgt := 18) hx hb dL_append_9 (by decide) ?_
  refine lv_iconst (v := nI 0) hx hb dL_append_18 (by decide) ?_
  refine W.widen (k := 1) (n := 6) (Nat.le_of_ble_eq_true rfl) (Nat.le_of_ble_eq_true rfl) ?_
  rw [ex] at hO
  exact hret _ _ _ _ _ rfl hC hO hS dL_append_19
set_option maxHeartbeats 4000000 in
set_option maxRecDepth 100000 in
theorem L_append_1 (l : Launch) (hl9 : l.stackTraces = false) (D : va_G) (st : Nat → Nat) (z : Ad) (oa : Nat) (cJ : ClassId) (hoa : ¬ AX z oa) (hDX : va_D (fun _ => True) (wX z 0 0 0 f00 f00 f00 (fun _ => f00) 0 (0, 0, 0, 0) (fun _ => 0))) (g : Int64) (ol sn hs : Nat) (T S : Nat → Int32) (G : Nat → Nat → Int32) (len : Nat) (ch : Nat → Nat) (B : Nat) (hI : Inv B T) (x0 : Int32) (h0q : q_in (nI 33) (nI 126) x0 = false) : q_H l yL_append wsL_append { frames := 8, cells := 1, slots := 6, locals := 125 } [.ref (z.o), .int x0, .ref oa] st D z oa cJ (CS z D ol sn hs T S G len ch) g 1 (CS z D ol sn hs T S G len ch) (g) := by
  refine q_goH (cc := cL_append) (maxL := 4) (hh := [(0, 9, 12, 15), (0, 9, 15, 21)]) (lv0 := [(0, .ref (z.o)), (1, .int x0), (2, .ref oa)]) (by decide) rfl (Nat.le_of_ble_eq_true rfl) rfl ?_
  intro p e s m args below meth c Q ls hx hb hml hts hown hC hO hK hT hl htab hret
  obtain ⟨Y, P, hsm, hP⟩ := hC
  have hD := q_D2 (ws' := wX z ol sn hs T S Y G len P ch) hDX rfl
  have hS : va_S (AXo z oa) s.heap s.heap [] := va_S.rf
  refine lv_aload_n hx hb dL_append_0 rfl (lv_at hl 2 rfl) ?_
  refine lv_iconst (v := nI 0) hx hb dL_append_1 (by decide) ?_
  refine lv_aload_n hx hb dL_append_2 rfl (lv_at hl 0 rfl) ?_
  refine lv_iload_n hx hb dL_append_3 rfl (lv_at hl 1 rfl) ?_
  refine q_ctch (E := xA.cls) (own := RL) (name := xA.cls) (hh := [(0, 9, 12, 15), (0, 9, 15, 21)]) (vx_runV (rm := { frames := 7, cells := 1, slots := 6, locals := 104 }) (As := [.int x0]) (rest := [.int (nI 0), .ref oa]) ⟨hx, hb, hml, hown, hts⟩ (m2_append_1 l hl9 D st z ol sn hs T S Y G len P ch B hI x0 h0q) (cwV 1 hts gL_append_X2_append rfl rfl rfl (by decide +kernel) ⟨Nat.le_of_ble_eq_true rfl, Nat.le_of_ble_eq_true rfl⟩) (q_pVX (ci := 2) (q0 := 0) hP (hK.sub [0, 1] rfl) hT.1 hS (fun q h => Or.inl h) rfl rfl) rfl rfl hl.1 rfl (lv_room (Nat.le_of_ble_eq_true rfl)) dL_append_4 ⟨Nat.le_of_ble_eq_true rfl, Nat.le_of_ble_eq_true rfl⟩) hS (fun q h => h.elim) hown htab (tableOf []) ⟨0, 9, 12, 15⟩ (tableOf [(0, 9, 15, 21)]) rfl (fun _ h => nomatch h) rfl (by decide) (hts (.classLink RL 15 xA.cls) (by decide +kernel)) (va_Nw.use rfl hT.1.c2) (fun q H locs hP2 hk hS => ?_)
  have hC : CS z D ol sn hs T S G len ch H := ⟨_, _, hsm, hP2⟩
  have hO := wO_kept hO (fun h => h) hk
  refine lv_astore_n (lv' := [(3, .ref q), (0, .ref (z.o)), (1, .int x0), (2, .ref oa)]) hx hb dL_append_12 rfl hl (by decide) rfl (fun ls hl => ?_)
  refine lv_iconst (v := nI 1) hx hb dL_append_13 (by decide) ?_
  exact hret _ _ _ _ _ rfl hC hO hS dL_append_14
set_option maxHeartbeats 4000000 in
set_option maxRecDepth 100000 in
theorem L_append_2 (l : Launch) (hl9 : l.stackTraces = false) (D : va_G) (st : Nat → Nat) (z : Ad) (oa : Nat) (cJ : ClassId) (hoa : ¬ AX z oa) (hDX : va_D (fun _ => True) (wX z 0 0 0 f00 f00 f00 (fun _ => f00) 0 (0, 0, 0, 0) (fun _ => 0))) (g : Int64) (ol sn hs : Nat) (T S : Nat → Int32) (G : Nat → Nat → Int32) (ch : Nat → Nat) (cx : Nat) (hc1 : 33 ≤ cx) (hc2 : cx ≤ 126) : q_H l yL_append wsL_append { frames := 8, cells := 1, slots := 6, locals := 125 } [.ref (z.o), .int (nI cx), .ref oa] st D z oa cJ (CS z D ol sn hs T S G 60 ch) g 2 (CS z D ol sn hs T S G 60 ch) (g) := by
  refine q_goH (cc := cL_append) (maxL := 4) (hh := [(0, 9, 12, 15), (0, 9, 15, 21)]) (lv0 := [(0, .ref (z.o)), (1, .int (nI cx)), (2, .ref oa)]) (by decide) rfl (Nat.le_of_ble_eq_true rfl) rfl ?_
  intro p e s m args below meth c Q ls hx hb hml hts hown hC hO hK hT hl htab hret
  obtain ⟨Y, P, hsm, hP⟩ := hC
  have hD := q_D2 (ws' := wX z ol sn hs T S Y G 60 P ch) hDX rfl
  have hS : va_S (AXo z oa) s.heap s.heap [] := va_S.rf
  refine lv_aload_n hx hb dL_append_0 rfl (lv_at hl 2 rfl) ?_
  refine lv_iconst (v := nI 0) hx hb dL_append_1 (by decide) ?_
  refine lv_aload_n hx hb dL_append_2 rfl (lv_at hl 0 rfl) ?_
  refine lv_iload_n hx hb dL_append_3 rfl (lv_at hl 1 rfl) ?_
  refine q_ctch (E := xS.cls) (own := RL) (name := xS.cls) (hh := [(0, 9, 12, 15), (0, 9, 15, 21)]) (vx_runV (rm := { frames := 6, cells := 1, slots := 6, locals := 82 }) (As := [.int (nI cx)]) (rest := [.int (nI 0), .ref oa]) ⟨hx, hb, hml, hown, hts⟩ (m2_append_2 l hl9 D st z ol sn hs T S Y G P ch cx hc1 hc2) (cwV 1 hts gL_append_X2_append rfl rfl rfl (by decide +kernel) ⟨Nat.le_of_ble_eq_true rfl, Nat.le_of_ble_eq_true rfl⟩) (q_pVX (ci := 2) (q0 := 0) hP (hK.sub [0, 1] rfl) hT.1 hS (fun q h => Or.inl h) rfl rfl) rfl rfl hl.1 rfl (lv_room (Nat.le_of_ble_eq_true rfl)) dL_append_4 ⟨Nat.le_of_ble_eq_true rfl, Nat.le_of_ble_eq_true rfl⟩) hS (fun q h => h.elim) hown htab (tableOf [(0, 9, 12, 15)]) ⟨0, 9, 15, 21⟩ (tableOf []) rfl (fun zz hz => by rw [List.mem_singleton.mp hz]; exact Or.inr ⟨by decide, xA.cls, hts _ (by decide +kernel), hT.2.2.2⟩) rfl (by decide) (hts (.classLink RL 21 xS.cls) (by decide +kernel)) (va_Nw.use rfl hT.1.c3) (fun q H locs hP2 hk hS => ?_)
  have hC : CS z D ol sn hs T S G 60 ch H := ⟨_, _, hsm, hP2⟩
  have hO := wO_kept hO (fun h => h) hk
  refine lv_astore_n (lv' := [(3, .ref q), (0, .ref (z.o)), (1, .int (nI cx)), (2, .ref oa)]) hx hb dL_append_15 rfl hl (by decide) rfl (fun ls hl => ?_)
  refine lv_iconst (v := nI 2) hx hb dL_append_16 (by decide) ?_
  exact hret _ _ _ _ _ rfl hC hO hS dL_append_17
set_option maxHeartbeats 4000000 in
set_option maxRecDepth 100000 in
theorem L_run_ok (l : Launch) (hl9 : l.stackTraces = false) (D : va_G) (st : Nat → Nat) (z : Ad) (oa : Nat) (cJ : ClassId) (hoa : ¬ AX z oa) (hDX : va_D (fun _ => True) (wX z 0 0 0 f00 f00 f00 (fun _ => f00) 0 (0, 0, 0, 0) (fun _ => 0))) (g : Int64) (ol sn hs : Nat) (T S : Nat → Int32) (G : Nat → Nat → Int32) (len : Nat) (ch : Nat → Nat) (hol : ol < 6) (hsn : sn ≤ 6) (B : Nat) (hI : Inv B T) (hch : ∀ j, j < len → ch j < 128) (hlen : len ≤ 60) (hB : B + 200000 < 2000000000) (hc : p_cpl ch len (0, 0, 0, 0) = true) : q_H l yL_run wsL_run { frames := 7, cells := 1, slots := 6, locals := 164 } [.ref (z.o), .ref oa] st D z oa cJ (CS z D ol sn hs T S G len ch) g 0 (CS z D (so ol sn) (svn sn) hs ((xr ch len len 0 (0, 0, 0, 0) T).2) S (updG G (sr ol sn) T) 0 ch) ((nI (xr ch len len 0 (0, 0, 0, 0) T).1).toInt64) := by
  refine q_goH (cc := cL_run) (maxL := 3) (hh := [(0, 8, 11, 15)]) (lv0 := [(0, .ref (z.o)), (1, .ref oa)]) (by decide) rfl (Nat.le_of_ble_eq_true rfl) rfl ?_
  intro p e s m args below meth c Q ls hx hb hml hts hown hC hO hK hT hl htab hret
  obtain ⟨Y, P, hsm, hP⟩ := hC
  have hD := q_D2 (ws' := wX z ol sn hs T S Y G len P ch) hDX rfl
  have hS : va_S (AXo z oa) s.heap s.heap [] := va_S.rf
  refine lv_aload_n hx hb dL_run_0 rfl (lv_at hl 1 rfl) ?_
  refine lv_iconst (v := nI 0) hx hb dL_run_1 (by decide) ?_
  refine lv_aload_n hx hb dL_run_2 rfl (lv_at hl 0 rfl) ?_
  refine q_ciK (BH := CS z D (so ol sn) (svn sn) hs ((xr ch len len 0 (0, 0, 0, 0) T).2) S (updG G (sr ol sn) T) 0 ch) (va_runV (rm := { frames := 6, cells := 0, slots := 0, locals := 141 }) (As := []) (rest := [.int (nI 0), .ref oa]) ⟨hx, hb, hml, hown, hts⟩ (m2_run_ok l D z ol sn hs hol hsn T S Y G len P ch B hI hsm hch hlen hB (p_si_cpl.trans hc) hD) (cwV 0 hts gL_run_X2_run rfl rfl rfl (by decide +kernel) ⟨Nat.le_of_ble_eq_true rfl, Nat.le_of_ble_eq_true rfl⟩) (q_pV (ci := 2) (q0 := 0) hP (hK.sub [0, 1] rfl) rfl rfl) rfl rfl hl.1 rfl (lv_room (Nat.le_of_ble_eq_true rfl)) dL_run_3 ⟨Nat.le_of_ble_eq_true rfl, Nat.le_of_ble_eq_true rfl⟩) (fun t h => (by obtain ⟨P2, h2, h3⟩ := h; rw [xr_ind (R := (p_fe ch len 0 (0, P.2))) (R' := (0, 0, 0, 0)) hc] at h3; exact ⟨_, P2, h2, h3⟩)) hS (fun q h => Or.inl h) (fun x H locs ex hC hk hS => ?_)
  have hO := wO_kept hO hoa hk
  have ex : x = nI (xr ch len len 0 (0, 0, 0, 0) T).1 := Eq.trans ex (congrArg (fun q => nI q.1) (xr_ind (R := (p_fe ch len 0 (0, P.2))) (R' := (0, 0, 0, 0)) hc))
  refine lv_i2l (v := x.toInt64) hx hb dL_run_6 rfl ?_
  refine q_lst0 hx hb hK hO hS 2 rfl (Or.inr rfl) dL_run_7 (fun H locs hO hk hS => ?_)
  have hC := hC.kept (B := fun q => q = oa) (fun q h (e : q = oa) => hoa (e ▸ h)) hk
  refine lv_goto (tgt := 14) hx hb dL_run_8 (by decide) ?_
  refine lv_iconst (v := nI 0) hx hb dL_run_14 (by decide) ?_
  refine W.widen (k := 1) (n := 6) (Nat.le_of_ble_eq_true rfl) (Nat.le_of_ble_eq_true rfl) ?_
  rw [ex] at hO
  exact hret _ _ _ _ _ rfl hC hO hS dL_run_15
set_option maxHeartbeats 4000000 in
set_option maxRecDepth 100000 in
theorem L_run_1 (l : Launch) (hl9 : l.stackTraces = false) (D : va_G) (st : Nat → Nat) (z : Ad) (oa : Nat) (cJ : ClassId) (hoa : ¬ AX z oa) (hDX : va_D (fun _ => True) (wX z 0 0 0 f00 f00 f00 (fun _ => f00) 0 (0, 0, 0, 0) (fun _ => 0))) (g : Int64) (ol sn hs : Nat) (T S : Nat → Int32) (G : Nat → Nat → Int32) (len : Nat) (ch : Nat → Nat) (hch : ∀ j, j < len → ch j < 128) (hlen : len ≤ 60) (hc : p_cpl ch len (0, 0, 0, 0) = false) : q_H l yL_run wsL_run { frames := 7, cells := 1, slots := 6, locals := 164 } [.ref (z.o), .ref oa] st D z oa cJ (CS z D ol sn hs T S G len ch) g 1 (CS z D ol sn hs T S G len ch) (g) := by
  refine q_goH (cc := cL_run) (maxL := 3) (hh := [(0, 8, 11, 15)]) (lv0 := [(0, .ref (z.o)), (1, .ref oa)]) (by decide) rfl (Nat.le_of_ble_eq_true rfl) rfl ?_
  intro p e s m args below meth c Q ls hx hb hml hts hown hC hO hK hT hl htab hret
  obtain ⟨Y, P, hsm, hP⟩ := hC
  have hD := q_D2 (ws' := wX z ol sn hs T S Y G len P ch) hDX rfl
  have hS : va_S (AXo z oa) s.heap s.heap [] := va_S.rf
  refine lv_aload_n hx hb dL_run_0 rfl (lv_at hl 1 rfl) ?_
  refine lv_iconst (v := nI 0) hx hb dL_run_1 (by decide) ?_
  refine lv_aload_n hx hb dL_run_2 rfl (lv_at hl 0 rfl) ?_
  refine q_ctch (E := xA.cls) (own := RL) (name := xA.cls) (hh := [(0, 8, 11, 15)]) (vx_runV (rm := { frames := 6, cells := 1, slots := 6, locals := 106 }) (As := []) (rest := [.int (nI 0), .ref oa]) ⟨hx, hb, hml, hown, hts⟩ (m2_run_1 l hl9 D st z ol sn hs T S Y G len P ch hsm hch hlen (p_si_cpl.trans hc) hD) (cwV 0 hts gL_run_X2_run rfl rfl rfl (by decide +kernel) ⟨Nat.le_of_ble_eq_true rfl, Nat.le_of_ble_eq_true rfl⟩) (q_pVX (ci := 2) (q0 := 0) hP (hK.sub [0, 1] rfl) hT.1 hS (fun q h => Or.inl h) rfl rfl) rfl rfl hl.1 rfl (lv_room (Nat.le_of_ble_eq_true rfl)) dL_run_3 ⟨Nat.le_of_ble_eq_true rfl, Nat.le_of_ble_eq_true rfl⟩) hS (fun q h => Or.inl h) hown htab (tableOf []) ⟨0, 8, 11, 15⟩ (tableOf []) rfl (fun _ h => nomatch h) rfl (by decide) (hts (.classLink RL 15 xA.cls) (by decide +kernel)) (va_Nw.use rfl hT.1.c2) (fun q H locs hP2 hk hS => ?_)
  have hC : CS z D ol sn hs T S G len ch H := ⟨_, _, (p_smE hch (show p_sm (0, P.2) from ⟨Nat.zero_le _, hsm.2⟩) len 0 (by omega)), hP2⟩
  have hO := wO_kept hO hoa hk
  refine lv_astore_n (lv' := [(2, .ref q), (0, .ref (z.o)), (1, .ref oa)]) hx hb dL_run_11 rfl hl (by decide) rfl (fun ls hl => ?_)
  refine lv_iconst (v := nI 1) hx hb dL_run_12 (by decide) ?_
  exact hret _ _ _ _ _ rfl hC hO hS dL_run_13
set_option maxHeartbeats 4000000 in
set_option maxRecDepth 100000 in
theorem L_goBack_ok (l : Launch) (hl9 : l.stackTraces = false) (D : va_G) (st : Nat → Nat) (z : Ad) (oa : Nat) (cJ : ClassId) (hoa : ¬ AX z oa) (hDX : va_D (fun _ => True) (wX z 0 0 0 f00 f00 f00 (fun _ => f00) 0 (0, 0, 0, 0) (fun _ => 0))) (g : Int64) (ol sn : Nat) (T S : Nat → Int32) (G : Nat → Nat → Int32) (len : Nat) (ch : Nat → Nat) (hol : ol < 6) (hsn : sn ≤ 6) (B : Nat) (hI : Inv B T)  : q_H l yL_goBack wsL_goBack { frames := 7, cells := 1, slots := 6, locals := 121 } [.ref (z.o), .ref oa] st D z oa cJ (CS z D ol sn 1 T S G len ch) g 0 (CS z D (so ol sn) (svn sn) 1 S S (updG G (sr ol sn) T) len ch) ((g_sm S 75 3).toInt64) := by
  refine q_goH (cc := cL_goBack) (maxL := 3) (hh := [(0, 8, 11, 21)]) (lv0 := [(0, .ref (z.o)), (1, .ref oa)]) (by decide) rfl (Nat.le_of_ble_eq_true rfl) rfl ?_
  intro p e s m args below meth c Q ls hx hb hml hts hown hC hO hK hT hl htab hret
  obtain ⟨Y, P, hsm, hP⟩ := hC
  have hD := q_D2 (ws' := wX z ol sn 1 T S Y G len P ch) hDX rfl
  have hS : va_S (AXo z oa) s.heap s.heap [] := va_S.rf
  refine lv_aload_n hx hb dL_goBack_0 rfl (lv_at hl 1 rfl) ?_
  refine lv_iconst (v := nI 0) hx hb dL_goBack_1 (by decide) ?_
  refine lv_aload_n hx hb dL_goBack_2 rfl (lv_at hl 0 rfl) ?_
  refine q_ciK (BH := CS z D (so ol sn) (svn sn) 1 S S (updG G (sr ol sn) T) len ch) (va_runV (rm := { frames := 3, cells := 0, slots := 0, locals := 101 }) (As := []) (rest := [.int (nI 0), .ref oa]) ⟨hx, hb, hml, hown, hts⟩ (m2_goBack_ok l D z ol sn hol hsn T S Y G len P ch B hI hD) (cwV 0 hts gL_goBack_X2_goBack rfl rfl rfl (by decide +kernel) ⟨Nat.le_of_ble_eq_true rfl, Nat.le_of_ble_eq_true rfl⟩) (q_pV (ci := 2) (q0 := 0) hP (hK.sub [0, 1] rfl) rfl rfl) rfl rfl hl.1 rfl (lv_room (Nat.le_of_ble_eq_true rfl)) dL_goBack_3 ⟨Nat.le_of_ble_eq_true rfl, Nat.le_of_ble_eq_true rfl⟩) (fun t h => ⟨_, _, hsm, h⟩) hS (fun q h => Or.inl h) (fun x H locs ex hC hk hS => ?_)
  have hO := wO_kept hO hoa hk
  have ex : x = g_sm S 75 3 := ex
  refine lv_i2l (v := x.toInt64) hx hb dL_goBack_6 rfl ?_
  refine q_lst0 hx hb hK hO hS 2 rfl (Or.inr rfl) dL_goBack_7 (fun H locs hO hk hS => ?_)
  have hC := hC.kept (B := fun q => q = oa) (fun q h (e : q = oa) => hoa (e ▸ h)) hk
  refine lv_goto (tgt := 14) hx hb dL_goBack_8 (by decide) ?_
  refine lv_iconst (v := nI 0) hx hb dL_goBack_14 (by decide) ?_
  refine W.widen (k := 1) (n := 6) (Nat.le_of_ble_eq_true rfl) (Nat.le_of_ble_eq_true rfl) ?_
  rw [ex] at hO
  exact hret _ _ _ _ _ rfl hC hO hS dL_goBack_15
set_option maxHeartbeats 4000000 in
set_option maxRecDepth 100000 in
theorem L_goBack_1 (l : Launch) (hl9 : l.stackTraces = false) (D : va_G) (st : Nat → Nat) (z : Ad) (oa : Nat) (cJ : ClassId) (hoa : ¬ AX z oa) (hDX : va_D (fun _ => True) (wX z 0 0 0 f00 f00 f00 (fun _ => f00) 0 (0, 0, 0, 0) (fun _ => 0))) (g : Int64) (ol sn : Nat) (T S : Nat → Int32) (G : Nat → Nat → Int32) (len : Nat) (ch : Nat → Nat)  : q_H l yL_goBack wsL_goBack { frames := 7, cells := 1, slots := 6, locals := 121 } [.ref (z.o), .ref oa] st D z oa cJ (CS z D ol sn 0 T S G len ch) g 1 (CS z D ol sn 0 T S G len ch) (g) := by
  refine q_goH (cc := cL_goBack) (maxL := 3) (hh := [(0, 8, 11, 21)]) (lv0 := [(0, .ref (z.o)), (1, .ref oa)]) (by decide) rfl (Nat.le_of_ble_eq_true rfl) rfl ?_
  intro p e s m args below meth c Q ls hx hb hml hts hown hC hO hK hT hl htab hret
  obtain ⟨Y, P, hsm, hP⟩ := hC
  have hD := q_D2 (ws' := wX z ol sn 0 T S Y G len P ch) hDX rfl
  have hS : va_S (AXo z oa) s.heap s.heap [] := va_S.rf
  refine lv_aload_n hx hb dL_goBack_0 rfl (lv_at hl 1 rfl) ?_
  refine lv_iconst (v := nI 0) hx hb dL_goBack_1 (by decide) ?_
  refine lv_aload_n hx hb dL_goBack_2 rfl (lv_at hl 0 rfl) ?_
  refine q_ctch (E := xS.cls) (own := RL) (name := xS.cls) (hh := [(0, 8, 11, 21)]) (vx_runV (rm := { frames := 6, cells := 1, slots := 6, locals := 82 }) (As := []) (rest := [.int (nI 0), .ref oa]) ⟨hx, hb, hml, hown, hts⟩ (m2_goBack_1 l hl9 D st z ol sn T S Y G len P ch) (cwV 0 hts gL_goBack_X2_goBack rfl rfl rfl (by decide +kernel) ⟨Nat.le_of_ble_eq_true rfl, Nat.le_of_ble_eq_true rfl⟩) (q_pVX (ci := 2) (q0 := 0) hP (hK.sub [0, 1] rfl) hT.1 hS (fun q h => Or.inl h) rfl rfl) rfl rfl hl.1 rfl (lv_room (Nat.le_of_ble_eq_true rfl)) dL_goBack_3 ⟨Nat.le_of_ble_eq_true rfl, Nat.le_of_ble_eq_true rfl⟩) hS (fun q h => h.elim) hown htab (tableOf []) ⟨0, 8, 11, 21⟩ (tableOf []) rfl (fun _ h => nomatch h) rfl (by decide) (hts (.classLink RL 21 xS.cls) (by decide +kernel)) (va_Nw.use rfl hT.1.c3) (fun q H locs hP2 hk hS => ?_)
  have hC : CS z D ol sn 0 T S G len ch H := ⟨_, _, hsm, hP2⟩
  have hO := wO_kept hO (fun h => h) hk
  refine lv_astore_n (lv' := [(2, .ref q), (0, .ref (z.o)), (1, .ref oa)]) hx hb dL_goBack_11 rfl hl (by decide) rfl (fun ls hl => ?_)
  refine lv_iconst (v := nI 1) hx hb dL_goBack_12 (by decide) ?_
  exact hret _ _ _ _ _ rfl hC hO hS dL_goBack_13
set_option maxHeartbeats 4000000 in
set_option maxRecDepth 100000 in
theorem L_undo_ok (l : Launch) (hl9 : l.stackTraces = false) (D : va_G) (st : Nat → Nat) (z : Ad) (oa : Nat) (cJ : ClassId) (hoa : ¬ AX z oa) (hDX : va_D (fun _ => True) (wX z 0 0 0 f00 f00 f00 (fun _ => f00) 0 (0, 0, 0, 0) (fun _ => 0))) (g : Int64) (ol hs : Nat) (T S : Nat → Int32) (G : Nat → Nat → Int32) (len : Nat) (ch : Nat → Nat) (np : Nat) (hol : ol < 6) (hnp : np < 6) : q_H l yL_undo wsL_undo { frames := 7, cells := 1, slots := 6, locals := 102 } [.ref (z.o), .ref oa] st D z oa cJ (CS z D ol (1 + np) hs T S G len ch) g 0 (CS z D ol np hs (G ((ol + np) % 6)) S G len ch) ((nI np).toInt64) := by
  refine q_goH (cc := cL_undo) (maxL := 3) (hh := [(0, 8, 11, 21)]) (lv0 := [(0, .ref (z.o)), (1, .ref oa)]) (by decide) rfl (Nat.le_of_ble_eq_true rfl) rfl ?_
  intro p e s m args below meth c Q ls hx hb hml hts hown hC hO hK hT hl htab hret
  obtain ⟨Y, P, hsm, hP⟩ := hC
  have hD := q_D2 (ws' := wX z ol (1 + np) hs T S Y G len P ch) hDX rfl
  have hS : va_S (AXo z oa) s.heap s.heap [] := va_S.rf
  refine lv_aload_n hx hb dL_undo_0 rfl (lv_at hl 1 rfl) ?_
  refine lv_iconst (v := nI 0) hx hb dL_undo_1 (by decide) ?_
  refine lv_aload_n hx hb dL_undo_2 rfl (lv_at hl 0 rfl) ?_
  refine q_ciK (BH := CS z D ol np hs (G ((ol + np) % 6)) S G len ch) (va_runV (rm := { frames := 2, cells := 0, slots := 0, locals := 81 }) (As := []) (rest := [.int (nI 0), .ref oa]) ⟨hx, hb, hml, hown, hts⟩ (m2_undo_ok l D z ol np hs T S Y G len P ch hol hnp hD) (cwV 0 hts gL_undo_X2_undo rfl rfl rfl (by decide +kernel) ⟨Nat.le_of_ble_eq_true rfl, Nat.le_of_ble_eq_true rfl⟩) (q_pV (ci := 2) (q0 := 0) hP (hK.sub [0, 1] rfl) rfl rfl) rfl rfl hl.1 rfl (lv_room (Nat.le_of_ble_eq_true rfl)) dL_undo_3 ⟨Nat.le_of_ble_eq_true rfl, Nat.le_of_ble_eq_true rfl⟩) (fun t h => ⟨_, _, hsm, h⟩) hS (fun q h => Or.inl h) (fun x H locs ex hC hk hS => ?_)
  have hO := wO_kept hO hoa hk
  have ex : x = nI np := ex
  refine lv_i2l (v := x.toInt64) hx hb dL_undo_6 rfl ?_
  refine q_lst0 hx hb hK hO hS 2 rfl (Or.inr rfl) dL_undo_7 (fun H locs hO hk hS => ?_)
  have hC := hC.kept (B := fun q => q = oa) (fun q h (e : q = oa) => hoa (e ▸ h)) hk
  refine lv_goto (tgt := 14) hx hb dL_undo_8 (by decide) ?_
  refine lv_iconst (v := nI 0) hx hb dL_undo_14 (by decide) ?_
  refine W.widen (k := 1) (n := 6) (Nat.le_of_ble_eq_true rfl) (Nat.le_of_ble_eq_true rfl) ?_
  rw [ex] at hO
  exact hret _ _ _ _ _ rfl hC hO hS dL_undo_15
set_option maxHeartbeats 4000000 in
set_option maxRecDepth 100000 in
theorem L_undo_1 (l : Launch) (hl9 : l.stackTraces = false) (D : va_G) (st : Nat → Nat) (z : Ad) (oa : Nat) (cJ : ClassId) (hoa : ¬ AX z oa) (hDX : va_D (fun _ => True) (wX z 0 0 0 f00 f00 f00 (fun _ => f00) 0 (0, 0, 0, 0) (fun _ => 0))) (g : Int64) (ol hs : Nat) (T S : Nat → Int32) (G : Nat → Nat → Int32) (len : Nat) (ch : Nat → Nat)  : q_H l yL_undo wsL_undo { frames := 7, cells := 1, slots := 6, locals := 102 } [.ref (z.o), .ref oa] st D z oa cJ (CS z D ol 0 hs T S G len ch) g 1 (CS z D ol 0 hs T S G len ch) (g) := by
  refine q_goH (cc := cL_undo) (maxL := 3) (hh := [(0, 8, 11, 21)]) (lv0 := [(0, .ref (z.o)), (1, .ref oa)]) (by decide) rfl (Nat.le_of_ble_eq_true rfl) rfl ?_
  intro p e s m args below meth c Q ls hx hb hml hts hown hC hO hK hT hl htab hret
  obtain ⟨Y, P, hsm, hP⟩ := hC
  have hD := q_D2 (ws' := wX z ol 0 hs T S Y G len P ch) hDX rfl
  have hS : va_S (AXo z oa) s.heap s.heap [] := va_S.rf
  refine lv_aload_n hx hb dL_undo_0 rfl (lv_at hl 1 rfl) ?_
  refine lv_iconst (v := nI 0) hx hb dL_undo_1 (by decide) ?_
  refine lv_aload_n hx hb dL_undo_2 rfl (lv_at hl 0 rfl) ?_
  refine q_ctch (E := xS.cls) (own := RL) (name := xS.cls) (hh := [(0, 8, 11, 21)]) (vx_runV (rm := { frames := 6, cells := 1, slots := 6, locals := 82 }) (As := []) (rest := [.int (nI 0), .ref oa]) ⟨hx, hb, hml, hown, hts⟩ (m2_undo_1 l hl9 D st z ol hs T S Y G len P ch) (cwV 0 hts gL_undo_X2_undo rfl rfl rfl (by decide +kernel) ⟨Nat.le_of_ble_eq_true rfl, Nat.le_of_ble_eq_true rfl⟩) (q_pVX (ci := 2) (q0 := 0) hP (hK.sub [0, 1] rfl) hT.1 hS (fun q h => Or.inl h) rfl rfl) rfl rfl hl.1 rfl (lv_room (Nat.le_of_ble_eq_true rfl)) dL_undo_3 ⟨Nat.le_of_ble_eq_true rfl, Nat.le_of_ble_eq_true rfl⟩) hS (fun q h => h.elim) hown htab (tableOf []) ⟨0, 8, 11, 21⟩ (tableOf []) rfl (fun _ h => nomatch h) rfl (by decide) (hts (.classLink RL 21 xS.cls) (by decide +kernel)) (va_Nw.use rfl hT.1.c3) (fun q H locs hP2 hk hS => ?_)
  have hC : CS z D ol 0 hs T S G len ch H := ⟨_, _, hsm, hP2⟩
  have hO := wO_kept hO (fun h => h) hk
  refine lv_astore_n (lv' := [(2, .ref q), (0, .ref (z.o)), (1, .ref oa)]) hx hb dL_undo_11 rfl hl (by decide) rfl (fun ls hl => ?_)
  refine lv_iconst (v := nI 1) hx hb dL_undo_12 (by decide) ?_
  exact hret _ _ _ _ _ rfl hC hO hS dL_undo_13
set_option maxHeartbeats 4000000 in
set_option maxRecDepth 100000 in
theorem L_guest_ok (l : Launch) (hl9 : l.stackTraces = false) (D : va_G) (st : Nat → Nat) (z : Ad) (oa : Nat) (cJ : ClassId) (hoa : ¬ AX z oa) (hDX : va_D (fun _ => True) (wX z 0 0 0 f00 f00 f00 (fun _ => f00) 0 (0, 0, 0, 0) (fun _ => 0))) (g : Int64) (ol sn hs : Nat) (T S : Nat → Int32) (G : Nat → Nat → Int32) (len : Nat) (ch : Nat → Nat) (B : Nat) (hI : Inv B T) (n : Nat) (hg : n < 8) (w : Nat) (hw : w < 10) : q_H l yL_guest wsL_guest { frames := 8, cells := 1, slots := 6, locals := 126 } [.ref (z.o), .int (nI n), .int (nI w), .ref oa] st D z oa cJ (CS z D ol sn hs T S G len ch) g 0 (CS z D ol sn hs T S G len ch) ((g_gu T n w).toInt64) := by
  refine q_goH (cc := cL_guest) (maxL := 5) (hh := [(0, 10, 13, 13), (0, 10, 17, 15)]) (lv0 := [(0, .ref (z.o)), (1, .int (nI n)), (2, .int (nI w)), (3, .ref oa)]) (by decide) rfl (Nat.le_of_ble_eq_true rfl) rfl ?_
  intro p e s m args below meth c Q ls hx hb hml hts hown hC hO hK hT hl htab hret
  obtain ⟨Y, P, hsm, hP⟩ := hC
  have hD := q_D2 (ws' := wX z ol sn hs T S Y G len P ch) hDX rfl
  have hS : va_S (AXo z oa) s.heap s.heap [] := va_S.rf
  refine lv_aload_n hx hb dL_guest_0 rfl (lv_at hl 3 rfl) ?_
  refine lv_iconst (v := nI 0) hx hb dL_guest_1 (by decide) ?_
  refine lv_aload_n hx hb dL_guest_2 rfl (lv_at hl 0 rfl) ?_
  refine lv_iload_n hx hb dL_guest_3 rfl (lv_at hl 1 rfl) ?_
  refine lv_iload_n hx hb dL_guest_4 rfl (lv_at hl 2 rfl) ?_
  refine q_ciK (BH := fun _ => True) (va_runV (rm := { frames := 1, cells := 0, slots := 0, locals := 23 }) (As := [.int (nI n), .int (nI w)]) (rest := [.int (nI 0), .ref oa]) ⟨hx, hb, hml, hown, hts⟩ (m2_guest_ok l D z ol sn hs T S Y G len P ch B hI n hg w hw) (cwV 2 hts gL_guest_X2_guest rfl rfl rfl (by decide +kernel) ⟨Nat.le_of_ble_eq_true rfl, Nat.le_of_ble_eq_true rfl⟩) (q_pV (ci := 2) (q0 := 0) hP (hK.sub [0, 1] rfl) rfl rfl) rfl rfl hl.1 rfl (lv_room (Nat.le_of_ble_eq_true rfl)) dL_guest_5 ⟨Nat.le_of_ble_eq_true rfl, Nat.le_of_ble_eq_true rfl⟩) (fun t h => trivial) hS (fun q h => h.elim) (fun x H locs ex _ hk hS => ?_)
  have hO := wO_kept hO (fun h => h) hk
  have hC : CS z D ol sn hs T S G len ch H := CS.kept ⟨Y, P, hsm, hP⟩ (fun _ _ h => h) hk
  have ex : x = g_gu T n w := ex
  refine lv_i2l (v := x.toInt64) hx hb dL_guest_8 rfl ?_
  refine q_lst0 hx hb hK hO hS 2 rfl (Or.inr rfl) dL_guest_9 (fun H locs hO hk hS => ?_)
  have hC := hC.kept (B := fun q => q = oa) (fun q h (e : q = oa) => hoa (e ▸ h)) hk
  refine lv_goto (tgt := 21) hx hb dL_guest_10 (by decide) ?_
  refine lv_iconst (v := nI 0) hx hb dL_guest_21 (by decide) ?_
  refine W.widen (k := 1) (n := 6) (Nat.le_of_ble_eq_true rfl) (Nat.le_of_ble_eq_true rfl) ?_
  rw [ex] at hO
  exact hret _ _ _ _ _ rfl hC hO hS dL_guest_22
set_option maxHeartbeats 4000000 in
set_option maxRecDepth 100000 in
theorem L_guest_1 (l : Launch) (hl9 : l.stackTraces = false) (D : va_G) (st : Nat → Nat) (z : Ad) (oa : Nat) (cJ : ClassId) (hoa : ¬ AX z oa) (hDX : va_D (fun _ => True) (wX z 0 0 0 f00 f00 f00 (fun _ => f00) 0 (0, 0, 0, 0) (fun _ => 0))) (g : Int64) (ol sn hs : Nat) (T S : Nat → Int32) (G : Nat → Nat → Int32) (len : Nat) (ch : Nat → Nat) (B : Nat) (hI : Inv B T) (x0 xw : Int32) (h0q : q_in (nI 0) (nI 7) x0 = false) : q_H l yL_guest wsL_guest { frames := 8, cells := 1, slots := 6, locals := 126 } [.ref (z.o), .int x0, .int xw, .ref oa] st D z oa cJ (CS z D ol sn hs T S G len ch) g 1 (CS z D ol sn hs T S G len ch) (g) := by
  refine q_goH (cc := cL_guest) (maxL := 5) (hh := [(0, 10, 13, 13), (0, 10, 17, 15)]) (lv0 := [(0, .ref (z.o)), (1, .int x0), (2, .int xw), (3, .ref oa)]) (by decide) rfl (Nat.le_of_ble_eq_true rfl) rfl ?_
  intro p e s m args below meth c Q ls hx hb hml hts hown hC hO hK hT hl htab hret
  obtain ⟨Y, P, hsm, hP⟩ := hC
  have hD := q_D2 (ws' := wX z ol sn hs T S Y G len P ch) hDX rfl
  have hS : va_S (AXo z oa) s.heap s.heap [] := va_S.rf
  refine lv_aload_n hx hb dL_guest_0 rfl (lv_at hl 3 rfl) ?_
  refine lv_iconst (v := nI 0) hx hb dL_guest_1 (by decide) ?_
  refine lv_aload_n hx hb dL_guest_2 rfl (lv_at hl 0 rfl) ?_
  refine lv_iload_n hx hb dL_guest_3 rfl (lv_at hl 1 rfl) ?_
  refine lv_iload_n hx hb dL_guest_4 rfl (lv_at hl 2 rfl) ?_
  refine q_ctch (E := xI.cls) (own := RL) (name := xI.cls) (hh := [(0, 10, 13, 13), (0, 10, 17, 15)]) (vx_runV (rm := { frames := 7, cells := 1, slots := 6, locals := 102 }) (As := [.int x0, .int xw]) (rest := [.int (nI 0), .ref oa]) ⟨hx, hb, hml, hown, hts⟩ (m2_guest_1 l hl9 D st z ol sn hs T S Y G len P ch B hI x0 xw h0q) (cwV 2 hts gL_guest_X2_guest rfl rfl rfl (by decide +kernel) ⟨Nat.le_of_ble_eq_true rfl, Nat.le_of_ble_eq_true rfl⟩) (q_pVX (ci := 2) (q0 := 0) hP (hK.sub [0, 1] rfl) hT.1 hS (fun q h => Or.inl h) rfl rfl) rfl rfl hl.1 rfl (lv_room (Nat.le_of_ble_eq_true rfl)) dL_guest_5 ⟨Nat.le_of_ble_eq_true rfl, Nat.le_of_ble_eq_true rfl⟩) hS (fun q h => h.elim) hown htab (tableOf []) ⟨0, 10, 13, 13⟩ (tableOf [(0, 10, 17, 15)]) rfl (fun _ h => nomatch h) rfl (by decide) (hts (.classLink RL 13 xI.cls) (by decide +kernel)) (va_Nw.use rfl hT.1.c1) (fun q H locs hP2 hk hS => ?_)
  have hC : CS z D ol sn hs T S G len ch H := ⟨_, _, hsm, hP2⟩
  have hO := wO_kept hO (fun h => h) hk
  refine lv_astore (lv' := [(4, .ref q), (0, .ref (z.o)), (1, .int x0), (2, .int xw), (3, .ref oa)]) hx hb dL_guest_13 hl (by decide) rfl (fun ls hl => ?_)
  refine lv_iconst (v := nI 1) hx hb dL_guest_15 (by decide) ?_
  exact hret _ _ _ _ _ rfl hC hO hS dL_guest_16
set_option maxHeartbeats 4000000 in
set_option maxRecDepth 100000 in
theorem L_guest_2 (l : Launch) (hl9 : l.stackTraces = false) (D : va_G) (st : Nat → Nat) (z : Ad) (oa : Nat) (cJ : ClassId) (hoa : ¬ AX z oa) (hDX : va_D (fun _ => True) (wX z 0 0 0 f00 f00 f00 (fun _ => f00) 0 (0, 0, 0, 0) (fun _ => 0))) (g : Int64) (ol sn hs : Nat) (T S : Nat → Int32) (G : Nat → Nat → Int32) (len : Nat) (ch : Nat → Nat) (B : Nat) (hI : Inv B T) (n : Nat) (hg : n < 8) (xw : Int32) (h1q : q_in (nI 0) (nI 9) xw = false) : q_H l yL_guest wsL_guest { frames := 8, cells := 1, slots := 6, locals := 126 } [.ref (z.o), .int (nI n), .int xw, .ref oa] st D z oa cJ (CS z D ol sn hs T S G len ch) g 2 (CS z D ol sn hs T S G len ch) (g) := by
  refine q_goH (cc := cL_guest) (maxL := 5) (hh := [(0, 10, 13, 13), (0, 10, 17, 15)]) (lv0 := [(0, .ref (z.o)), (1, .int (nI n)), (2, .int xw), (3, .ref oa)]) (by decide) rfl (Nat.le_of_ble_eq_true rfl) rfl ?_
  intro p e s m args below meth c Q ls hx hb hml hts hown hC hO hK hT hl htab hret
  obtain ⟨Y, P, hsm, hP⟩ := hC
  have hD := q_D2 (ws' := wX z ol sn hs T S Y G len P ch) hDX rfl
  have hS : va_S (AXo z oa) s.heap s.heap [] := va_S.rf
  refine lv_aload_n hx hb dL_guest_0 rfl (lv_at hl 3 rfl) ?_
  refine lv_iconst (v := nI 0) hx hb dL_guest_1 (by decide) ?_
  refine lv_aload_n hx hb dL_guest_2 rfl (lv_at hl 0 rfl) ?_
  refine lv_iload_n hx hb dL_guest_3 rfl (lv_at hl 1 rfl) ?_
  refine lv_iload_n hx hb dL_guest_4 rfl (lv_at hl 2 rfl) ?_
  refine q_ctch (E := xA.cls) (own := RL) (name := xA.cls) (hh := [(0, 10, 13, 13), (0, 10, 17, 15)]) (vx_runV (rm := { frames := 7, cells := 1, slots := 6, locals := 104 }) (As := [.int (nI n), .int xw]) (rest := [.int (nI 0), .ref oa]) ⟨hx, hb, hml, hown, hts⟩ (m2_guest_2 l hl9 D st z ol sn hs T S Y G len P ch B hI n hg xw h1q) (cwV 2 hts gL_guest_X2_guest rfl rfl rfl (by decide +kernel) ⟨Nat.le_of_ble_eq_true rfl, Nat.le_of_ble_eq_true rfl⟩) (q_pVX (ci := 2) (q0 := 0) hP (hK.sub [0, 1] rfl) hT.1 hS (fun q h => Or.inl h) rfl rfl) rfl rfl hl.1 rfl (lv_room (Nat.le_of_ble_eq_true rfl)) dL_guest_5 ⟨Nat.le_of_ble_eq_true rfl, Nat.le_of_ble_eq_true rfl⟩) hS (fun q h => h.elim) hown htab (tableOf [(0, 10, 13, 13)]) ⟨0, 10, 17, 15⟩ (tableOf []) rfl (fun zz hz => by rw [List.mem_singleton.mp hz]; exact Or.inr ⟨by decide, xI.cls, hts _ (by decide +kernel), hT.2.1⟩) rfl (by decide) (hts (.classLink RL 15 xA.cls) (by decide +kernel)) (va_Nw.use rfl hT.1.c2) (fun q H locs hP2 hk hS => ?_)
  have hC : CS z D ol sn hs T S G len ch H := ⟨_, _, hsm, hP2⟩
  have hO := wO_kept hO (fun h => h) hk
  refine lv_astore (lv' := [(4, .ref q), (0, .ref (z.o)), (1, .int (nI n)), (2, .int xw), (3, .ref oa)]) hx hb dL_guest_17 hl (by decide) rfl (fun ls hl => ?_)
  refine lv_iconst (v := nI 2) hx hb dL_guest_19 (by decide) ?_
  exact hret _ _ _ _ _ rfl hC hO hS dL_guest_20
set_option maxHeartbeats 4000000 in
set_option maxRecDepth 100000 in
theorem L_pot_ok (l : Launch) (hl9 : l.stackTraces = false) (D : va_G) (st : Nat → Nat) (z : Ad) (oa : Nat) (cJ : ClassId) (hoa : ¬ AX z oa) (hDX : va_D (fun _ => True) (wX z 0 0 0 f00 f00 f00 (fun _ => f00) 0 (0, 0, 0, 0) (fun _ => 0))) (g : Int64) (ol sn hs : Nat) (T S : Nat → Int32) (G : Nat → Nat → Int32) (len : Nat) (ch : Nat → Nat) (B : Nat) (hI : Inv B T) (n : Nat) (hk : n < 3) (w : Nat) (hw : w < 8) : q_H l yL_pot wsL_pot { frames := 8, cells := 1, slots := 6, locals := 126 } [.ref (z.o), .int (nI n), .int (nI w), .ref oa] st D z oa cJ (CS z D ol sn hs T S G len ch) g 0 (CS z D ol sn hs T S G len ch) ((g_po T n w).toInt64) := by
  refine q_goH (cc := cL_pot) (maxL := 5) (hh := [(0, 10, 13, 13), (0, 10, 17, 15)]) (lv0 := [(0, .ref (z.o)), (1, .int (nI n)), (2, .int (nI w)), (3, .ref oa)]) (by decide) rfl (Nat.le_of_ble_eq_true rfl) rfl ?_
  intro p e s m args below meth c Q ls hx hb hml hts hown hC hO hK hT hl htab hret
  obtain ⟨Y, P, hsm, hP⟩ := hC
  have hD := q_D2 (ws' := wX z ol sn hs T S Y G len P ch) hDX rfl
  have hS : va_S (AXo z oa) s.heap s.heap [] := va_S.rf
  refine lv_aload_n hx hb dL_pot_0 rfl (lv_at hl 3 rfl) ?_
  refine lv_iconst (v := nI 0) hx hb dL_pot_1 (by decide) ?_
  refine lv_aload_n hx hb dL_pot_2 rfl (lv_at hl 0 rfl) ?_
  refine lv_iload_n hx hb dL_pot_3 rfl (lv_at hl 1 rfl) ?_
  refine lv_iload_n hx hb dL_pot_4 rfl (lv_at hl 2 rfl) ?_
  refine q_ciK (BH := fun _ => True) (va_runV (rm := { frames := 2, cells := 0, slots := 0, locals := 44 }) (As := [.int (nI n), .int (nI w)]) (rest := [.int (nI 0), .ref oa]) ⟨hx, hb, hml, hown, hts⟩ (m2_pot_ok l D z ol sn hs T S Y G len P ch B hI n hk w hw) (cwV 2 hts gL_pot_X2_pot rfl rfl rfl (by decide +kernel) ⟨Nat.le_of_ble_eq_true rfl, Nat.le_of_ble_eq_true rfl⟩) (q_pV (ci := 2) (q0 := 0) hP (hK.sub [0, 1] rfl) rfl rfl) rfl rfl hl.1 rfl (lv_room (Nat.le_of_ble_eq_true rfl)) dL_pot_5 ⟨Nat.le_of_ble_eq_true rfl, Nat.le_of_ble_eq_true rfl⟩) (fun t h => trivial) hS (fun q h => h.elim) (fun x H locs ex _ hk hS => ?_)
  have hO := wO_kept hO (fun h => h) hk
  have hC : CS z D ol sn hs T S G len ch H := CS.kept ⟨Y, P, hsm, hP⟩ (fun _ _ h => h) hk
  have ex : x = g_po T n w := ex
  refine lv_i2l (v := x.toInt64) hx hb dL_pot_8 rfl ?_
  refine q_lst0 hx hb hK hO hS 2 rfl (Or.inr rfl) dL_pot_9 (fun H locs hO hk hS => ?_)
  have hC := hC.kept (B := fun q => q = oa) (fun q h (e : q = oa) => hoa (e ▸ h)) hk
  refine lv_goto (tgt := 21) hx hb dL_pot_10 (by decide) ?_
  refine lv_iconst (v := nI 0) hx hb dL_pot_21 (by decide) ?_
  refine W.widen (k := 1) (n := 6) (Nat.le_of_ble_eq_true rfl) (Nat.le_of_ble_eq_true rfl) ?_
  rw [ex] at hO
  exact hret _ _ _ _ _ rfl hC hO hS dL_pot_22
set_option maxHeartbeats 4000000 in
set_option maxRecDepth 100000 in
theorem L_pot_1 (l : Launch) (hl9 : l.stackTraces = false) (D : va_G) (st : Nat → Nat) (z : Ad) (oa : Nat) (cJ : ClassId) (hoa : ¬ AX z oa) (hDX : va_D (fun _ => True) (wX z 0 0 0 f00 f00 f00 (fun _ => f00) 0 (0, 0, 0, 0) (fun _ => 0))) (g : Int64) (ol sn hs : Nat) (T S : Nat → Int32) (G : Nat → Nat → Int32) (len : Nat) (ch : Nat → Nat) (B : Nat) (hI : Inv B T) (x0 xw : Int32) (h0q : q_in (nI 0) (nI 2) x0 = false) : q_H l yL_pot wsL_pot { frames := 8, cells := 1, slots := 6, locals := 126 } [.ref (z.o), .int x0, .int xw, .ref oa] st D z oa cJ (CS z D ol sn hs T S G len ch) g 1 (CS z D ol sn hs T S G len ch) (g) := by
  refine q_goH (cc := cL_pot) (maxL := 5) (hh := [(0, 10, 13, 13), (0, 10, 17, 15)]) (lv0 := [(0, .ref (z.o)), (1, .int x0), (2, .int xw), (3, .ref oa)]) (by decide) rfl (Nat.le_of_ble_eq_true rfl) rfl ?_
  intro p e s m args below meth c Q ls hx hb hml hts hown hC hO hK hT hl htab hret
  obtain ⟨Y, P, hsm, hP⟩ := hC
  have hD := q_D2 (ws' := wX z ol sn hs T S Y G len P ch) hDX rfl
  have hS : va_S (AXo z oa) s.heap s.heap [] := va_S.rf
  refine lv_aload_n hx hb dL_pot_0 rfl (lv_at hl 3 rfl) ?_
  refine lv_iconst (v := nI 0) hx hb dL_pot_1 (by decide) ?_
  refine lv_aload_n hx hb dL_pot_2 rfl (lv_at hl 0 rfl) ?_
  refine lv_iload_n hx hb dL_pot_3 rfl (lv_at hl 1 rfl) ?_
  refine lv_iload_n hx hb dL_pot_4 rfl (lv_at hl 2 rfl) ?_
  refine q_ctch (E := xI.cls) (own := RL) (name := xI.cls) (hh := [(0, 10, 13, 13), (0, 10, 17, 15)]) (vx_runV (rm := { frames := 7, cells := 1, slots := 6, locals := 102 }) (As := [.int x0, .int xw]) (rest := [.int (nI 0), .ref oa]) ⟨hx, hb, hml, hown, hts⟩ (m2_pot_1 l hl9 D st z ol sn hs T S Y G len P ch B hI x0 xw h0q) (cwV 2 hts gL_pot_X2_pot rfl rfl rfl (by decide +kernel) ⟨Nat.le_of_ble_eq_true rfl, Nat.le_of_ble_eq_true rfl⟩) (q_pVX (ci := 2) (q0 := 0) hP (hK.sub [0, 1] rfl) hT.1 hS (fun q h => Or.inl h) rfl rfl) rfl rfl hl.1 rfl (lv_room (Nat.le_of_ble_eq_true rfl)) dL_pot_5 ⟨Nat.le_of_ble_eq_true rfl, Nat.le_of_ble_eq_true rfl⟩) hS (fun q h => h.elim) hown htab (tableOf []) ⟨0, 10, 13, 13⟩ (tableOf [(0, 10, 17, 15)]) rfl (fun _ h => nomatch h) rfl (by decide) (hts (.classLink RL 13 xI.cls) (by decide +kernel)) (va_Nw.use rfl hT.1.c1) (fun q H locs hP2 hk hS => ?_)
  have hC : CS z D ol sn hs T S G len ch H := ⟨_, _, hsm, hP2⟩
  have hO := wO_kept hO (fun h => h) hk
  refine lv_astore (lv' := [(4, .ref q), (0, .ref (z.o)), (1, .int x0), (2, .int xw), (3, .ref oa)]) hx hb dL_pot_13 hl (by decide) rfl (fun ls hl => ?_)
  refine lv_iconst (v := nI 1) hx hb dL_pot_15 (by decide) ?_
  exact hret _ _ _ _ _ rfl hC hO hS dL_pot_16
set_option maxHeartbeats 4000000 in
set_option maxRecDepth 100000 in
theorem L_pot_2 (l : Launch) (hl9 : l.stackTraces = false) (D : va_G) (st : Nat → Nat) (z : Ad) (oa : Nat) (cJ : ClassId) (hoa : ¬ AX z oa) (hDX : va_D (fun _ => True) (wX z 0 0 0 f00 f00 f00 (fun _ => f00) 0 (0, 0, 0, 0) (fun _ => 0))) (g : Int64) (ol sn hs : Nat) (T S : Nat → Int32) (G : Nat → Nat → Int32) (len : Nat) (ch : Nat → Nat) (B : Nat) (hI : Inv B T) (n : Nat) (hk : n < 3) (xw : Int32) (h1q : q_in (nI 0) (nI 7) xw = false) : q_H l yL_pot wsL_pot { frames := 8, cells := 1, slots := 6, locals := 126 } [.ref (z.o), .int (nI n), .int xw, .ref oa] st D z oa cJ (CS z D ol sn hs T S G len ch) g 2 (CS z D ol sn hs T S G len ch) (g) := by
  refine q_goH (cc := cL_pot) (maxL := 5) (hh := [(0, 10, 13, 13), (0, 10, 17, 15)]) (lv0 := [(0, .ref (z.o)), (1, .int (nI n)), (2, .int xw), (3, .ref oa)]) (by decide) rfl (Nat.le_of_ble_eq_true rfl) rfl ?_
  intro p e s m args below meth c Q ls hx hb hml hts hown hC hO hK hT hl htab hret
  obtain ⟨Y, P, hsm, hP⟩ := hC
  have hD := q_D2 (ws' := wX z ol sn hs T S Y G len P ch) hDX rfl
  have hS : va_S (AXo z oa) s.heap s.heap [] := va_S.rf
  refine lv_aload_n hx hb dL_pot_0 rfl (lv_at hl 3 rfl) ?_
  refine lv_iconst (v := nI 0) hx hb dL_pot_1 (by decide) ?_
  refine lv_aload_n hx hb dL_pot_2 rfl (lv_at hl 0 rfl) ?_
  refine lv_iload_n hx hb dL_pot_3 rfl (lv_at hl 1 rfl) ?_
  refine lv_iload_n hx hb dL_pot_4 rfl (lv_at hl 2 rfl) ?_
  refine q_ctch (E := xA.cls) (own := RL) (name := xA.cls) (hh := [(0, 10, 13, 13), (0, 10, 17, 15)]) (vx_runV (rm := { frames := 7, cells := 1, slots := 6, locals := 104 }) (As := [.int (nI n), .int xw]) (rest := [.int (nI 0), .ref oa]) ⟨hx, hb, hml, hown, hts⟩ (m2_pot_2 l hl9 D st z ol sn hs T S Y G len P ch B hI n hk xw h1q) (cwV 2 hts gL_pot_X2_pot rfl rfl rfl (by decide +kernel) ⟨Nat.le_of_ble_eq_true rfl, Nat.le_of_ble_eq_true rfl⟩) (q_pVX (ci := 2) (q0 := 0) hP (hK.sub [0, 1] rfl) hT.1 hS (fun q h => Or.inl h) rfl rfl) rfl rfl hl.1 rfl (lv_room (Nat.le_of_ble_eq_true rfl)) dL_pot_5 ⟨Nat.le_of_ble_eq_true rfl, Nat.le_of_ble_eq_true rfl⟩) hS (fun q h => h.elim) hown htab (tableOf [(0, 10, 13, 13)]) ⟨0, 10, 17, 15⟩ (tableOf []) rfl (fun zz hz => by rw [List.mem_singleton.mp hz]; exact Or.inr ⟨by decide, xI.cls, hts _ (by decide +kernel), hT.2.1⟩) rfl (by decide) (hts (.classLink RL 15 xA.cls) (by decide +kernel)) (va_Nw.use rfl hT.1.c2) (fun q H locs hP2 hk hS => ?_)
  have hC : CS z D ol sn hs T S G len ch H := ⟨_, _, hsm, hP2⟩
  have hO := wO_kept hO (fun h => h) hk
  refine lv_astore (lv' := [(4, .ref q), (0, .ref (z.o)), (1, .int (nI n)), (2, .int xw), (3, .ref oa)]) hx hb dL_pot_17 hl (by decide) rfl (fun ls hl => ?_)
  refine lv_iconst (v := nI 2) hx hb dL_pot_19 (by decide) ?_
  exact hret _ _ _ _ _ rfl hC hO hS dL_pot_20
set_option maxHeartbeats 4000000 in
set_option maxRecDepth 100000 in
theorem L_told_ok (l : Launch) (hl9 : l.stackTraces = false) (D : va_G) (st : Nat → Nat) (z : Ad) (oa : Nat) (cJ : ClassId) (hoa : ¬ AX z oa) (hDX : va_D (fun _ => True) (wX z 0 0 0 f00 f00 f00 (fun _ => f00) 0 (0, 0, 0, 0) (fun _ => 0))) (g : Int64) (ol sn hs : Nat) (T S : Nat → Int32) (G : Nat → Nat → Int32) (len : Nat) (ch : Nat → Nat) (B : Nat) (hI : Inv B T) (n : Nat) (hk : n < 3) (v : Nat) (hg : v < 8) : q_H l yL_told wsL_told { frames := 8, cells := 1, slots := 6, locals := 124 } [.ref (z.o), .int (nI n), .int (nI v), .ref oa] st D z oa cJ (CS z D ol sn hs T S G len ch) g 0 (CS z D ol sn hs T S G len ch) ((T (87 + 8 * n + v)).toInt64) := by
  refine q_goH (cc := cL_told) (maxL := 5) (hh := [(0, 10, 13, 13)]) (lv0 := [(0, .ref (z.o)), (1, .int (nI n)), (2, .int (nI v)), (3, .ref oa)]) (by decide) rfl (Nat.le_of_ble_eq_true rfl) rfl ?_
  intro p e s m args below meth c Q ls hx hb hml hts hown hC hO hK hT hl htab hret
  obtain ⟨Y, P, hsm, hP⟩ := hC
  have hD := q_D2 (ws' := wX z ol sn hs T S Y G len P ch) hDX rfl
  have hS : va_S (AXo z oa) s.heap s.heap [] := va_S.rf
  refine lv_aload_n hx hb dL_told_0 rfl (lv_at hl 3 rfl) ?_
  refine lv_iconst (v := nI 0) hx hb dL_told_1 (by decide) ?_
  refine lv_aload_n hx hb dL_told_2 rfl (lv_at hl 0 rfl) ?_
  refine lv_iload_n hx hb dL_told_3 rfl (lv_at hl 1 rfl) ?_
  refine lv_iload_n hx hb dL_told_4 rfl (lv_at hl 2 rfl) ?_
  refine q_ciK (BH := fun _ => True) (va_runV (rm := { frames := 1, cells := 0, slots := 0, locals := 20 }) (As := [.int (nI n), .int (nI v)]) (rest := [.int (nI 0), .ref oa]) ⟨hx, hb, hml, hown, hts⟩ (m2_told_ok l D z ol sn hs T S Y G len P ch B hI n hk v hg) (cwV 2 hts gL_told_X2_told rfl rfl rfl (by decide +kernel) ⟨Nat.le_of_ble_eq_true rfl, Nat.le_of_ble_eq_true rfl⟩) (q_pV (ci := 2) (q0 := 0) hP (hK.sub [0, 1] rfl) rfl rfl) rfl rfl hl.1 rfl (lv_room (Nat.le_of_ble_eq_true rfl)) dL_told_5 ⟨Nat.le_of_ble_eq_true rfl, Nat.le_of_ble_eq_true rfl⟩) (fun t h => trivial) hS (fun q h => h.elim) (fun x H locs ex _ hk hS => ?_)
  have hO := wO_kept hO (fun h => h) hk
  have hC : CS z D ol sn hs T S G len ch H := CS.kept ⟨Y, P, hsm, hP⟩ (fun _ _ h => h) hk
  have ex : x = T (87 + 8 * n + v) := ex
  refine lv_i2l (v := x.toInt64) hx hb dL_told_8 rfl ?_
  refine q_lst0 hx hb hK hO hS 2 rfl (Or.inr rfl) dL_told_9 (fun H locs hO hk hS => ?_)
  have hC := hC.kept (B := fun q => q = oa) (fun q h (e : q = oa) => hoa (e ▸ h)) hk
  refine lv_goto (tgt := 17) hx hb dL_told_10 (by decide) ?_
  refine lv_iconst (v := nI 0) hx hb dL_told_17 (by decide) ?_
  refine W.widen (k := 1) (n := 6) (Nat.le_of_ble_eq_true rfl) (Nat.le_of_ble_eq_true rfl) ?_
  rw [ex] at hO
  exact hret _ _ _ _ _ rfl hC hO hS dL_told_18
set_option maxHeartbeats 4000000 in
set_option maxRecDepth 100000 in
theorem L_told_1a (l : Launch) (hl9 : l.stackTraces = false) (D : va_G) (st : Nat → Nat) (z : Ad) (oa : Nat) (cJ : ClassId) (hoa : ¬ AX z oa) (hDX : va_D (fun _ => True) (wX z 0 0 0 f00 f00 f00 (fun _ => f00) 0 (0, 0, 0, 0) (fun _ => 0))) (g : Int64) (ol sn hs : Nat) (T S : Nat → Int32) (G : Nat → Nat → Int32) (len : Nat) (ch : Nat → Nat) (B : Nat) (hI : Inv B T) (x0 xw : Int32) (h0q : q_in (nI 0) (nI 2) x0 = false) : q_H l yL_told wsL_told { frames := 8, cells := 1, slots := 6, locals := 124 } [.ref (z.o), .int x0, .int xw, .ref oa] st D z oa cJ (CS z D ol sn hs T S G len ch) g 1 (CS z D ol sn hs T S G len ch) (g) := by
  refine q_goH (cc := cL_told) (maxL := 5) (hh := [(0, 10, 13, 13)]) (lv0 := [(0, .ref (z.o)), (1, .int x0), (2, .int xw), (3, .ref oa)]) (by decide) rfl (Nat.le_of_ble_eq_true rfl) rfl ?_
  intro p e s m args below meth c Q ls hx hb hml hts hown hC hO hK hT hl htab hret
  obtain ⟨Y, P, hsm, hP⟩ := hC
  have hD := q_D2 (ws' := wX z ol sn hs T S Y G len P ch) hDX rfl
  have hS : va_S (AXo z oa) s.heap s.heap [] := va_S.rf
  refine lv_aload_n hx hb dL_told_0 rfl (lv_at hl 3 rfl) ?_
  refine lv_iconst (v := nI 0) hx hb dL_told_1 (by decide) ?_
  refine lv_aload_n hx hb dL_told_2 rfl (lv_at hl 0 rfl) ?_
  refine lv_iload_n hx hb dL_told_3 rfl (lv_at hl 1 rfl) ?_
  refine lv_iload_n hx hb dL_told_4 rfl (lv_at hl 2 rfl) ?_
  refine q_ctch (E := xI.cls) (own := RL) (name := xI.cls) (hh := [(0, 10, 13, 13)]) (vx_runV (rm := { frames := 7, cells := 1, slots := 6, locals := 102 }) (As := [.int x0, .int xw]) (rest := [.int (nI 0), .ref oa]) ⟨hx, hb, hml, hown, hts⟩ (m2_told_1a l hl9 D st z ol sn hs T S Y G len P ch B hI x0 xw h0q) (cwV 2 hts gL_told_X2_told rfl rfl rfl (by decide +kernel) ⟨Nat.le_of_ble_eq_true rfl, Nat.le_of_ble_eq_true rfl⟩) (q_pVX (ci := 2) (q0 := 0) hP (hK.sub [0, 1] rfl) hT.1 hS (fun q h => Or.inl h) rfl rfl) rfl rfl hl.1 rfl (lv_room (Nat.le_of_ble_eq_true rfl)) dL_told_5 ⟨Nat.le_of_ble_eq_true rfl, Nat.le_of_ble_eq_true rfl⟩) hS (fun q h => h.elim) hown htab (tableOf []) ⟨0, 10, 13, 13⟩ (tableOf []) rfl (fun _ h => nomatch h) rfl (by decide) (hts (.classLink RL 13 xI.cls) (by decide +kernel)) (va_Nw.use rfl hT.1.c1) (fun q H locs hP2 hk hS => ?_)
  have hC : CS z D ol sn hs T S G len ch H := ⟨_, _, hsm, hP2⟩
  have hO := wO_kept hO (fun h => h) hk
  refine lv_astore (lv' := [(4, .ref q), (0, .ref (z.o)), (1, .int x0), (2, .int xw), (3, .ref oa)]) hx hb dL_told_13 hl (by decide) rfl (fun ls hl => ?_)
  refine lv_iconst (v := nI 1) hx hb dL_told_15 (by decide) ?_
  exact hret _ _ _ _ _ rfl hC hO hS dL_told_16
set_option maxHeartbeats 4000000 in
set_option maxRecDepth 100000 in
theorem L_told_1b (l : Launch) (hl9 : l.stackTraces = false) (D : va_G) (st : Nat → Nat) (z : Ad) (oa : Nat) (cJ : ClassId) (hoa : ¬ AX z oa) (hDX : va_D (fun _ => True) (wX z 0 0 0 f00 f00 f00 (fun _ => f00) 0 (0, 0, 0, 0) (fun _ => 0))) (g : Int64) (ol sn hs : Nat) (T S : Nat → Int32) (G : Nat → Nat → Int32) (len : Nat) (ch : Nat → Nat) (B : Nat) (hI : Inv B T) (n : Nat) (hk : n < 3) (x0 : Int32) (h0q : q_in (nI 0) (nI 7) x0 = false) : q_H l yL_told wsL_told { frames := 8, cells := 1, slots := 6, locals := 124 } [.ref (z.o), .int (nI n), .int x0, .ref oa] st D z oa cJ (CS z D ol sn hs T S G len ch) g 1 (CS z D ol sn hs T S G len ch) (g) := by
  refine q_goH (cc := cL_told) (maxL := 5) (hh := [(0, 10, 13, 13)]) (lv0 := [(0, .ref (z.o)), (1, .int (nI n)), (2, .int x0), (3, .ref oa)]) (by decide) rfl (Nat.le_of_ble_eq_true rfl) rfl ?_
  intro p e s m args below meth c Q ls hx hb hml hts hown hC hO hK hT hl htab hret
  obtain ⟨Y, P, hsm, hP⟩ := hC
  have hD := q_D2 (ws' := wX z ol sn hs T S Y G len P ch) hDX rfl
  have hS : va_S (AXo z oa) s.heap s.heap [] := va_S.rf
  refine lv_aload_n hx hb dL_told_0 rfl (lv_at hl 3 rfl) ?_
  refine lv_iconst (v := nI 0) hx hb dL_told_1 (by decide) ?_
  refine lv_aload_n hx hb dL_told_2 rfl (lv_at hl 0 rfl) ?_
  refine lv_iload_n hx hb dL_told_3 rfl (lv_at hl 1 rfl) ?_
  refine lv_iload_n hx hb dL_told_4 rfl (lv_at hl 2 rfl) ?_
  refine q_ctch (E := xI.cls) (own := RL) (name := xI.cls) (hh := [(0, 10, 13, 13)]) (vx_runV (rm := { frames := 7, cells := 1, slots := 6, locals := 102 }) (As := [.int (nI n), .int x0]) (rest := [.int (nI 0), .ref oa]) ⟨hx, hb, hml, hown, hts⟩ (m2_told_1b l hl9 D st z ol sn hs T S Y G len P ch B hI n hk x0 h0q) (cwV 2 hts gL_told_X2_told rfl rfl rfl (by decide +kernel) ⟨Nat.le_of_ble_eq_true rfl, Nat.le_of_ble_eq_true rfl⟩) (q_pVX (ci := 2) (q0 := 0) hP (hK.sub [0, 1] rfl) hT.1 hS (fun q h => Or.inl h) rfl rfl) rfl rfl hl.1 rfl (lv_room (Nat.le_of_ble_eq_true rfl)) dL_told_5 ⟨Nat.le_of_ble_eq_true rfl, Nat.le_of_ble_eq_true rfl⟩) hS (fun q h => h.elim) hown htab (tableOf []) ⟨0, 10, 13, 13⟩ (tableOf []) rfl (fun _ h => nomatch h) rfl (by decide) (hts (.classLink RL 13 xI.cls) (by decide +kernel)) (va_Nw.use rfl hT.1.c1) (fun q H locs hP2 hk hS => ?_)
  have hC : CS z D ol sn hs T S G len ch H := ⟨_, _, hsm, hP2⟩
  have hO := wO_kept hO (fun h => h) hk
  refine lv_astore (lv' := [(4, .ref q), (0, .ref (z.o)), (1, .int (nI n)), (2, .int x0), (3, .ref oa)]) hx hb dL_told_13 hl (by decide) rfl (fun ls hl => ?_)
  refine lv_iconst (v := nI 1) hx hb dL_told_15 (by decide) ?_
  exact hret _ _ _ _ _ rfl hC hO hS dL_told_16
set_option maxHeartbeats 4000000 in
set_option maxRecDepth 100000 in
theorem L_tale_ok0 (l : Launch) (hl9 : l.stackTraces = false) (D : va_G) (st : Nat → Nat) (z : Ad) (oa : Nat) (cJ : ClassId) (hoa : ¬ AX z oa) (hDX : va_D (fun _ => True) (wX z 0 0 0 f00 f00 f00 (fun _ => f00) 0 (0, 0, 0, 0) (fun _ => 0))) (g : Int64) (ol sn hs : Nat) (T S : Nat → Int32) (G : Nat → Nat → Int32) (len : Nat) (ch : Nat → Nat) (B : Nat) (hI : Inv B T) (r : Nat) (hr : r < tN T) : q_H l yL_tale wsL_tale { frames := 8, cells := 1, slots := 6, locals := 127 } [.ref (z.o), .int (nI r), .int (nI 0), .ref oa] st D z oa cJ (CS z D ol sn hs T S G len ch) g 0 (CS z D ol sn hs T S G len ch) ((T (111 + r)).toInt64) := by
  refine q_goH (cc := cL_tale) (maxL := 5) (hh := [(0, 10, 13, 13), (0, 10, 17, 15)]) (lv0 := [(0, .ref (z.o)), (1, .int (nI r)), (2, .int (nI 0)), (3, .ref oa)]) (by decide) rfl (Nat.le_of_ble_eq_true rfl) rfl ?_
  intro p e s m args below meth c Q ls hx hb hml hts hown hC hO hK hT hl htab hret
  obtain ⟨Y, P, hsm, hP⟩ := hC
  have hD := q_D2 (ws' := wX z ol sn hs T S Y G len P ch) hDX rfl
  have hS : va_S (AXo z oa) s.heap s.heap [] := va_S.rf
  refine lv_aload_n hx hb dL_tale_0 rfl (lv_at hl 3 rfl) ?_
  refine lv_iconst (v := nI 0) hx hb dL_tale_1 (by decide) ?_
  refine lv_aload_n hx hb dL_tale_2 rfl (lv_at hl 0 rfl) ?_
  refine lv_iload_n hx hb dL_tale_3 rfl (lv_at hl 1 rfl) ?_
  refine lv_iload_n hx hb dL_tale_4 rfl (lv_at hl 2 rfl) ?_
  refine q_ciK (BH := fun _ => True) (va_runV (rm := { frames := 1, cells := 0, slots := 0, locals := 22 }) (As := [.int (nI r), .int (nI 0)]) (rest := [.int (nI 0), .ref oa]) ⟨hx, hb, hml, hown, hts⟩ (m2_tale_ok0 l D z ol sn hs T S Y G len P ch B hI r hr) (cwV 2 hts gL_tale_X2_tale rfl rfl rfl (by decide +kernel) ⟨Nat.le_of_ble_eq_true rfl, Nat.le_of_ble_eq_true rfl⟩) (q_pV (ci := 2) (q0 := 0) hP (hK.sub [0, 1] rfl) rfl rfl) rfl rfl hl.1 rfl (lv_room (Nat.le_of_ble_eq_true rfl)) dL_tale_5 ⟨Nat.le_of_ble_eq_true rfl, Nat.le_of_ble_eq_true rfl⟩) (fun t h => trivial) hS (fun q h => h.elim) (fun x H locs ex _ hk hS => ?_)
  have hO := wO_kept hO (fun h => h) hk
  have hC : CS z D ol sn hs T S G len ch H := CS.kept ⟨Y, P, hsm, hP⟩ (fun _ _ h => h) hk
  have ex : x = T (111 + r) := ex
  refine lv_i2l (v := x.toInt64) hx hb dL_tale_8 rfl ?_
  refine q_lst0 hx hb hK hO hS 2 rfl (Or.inr rfl) dL_tale_9 (fun H locs hO hk hS => ?_)
  have hC := hC.kept (B := fun q => q = oa) (fun q h (e : q = oa) => hoa (e ▸ h)) hk
  refine lv_goto (tgt := 21) hx hb dL_tale_10 (by decide) ?_
  refine lv_iconst (v := nI 0) hx hb dL_tale_21 (by decide) ?_
  refine W.widen (k := 1) (n := 6) (Nat.le_of_ble_eq_true rfl) (Nat.le_of_ble_eq_true rfl) ?_
  rw [ex] at hO
  exact hret _ _ _ _ _ rfl hC hO hS dL_tale_22
set_option maxHeartbeats 4000000 in
set_option maxRecDepth 100000 in
theorem L_tale_no0 (l : Launch) (hl9 : l.stackTraces = false) (D : va_G) (st : Nat → Nat) (z : Ad) (oa : Nat) (cJ : ClassId) (hoa : ¬ AX z oa) (hDX : va_D (fun _ => True) (wX z 0 0 0 f00 f00 f00 (fun _ => f00) 0 (0, 0, 0, 0) (fun _ => 0))) (g : Int64) (ol sn hs : Nat) (T S : Nat → Int32) (G : Nat → Nat → Int32) (len : Nat) (ch : Nat → Nat) (B : Nat) (hI : Inv B T) (xr : Int32) (h0 : ¬ xr < 0) (hr : ¬ xr < nI (tN T)) : q_H l yL_tale wsL_tale { frames := 8, cells := 1, slots := 6, locals := 127 } [.ref (z.o), .int xr, .int (nI 0), .ref oa] st D z oa cJ (CS z D ol sn hs T S G len ch) g 0 (CS z D ol sn hs T S G len ch) ((-1).toInt64) := by
  refine q_goH (cc := cL_tale) (maxL := 5) (hh := [(0, 10, 13, 13), (0, 10, 17, 15)]) (lv0 := [(0, .ref (z.o)), (1, .int xr), (2, .int (nI 0)), (3, .ref oa)]) (by decide) rfl (Nat.le_of_ble_eq_true rfl) rfl ?_
  intro p e s m args below meth c Q ls hx hb hml hts hown hC hO hK hT hl htab hret
  obtain ⟨Y, P, hsm, hP⟩ := hC
  have hD := q_D2 (ws' := wX z ol sn hs T S Y G len P ch) hDX rfl
  have hS : va_S (AXo z oa) s.heap s.heap [] := va_S.rf
  refine lv_aload_n hx hb dL_tale_0 rfl (lv_at hl 3 rfl) ?_
  refine lv_iconst (v := nI 0) hx hb dL_tale_1 (by decide) ?_
  refine lv_aload_n hx hb dL_tale_2 rfl (lv_at hl 0 rfl) ?_
  refine lv_iload_n hx hb dL_tale_3 rfl (lv_at hl 1 rfl) ?_
  refine lv_iload_n hx hb dL_tale_4 rfl (lv_at hl 2 rfl) ?_
  refine q_ciK (BH := fun _ => True) (va_runV (rm := { frames := 1, cells := 0, slots := 0, locals := 22 }) (As := [.int xr, .int (nI 0)]) (rest := [.int (nI 0), .ref oa]) ⟨hx, hb, hml, hown, hts⟩ (m2_tale_no0 l D z ol sn hs T S Y G len P ch B hI xr h0 hr) (cwV 2 hts gL_tale_X2_tale rfl rfl rfl (by decide +kernel) ⟨Nat.le_of_ble_eq_true rfl, Nat.le_of_ble_eq_true rfl⟩) (q_pV (ci := 2) (q0 := 0) hP (hK.sub [0, 1] rfl) rfl rfl) rfl rfl hl.1 rfl (lv_room (Nat.le_of_ble_eq_true rfl)) dL_tale_5 ⟨Nat.le_of_ble_eq_true rfl, Nat.le_of_ble_eq_true rfl⟩) (fun t h => trivial) hS (fun q h => h.elim) (fun x H locs ex _ hk hS => ?_)
  have hO := wO_kept hO (fun h => h) hk
  have hC : CS z D ol sn hs T S G len ch H := CS.kept ⟨Y, P, hsm, hP⟩ (fun _ _ h => h) hk
  have ex : x = -1 := ex
  refine lv_i2l (v := x.toInt64) hx hb dL_tale_8 rfl ?_
  refine q_lst0 hx hb hK hO hS 2 rfl (Or.inr rfl) dL_tale_9 (fun H locs hO hk hS => ?_)
  have hC := hC.kept (B := fun q => q = oa) (fun q h (e : q = oa) => hoa (e ▸ h)) hk
  refine lv_goto (tgt := 21) hx hb dL_tale_10 (by decide) ?_
  refine lv_iconst (v := nI 0) hx hb dL_tale_21 (by decide) ?_
  refine W.widen (k := 1) (n := 6) (Nat.le_of_ble_eq_true rfl) (Nat.le_of_ble_eq_true rfl) ?_
  rw [ex] at hO
  exact hret _ _ _ _ _ rfl hC hO hS dL_tale_22
set_option maxHeartbeats 4000000 in
set_option maxRecDepth 100000 in
theorem L_tale_ok1 (l : Launch) (hl9 : l.stackTraces = false) (D : va_G) (st : Nat → Nat) (z : Ad) (oa : Nat) (cJ : ClassId) (hoa : ¬ AX z oa) (hDX : va_D (fun _ => True) (wX z 0 0 0 f00 f00 f00 (fun _ => f00) 0 (0, 0, 0, 0) (fun _ => 0))) (g : Int64) (ol sn hs : Nat) (T S : Nat → Int32) (G : Nat → Nat → Int32) (len : Nat) (ch : Nat → Nat) (B : Nat) (hI : Inv B T) (r : Nat) (hr : r < tN T) : q_H l yL_tale wsL_tale { frames := 8, cells := 1, slots := 6, locals := 127 } [.ref (z.o), .int (nI r), .int (nI 1), .ref oa] st D z oa cJ (CS z D ol sn hs T S G len ch) g 0 (CS z D ol sn hs T S G len ch) ((T (87 + (T (111 + r)).toNatClampNeg)).toInt64) := by
  refine q_goH (cc := cL_tale) (maxL := 5) (hh := [(0, 10, 13, 13), (0, 10, 17, 15)]) (lv0 := [(0, .ref (z.o)), (1, .int (nI r)), (2, .int (nI 1)), (3, .ref oa)]) (by decide) rfl (Nat.le_of_ble_eq_true rfl) rfl ?_
  intro p e s m args below meth c Q ls hx hb hml hts hown hC hO hK hT hl htab hret
  obtain ⟨Y, P, hsm, hP⟩ := hC
  have hD := q_D2 (ws' := wX z ol sn hs T S Y G len P ch) hDX rfl
  have hS : va_S (AXo z oa) s.heap s.heap [] := va_S.rf
  refine lv_aload_n hx hb dL_tale_0 rfl (lv_at hl 3 rfl) ?_
  refine lv_iconst (v := nI 0) hx hb dL_tale_1 (by decide) ?_
  refine lv_aload_n hx hb dL_tale_2 rfl (lv_at hl 0 rfl) ?_
  refine lv_iload_n hx hb dL_tale_3 rfl (lv_at hl 1 rfl) ?_
  refine lv_iload_n hx hb dL_tale_4 rfl (lv_at hl 2 rfl) ?_
  refine q_ciK (BH := fun _ => True) (va_runV (rm := { frames := 1, cells := 0, slots := 0, locals := 22 }) (As := [.int (nI r), .int (nI 1)]) (rest := [.int (nI 0), .ref oa]) ⟨hx, hb, hml, hown, hts⟩ (m2_tale_ok1 l D z ol sn hs T S Y G len P ch B hI r hr) (cwV 2 hts gL_tale_X2_tale rfl rfl rfl (by decide +kernel) ⟨Nat.le_of_ble_eq_true rfl, Nat.le_of_ble_eq_true rfl⟩) (q_pV (ci := 2) (q0 := 0) hP (hK.sub [0, 1] rfl) rfl rfl) rfl rfl hl.1 rfl (lv_room (Nat.le_of_ble_eq_true rfl)) dL_tale_5 ⟨Nat.le_of_ble_eq_true rfl, Nat.le_of_ble_eq_true rfl⟩) (fun t h => trivial) hS (fun q h => h.elim) (fun x H locs ex _ hk hS => ?_)
  have hO := wO_kept hO (fun h => h) hk
  have hC : CS z D ol sn hs T S G len ch H := CS.kept ⟨Y, P, hsm, hP⟩ (fun _ _ h => h) hk
  have ex : x = T (87 + (T (111 + r)).toNatClampNeg) := ex
  refine lv_i2l (v := x.toInt64) hx hb dL_tale_8 rfl ?_
  refine q_lst0 hx hb hK hO hS 2 rfl (Or.inr rfl) dL_tale_9 (fun H locs hO hk hS => ?_)
  have hC := hC.kept (B := fun q => q = oa) (fun q h (e : q = oa) => hoa (e ▸ h)) hk
  refine lv_goto (tgt := 21) hx hb dL_tale_10 (by decide) ?_
  refine lv_iconst (v := nI 0) hx hb dL_tale_21 (by decide) ?_
  refine W.widen (k := 1) (n := 6) (Nat.le_of_ble_eq_true rfl) (Nat.le_of_ble_eq_true rfl) ?_
  rw [ex] at hO
  exact hret _ _ _ _ _ rfl hC hO hS dL_tale_22
set_option maxHeartbeats 4000000 in
set_option maxRecDepth 100000 in
theorem L_tale_no1 (l : Launch) (hl9 : l.stackTraces = false) (D : va_G) (st : Nat → Nat) (z : Ad) (oa : Nat) (cJ : ClassId) (hoa : ¬ AX z oa) (hDX : va_D (fun _ => True) (wX z 0 0 0 f00 f00 f00 (fun _ => f00) 0 (0, 0, 0, 0) (fun _ => 0))) (g : Int64) (ol sn hs : Nat) (T S : Nat → Int32) (G : Nat → Nat → Int32) (len : Nat) (ch : Nat → Nat) (B : Nat) (hI : Inv B T) (xr : Int32) (h0 : ¬ xr < 0) (hr : ¬ xr < nI (tN T)) : q_H l yL_tale wsL_tale { frames := 8, cells := 1, slots := 6, locals := 127 } [.ref (z.o), .int xr, .int (nI 1), .ref oa] st D z oa cJ (CS z D ol sn hs T S G len ch) g 0 (CS z D ol sn hs T S G len ch) ((-1).toInt64) := by
  refine q_goH (cc := cL_tale) (maxL := 5) (hh := [(0, 10, 13, 13), (0, 10, 17, 15)]) (lv0 := [(0, .ref (z.o)), (1, .int xr), (2, .int (nI 1)), (3, .ref oa)]) (by decide) rfl (Nat.le_of_ble_eq_true rfl) rfl ?_
  intro p e s m args below meth c Q ls hx hb hml hts hown hC hO hK hT hl htab hret
  obtain ⟨Y, P, hsm, hP⟩ := hC
  have hD := q_D2 (ws' := wX z ol sn hs T S Y G len P ch) hDX rfl
  have hS : va_S (AXo z oa) s.heap s.heap [] := va_S.rf
  refine lv_aload_n hx hb dL_tale_0 rfl (lv_at hl 3 rfl) ?_
  refine lv_iconst (v := nI 0) hx hb dL_tale_1 (by decide) ?_
  refine lv_aload_n hx hb dL_tale_2 rfl (lv_at hl 0 rfl) ?_
  refine lv_iload_n hx hb dL_tale_3 rfl (lv_at hl 1 rfl) ?_
  refine lv_iload_n hx hb dL_tale_4 rfl (lv_at hl 2 rfl) ?_
  refine q_ciK (BH := fun _ => True) (va_runV (rm := { frames := 1, cells := 0, slots := 0, locals := 22 }) (As := [.int xr, .int (nI 1)]) (rest := [.int (nI 0), .ref oa]) ⟨hx, hb, hml, hown, hts⟩ (m2_tale_no1 l D z ol sn hs T S Y G len P ch B hI xr h0 hr) (cwV 2 hts gL_tale_X2_tale rfl rfl rfl (by decide +kernel) ⟨Nat.le_of_ble_eq_true rfl, Nat.le_of_ble_eq_true rfl⟩) (q_pV (ci := 2) (q0 := 0) hP (hK.sub [0, 1] rfl) rfl rfl) rfl rfl hl.1 rfl (lv_room (Nat.le_of_ble_eq_true rfl)) dL_tale_5 ⟨Nat.le_of_ble_eq_true rfl, Nat.le_of_ble_eq_true rfl⟩) (fun t h => trivial) hS (fun q h => h.elim) (fun x H locs ex _ hk hS => ?_)
  have hO := wO_kept hO (fun h => h) hk
  have hC : CS z D ol sn hs T S G len ch H := CS.kept ⟨Y, P, hsm, hP⟩ (fun _ _ h => h) hk
  have ex : x = -1 := ex
  refine lv_i2l (v := x.toInt64) hx hb dL_tale_8 rfl ?_
  refine q_lst0 hx hb hK hO hS 2 rfl (Or.inr rfl) dL_tale_9 (fun H locs hO hk hS => ?_)
  have hC := hC.kept (B := fun q => q = oa) (fun q h (e : q = oa) => hoa (e ▸ h)) hk
  refine lv_goto (tgt := 21) hx hb dL_tale_10 (by decide) ?_
  refine lv_iconst (v := nI 0) hx hb dL_tale_21 (by decide) ?_
  refine W.widen (k := 1) (n := 6) (Nat.le_of_ble_eq_true rfl) (Nat.le_of_ble_eq_true rfl) ?_
  rw [ex] at hO
  exact hret _ _ _ _ _ rfl hC hO hS dL_tale_22
set_option maxHeartbeats 4000000 in
set_option maxRecDepth 100000 in
theorem L_tale_1 (l : Launch) (hl9 : l.stackTraces = false) (D : va_G) (st : Nat → Nat) (z : Ad) (oa : Nat) (cJ : ClassId) (hoa : ¬ AX z oa) (hDX : va_D (fun _ => True) (wX z 0 0 0 f00 f00 f00 (fun _ => f00) 0 (0, 0, 0, 0) (fun _ => 0))) (g : Int64) (ol sn hs : Nat) (T S : Nat → Int32) (G : Nat → Nat → Int32) (len : Nat) (ch : Nat → Nat) (B : Nat) (hI : Inv B T) (xr xw : Int32) (h0 : xr < 0) : q_H l yL_tale wsL_tale { frames := 8, cells := 1, slots := 6, locals := 127 } [.ref (z.o), .int xr, .int xw, .ref oa] st D z oa cJ (CS z D ol sn hs T S G len ch) g 1 (CS z D ol sn hs T S G len ch) (g) := by
  refine q_goH (cc := cL_tale) (maxL := 5) (hh := [(0, 10, 13, 13), (0, 10, 17, 15)]) (lv0 := [(0, .ref (z.o)), (1, .int xr), (2, .int xw), (3, .ref oa)]) (by decide) rfl (Nat.le_of_ble_eq_true rfl) rfl ?_
  intro p e s m args below meth c Q ls hx hb hml hts hown hC hO hK hT hl htab hret
  obtain ⟨Y, P, hsm, hP⟩ := hC
  have hD := q_D2 (ws' := wX z ol sn hs T S Y G len P ch) hDX rfl
  have hS : va_S (AXo z oa) s.heap s.heap [] := va_S.rf
  refine lv_aload_n hx hb dL_tale_0 rfl (lv_at hl 3 rfl) ?_
  refine lv_iconst (v := nI 0) hx hb dL_tale_1 (by decide) ?_
  refine lv_aload_n hx hb dL_tale_2 rfl (lv_at hl 0 rfl) ?_
  refine lv_iload_n hx hb dL_tale_3 rfl (lv_at hl 1 rfl) ?_
  refine lv_iload_n hx hb dL_tale_4 rfl (lv_at hl 2 rfl) ?_
  refine q_ctch (E := xI.cls) (own := RL) (name := xI.cls) (hh := [(0, 10, 13, 13), (0, 10, 17, 15)]) (vx_runV (rm := { frames := 6, cells := 1, slots := 6, locals := 82 }) (As := [.int xr, .int xw]) (rest := [.int (nI 0), .ref oa]) ⟨hx, hb, hml, hown, hts⟩ (m2_tale_1 l hl9 D st z ol sn hs T S Y G len P ch B hI xr xw h0) (cwV 2 hts gL_tale_X2_tale rfl rfl rfl (by decide +kernel) ⟨Nat.le_of_ble_eq_true rfl, Nat.le_of_ble_eq_true rfl⟩) (q_pVX (ci := 2) (q0 := 0) hP (hK.sub [0, 1] rfl) hT.1 hS (fun q h => Or.inl h) rfl rfl) rfl rfl hl.1 rfl (lv_room (Nat.le_of_ble_eq_true rfl)) dL_tale_5 ⟨Nat.le_of_ble_eq_true rfl, Nat.le_of_ble_eq_true rfl⟩) hS (fun q h => h.elim) hown htab (tableOf []) ⟨0, 10, 13, 13⟩ (tableOf [(0, 10, 17, 15)]) rfl (fun _ h => nomatch h) rfl (by decide) (hts (.classLink RL 13 xI.cls) (by decide +kernel)) (va_Nw.use rfl hT.1.c1) (fun q H locs hP2 hk hS => ?_)
  have hC : CS z D ol sn hs T S G len ch H := ⟨_, _, hsm, hP2⟩
  have hO := wO_kept hO (fun h => h) hk
  refine lv_astore (lv' := [(4, .ref q), (0, .ref (z.o)), (1, .int xr), (2, .int xw), (3, .ref oa)]) hx hb dL_tale_13 hl (by decide) rfl (fun ls hl => ?_)
  refine lv_iconst (v := nI 1) hx hb dL_tale_15 (by decide) ?_
  exact hret _ _ _ _ _ rfl hC hO hS dL_tale_16
set_option maxHeartbeats 4000000 in
set_option maxRecDepth 100000 in
theorem L_tale_2 (l : Launch) (hl9 : l.stackTraces = false) (D : va_G) (st : Nat → Nat) (z : Ad) (oa : Nat) (cJ : ClassId) (hoa : ¬ AX z oa) (hDX : va_D (fun _ => True) (wX z 0 0 0 f00 f00 f00 (fun _ => f00) 0 (0, 0, 0, 0) (fun _ => 0))) (g : Int64) (ol sn hs : Nat) (T S : Nat → Int32) (G : Nat → Nat → Int32) (len : Nat) (ch : Nat → Nat) (B : Nat) (hI : Inv B T) (xr xw : Int32) (h0 : ¬ xr < 0) (h1q : q_in (nI 0) (nI 1) xw = false) : q_H l yL_tale wsL_tale { frames := 8, cells := 1, slots := 6, locals := 127 } [.ref (z.o), .int xr, .int xw, .ref oa] st D z oa cJ (CS z D ol sn hs T S G len ch) g 2 (CS z D ol sn hs T S G len ch) (g) := by
  refine q_goH (cc := cL_tale) (maxL := 5) (hh := [(0, 10, 13, 13), (0, 10, 17, 15)]) (lv0 := [(0, .ref (z.o)), (1, .int xr), (2, .int xw), (3, .ref oa)]) (by decide) rfl (Nat.le_of_ble_eq_true rfl) rfl ?_
  intro p e s m args below meth c Q ls hx hb hml hts hown hC hO hK hT hl htab hret
  obtain ⟨Y, P, hsm, hP⟩ := hC
  have hD := q_D2 (ws' := wX z ol sn hs T S Y G len P ch) hDX rfl
  have hS : va_S (AXo z oa) s.heap s.heap [] := va_S.rf
  refine lv_aload_n hx hb dL_tale_0 rfl (lv_at hl 3 rfl) ?_
  refine lv_iconst (v := nI 0) hx hb dL_tale_1 (by decide) ?_
  refine lv_aload_n hx hb dL_tale_2 rfl (lv_at hl 0 rfl) ?_
  refine lv_iload_n hx hb dL_tale_3 rfl (lv_at hl 1 rfl) ?_
  refine lv_iload_n hx hb dL_tale_4 rfl (lv_at hl 2 rfl) ?_
  refine q_ctch (E := xA.cls) (own := RL) (name := xA.cls) (hh := [(0, 10, 13, 13), (0, 10, 17, 15)]) (vx_runV (rm := { frames := 7, cells := 1, slots := 6, locals := 104 }) (As := [.int xr, .int xw]) (rest := [.int (nI 0), .ref oa]) ⟨hx, hb, hml, hown, hts⟩ (m2_tale_2 l hl9 D st z ol sn hs T S Y G len P ch B hI xr xw h0 h1q) (cwV 2 hts gL_tale_X2_tale rfl rfl rfl (by decide +kernel) ⟨Nat.le_of_ble_eq_true rfl, Nat.le_of_ble_eq_true rfl⟩) (q_pVX (ci := 2) (q0 := 0) hP (hK.sub [0, 1] rfl) hT.1 hS (fun q h => Or.inl h) rfl rfl) rfl rfl hl.1 rfl (lv_room (Nat.le_of_ble_eq_true rfl)) dL_tale_5 ⟨Nat.le_of_ble_eq_true rfl, Nat.le_of_ble_eq_true rfl⟩) hS (fun q h => h.elim) hown htab (tableOf [(0, 10, 13, 13)]) ⟨0, 10, 17, 15⟩ (tableOf []) rfl (fun zz hz => by rw [List.mem_singleton.mp hz]; exact Or.inr ⟨by decide, xI.cls, hts _ (by decide +kernel), hT.2.1⟩) rfl (by decide) (hts (.classLink RL 15 xA.cls) (by decide +kernel)) (va_Nw.use rfl hT.1.c2) (fun q H locs hP2 hk hS => ?_)
  have hC : CS z D ol sn hs T S G len ch H := ⟨_, _, hsm, hP2⟩
  have hO := wO_kept hO (fun h => h) hk
  refine lv_astore (lv' := [(4, .ref q), (0, .ref (z.o)), (1, .int xr), (2, .int xw), (3, .ref oa)]) hx hb dL_tale_17 hl (by decide) rfl (fun ls hl => ?_)
  refine lv_iconst (v := nI 2) hx hb dL_tale_19 (by decide) ?_
  exact hret _ _ _ _ _ rfl hC hO hS dL_tale_20
set_option maxHeartbeats 4000000 in
set_option maxRecDepth 100000 in
theorem L_count_ok (l : Launch) (hl9 : l.stackTraces = false) (D : va_G) (st : Nat → Nat) (z : Ad) (oa : Nat) (cJ : ClassId) (hoa : ¬ AX z oa) (hDX : va_D (fun _ => True) (wX z 0 0 0 f00 f00 f00 (fun _ => f00) 0 (0, 0, 0, 0) (fun _ => 0))) (g : Int64) (ol sn hs : Nat) (T S : Nat → Int32) (G : Nat → Nat → Int32) (len : Nat) (ch : Nat → Nat) (w : Nat) (hw : w < 10) : q_H l yL_count wsL_count { frames := 8, cells := 1, slots := 6, locals := 125 } [.ref (z.o), .int (nI w), .ref oa] st D z oa cJ (CS z D ol sn hs T S G len ch) g 0 (CS z D ol sn hs T S G len ch) ((g_ct T sn w).toInt64) := by
  refine q_goH (cc := cL_count) (maxL := 4) (hh := [(0, 9, 12, 15)]) (lv0 := [(0, .ref (z.o)), (1, .int (nI w)), (2, .ref oa)]) (by decide) rfl (Nat.le_of_ble_eq_true rfl) rfl ?_
  intro p e s m args below meth c Q ls hx hb hml hts hown hC hO hK hT hl htab hret
  obtain ⟨Y, P, hsm, hP⟩ := hC
  have hD := q_D2 (ws' := wX z ol sn hs T S Y G len P ch) hDX rfl
  have hS : va_S (AXo z oa) s.heap s.heap [] := va_S.rf
  refine lv_aload_n hx hb dL_count_0 rfl (lv_at hl 2 rfl) ?_
  refine lv_iconst (v := nI 0) hx hb dL_count_1 (by decide) ?_
  refine lv_aload_n hx hb dL_count_2 rfl (lv_at hl 0 rfl) ?_
  refine lv_iload_n hx hb dL_count_3 rfl (lv_at hl 1 rfl) ?_
  refine q_ciK (BH := fun _ => True) (va_runV (rm := { frames := 3, cells := 0, slots := 0, locals := 65 }) (As := [.int (nI w)]) (rest := [.int (nI 0), .ref oa]) ⟨hx, hb, hml, hown, hts⟩ (m2_count_ok l D z ol sn hs T S Y G len P ch w hw) (cwV 1 hts gL_count_X2_count rfl rfl rfl (by decide +kernel) ⟨Nat.le_of_ble_eq_true rfl, Nat.le_of_ble_eq_true rfl⟩) (q_pV (ci := 2) (q0 := 0) hP (hK.sub [0, 1] rfl) rfl rfl) rfl rfl hl.1 rfl (lv_room (Nat.le_of_ble_eq_true rfl)) dL_count_4 ⟨Nat.le_of_ble_eq_true rfl, Nat.le_of_ble_eq_true rfl⟩) (fun t h => trivial) hS (fun q h => h.elim) (fun x H locs ex _ hk hS => ?_)
  have hO := wO_kept hO (fun h => h) hk
  have hC : CS z D ol sn hs T S G len ch H := CS.kept ⟨Y, P, hsm, hP⟩ (fun _ _ h => h) hk
  have ex : x = g_ct T sn w := ex
  refine lv_i2l (v := x.toInt64) hx hb dL_count_7 rfl ?_
  refine q_lst0 hx hb hK hO hS 2 rfl (Or.inr rfl) dL_count_8 (fun H locs hO hk hS => ?_)
  have hC := hC.kept (B := fun q => q = oa) (fun q h (e : q = oa) => hoa (e ▸ h)) hk
  refine lv_goto (tgt := 15) hx hb dL_count_9 (by decide) ?_
  refine lv_iconst (v := nI 0) hx hb dL_count_15 (by decide) ?_
  refine W.widen (k := 1) (n := 6) (Nat.le_of_ble_eq_true rfl) (Nat.le_of_ble_eq_true rfl) ?_
  rw [ex] at hO
  exact hret _ _ _ _ _ rfl hC hO hS dL_count_16
set_option maxHeartbeats 4000000 in
set_option maxRecDepth 100000 in
theorem L_count_1 (l : Launch) (hl9 : l.stackTraces = false) (D : va_G) (st : Nat → Nat) (z : Ad) (oa : Nat) (cJ : ClassId) (hoa : ¬ AX z oa) (hDX : va_D (fun _ => True) (wX z 0 0 0 f00 f00 f00 (fun _ => f00) 0 (0, 0, 0, 0) (fun _ => 0))) (g : Int64) (ol sn hs : Nat) (T S : Nat → Int32) (G : Nat → Nat → Int32) (len : Nat) (ch : Nat → Nat) (B : Nat) (hI : Inv B T) (xw : Int32) (h1q : q_in (nI 0) (nI 9) xw = false) : q_H l yL_count wsL_count { frames := 8, cells := 1, slots := 6, locals := 125 } [.ref (z.o), .int xw, .ref oa] st D z oa cJ (CS z D ol sn hs T S G len ch) g 1 (CS z D ol sn hs T S G len ch) (g) := by
  refine q_goH (cc := cL_count) (maxL := 4) (hh := [(0, 9, 12, 15)]) (lv0 := [(0, .ref (z.o)), (1, .int xw), (2, .ref oa)]) (by decide) rfl (Nat.le_of_ble_eq_true rfl) rfl ?_
  intro p e s m args below meth c Q ls hx hb hml hts hown hC hO hK hT hl htab hret
  obtain ⟨Y, P, hsm, hP⟩ := hC
  have hD := q_D2 (ws' := wX z ol sn hs T S Y G len P ch) hDX rfl
  have hS : va_S (AXo z oa) s.heap s.heap [] := va_S.rf
  refine lv_aload_n hx hb dL_count_0 rfl (lv_at hl 2 rfl) ?_
  refine lv_iconst (v := nI 0) hx hb dL_count_1 (by decide) ?_
  refine lv_aload_n hx hb dL_count_2 rfl (lv_at hl 0 rfl) ?_
  refine lv_iload_n hx hb dL_count_3 rfl (lv_at hl 1 rfl) ?_
  refine q_ctch (E := xA.cls) (own := RL) (name := xA.cls) (hh := [(0, 9, 12, 15)]) (vx_runV (rm := { frames := 7, cells := 1, slots := 6, locals := 104 }) (As := [.int xw]) (rest := [.int (nI 0), .ref oa]) ⟨hx, hb, hml, hown, hts⟩ (m2_count_1 l hl9 D st z ol sn hs T S Y G len P ch B hI xw h1q) (cwV 1 hts gL_count_X2_count rfl rfl rfl (by decide +kernel) ⟨Nat.le_of_ble_eq_true rfl, Nat.le_of_ble_eq_true rfl⟩) (q_pVX (ci := 2) (q0 := 0) hP (hK.sub [0, 1] rfl) hT.1 hS (fun q h => Or.inl h) rfl rfl) rfl rfl hl.1 rfl (lv_room (Nat.le_of_ble_eq_true rfl)) dL_count_4 ⟨Nat.le_of_ble_eq_true rfl, Nat.le_of_ble_eq_true rfl⟩) hS (fun q h => h.elim) hown htab (tableOf []) ⟨0, 9, 12, 15⟩ (tableOf []) rfl (fun _ h => nomatch h) rfl (by decide) (hts (.classLink RL 15 xA.cls) (by decide +kernel)) (va_Nw.use rfl hT.1.c2) (fun q H locs hP2 hk hS => ?_)
  have hC : CS z D ol sn hs T S G len ch H := ⟨_, _, hsm, hP2⟩
  have hO := wO_kept hO (fun h => h) hk
  refine lv_astore_n (lv' := [(3, .ref q), (0, .ref (z.o)), (1, .int xw), (2, .ref oa)]) hx hb dL_count_12 rfl hl (by decide) rfl (fun ls hl => ?_)
  refine lv_iconst (v := nI 1) hx hb dL_count_13 (by decide) ?_
  exact hret _ _ _ _ _ rfl hC hO hS dL_count_14
set_option maxHeartbeats 4000000 in
set_option maxRecDepth 100000 in
theorem L_ifPoured_ok (l : Launch) (hl9 : l.stackTraces = false) (D : va_G) (st : Nat → Nat) (z : Ad) (oa : Nat) (cJ : ClassId) (hoa : ¬ AX z oa) (hDX : va_D (fun _ => True) (wX z 0 0 0 f00 f00 f00 (fun _ => f00) 0 (0, 0, 0, 0) (fun _ => 0))) (g : Int64) (ol sn hs : Nat) (T S : Nat → Int32) (G : Nat → Nat → Int32) (len : Nat) (ch : Nat → Nat) (B : Nat) (hI : Inv B T) (n : Nat) (hk : n < 3) (w : Nat) (hw : w < 3) : q_H l yL_ifPoured wsL_ifPoured { frames := 8, cells := 1, slots := 6, locals := 126 } [.ref (z.o), .int (nI n), .int (nI w), .ref oa] st D z oa cJ (CS z D ol sn hs T S G len ch) g 0 (CS z D ol sn hs T S G len ch) ((g_br T n w).toInt64) := by
  refine q_goH (cc := cL_ifPoured) (maxL := 5) (hh := [(0, 10, 13, 13), (0, 10, 17, 15)]) (lv0 := [(0, .ref (z.o)), (1, .int (nI n)), (2, .int (nI w)), (3, .ref oa)]) (by decide) rfl (Nat.le_of_ble_eq_true rfl) rfl ?_
  intro p e s m args below meth c Q ls hx hb hml hts hown hC hO hK hT hl htab hret
  obtain ⟨Y, P, hsm, hP⟩ := hC
  have hD := q_D2 (ws' := wX z ol sn hs T S Y G len P ch) hDX rfl
  have hS : va_S (AXo z oa) s.heap s.heap [] := va_S.rf
  refine lv_aload_n hx hb dL_ifPoured_0 rfl (lv_at hl 3 rfl) ?_
  refine lv_iconst (v := nI 0) hx hb dL_ifPoured_1 (by decide) ?_
  refine lv_aload_n hx hb dL_ifPoured_2 rfl (lv_at hl 0 rfl) ?_
  refine lv_iload_n hx hb dL_ifPoured_3 rfl (lv_at hl 1 rfl) ?_
  refine lv_iload_n hx hb dL_ifPoured_4 rfl (lv_at hl 2 rfl) ?_
  refine q_ciK (BH := fun _ => True) (va_runV (rm := { frames := 4, cells := 0, slots := 0, locals := 91 }) (As := [.int (nI n), .int (nI w)]) (rest := [.int (nI 0), .ref oa]) ⟨hx, hb, hml, hown, hts⟩ (m2_ifPoured_ok l D z ol sn hs T S Y G len P ch B hI n hk w hw) (cwV 2 hts gL_ifPoured_X2_ifPoured rfl rfl rfl (by decide +kernel) ⟨Nat.le_of_ble_eq_true rfl, Nat.le_of_ble_eq_true rfl⟩) (q_pV (ci := 2) (q0 := 0) hP (hK.sub [0, 1] rfl) rfl rfl) rfl rfl hl.1 rfl (lv_room (Nat.le_of_ble_eq_true rfl)) dL_ifPoured_5 ⟨Nat.le_of_ble_eq_true rfl, Nat.le_of_ble_eq_true rfl⟩) (fun t h => trivial) hS (fun q h => h.elim) (fun x H locs ex _ hk hS => ?_)
  have hO := wO_kept hO (fun h => h) hk
  have hC : CS z D ol sn hs T S G len ch H := CS.kept ⟨Y, P, hsm, hP⟩ (fun _ _ h => h) hk
  have ex : x = g_br T n w := ex
  refine lv_i2l (v := x.toInt64) hx hb dL_ifPoured_8 rfl ?_
  refine q_lst0 hx hb hK hO hS 2 rfl (Or.inr rfl) dL_ifPoured_9 (fun H locs hO hk hS => ?_)
  have hC := hC.kept (B := fun q => q = oa) (fun q h (e : q = oa) => hoa (e ▸ h)) hk
  refine lv_goto (tgt := 21) hx hb dL_ifPoured_10 (by decide) ?_
  refine lv_iconst (v := nI 0) hx hb dL_ifPoured_21 (by decide) ?_
  refine W.widen (k := 1) (n := 6) (Nat.le_of_ble_eq_true rfl) (Nat.le_of_ble_eq_true rfl) ?_
  rw [ex] at hO
  exact hret _ _ _ _ _ rfl hC hO hS dL_ifPoured_22
set_option maxHeartbeats 4000000 in
set_option maxRecDepth 100000 in
theorem L_ifPoured_1 (l : Launch) (hl9 : l.stackTraces = false) (D : va_G) (st : Nat → Nat) (z : Ad) (oa : Nat) (cJ : ClassId) (hoa : ¬ AX z oa) (hDX : va_D (fun _ => True) (wX z 0 0 0 f00 f00 f00 (fun _ => f00) 0 (0, 0, 0, 0) (fun _ => 0))) (g : Int64) (ol sn hs : Nat) (T S : Nat → Int32) (G : Nat → Nat → Int32) (len : Nat) (ch : Nat → Nat) (B : Nat) (hI : Inv B T) (x0 xw : Int32) (h0q : q_in (nI 0) (nI 2) x0 = false) : q_H l yL_ifPoured wsL_ifPoured { frames := 8, cells := 1, slots := 6, locals := 126 } [.ref (z.o), .int x0, .int xw, .ref oa] st D z oa cJ (CS z D ol sn hs T S G len ch) g 1 (CS z D ol sn hs T S G len ch) (g) := by
  refine q_goH (cc := cL_ifPoured) (maxL := 5) (hh := [(0, 10, 13, 13), (0, 10, 17, 15)]) (lv0 := [(0, .ref (z.o)), (1, .int x0), (2, .int xw), (3, .ref oa)]) (by decide) rfl (Nat.le_of_ble_eq_true rfl) rfl ?_
  intro p e s m args below meth c Q ls hx hb hml hts hown hC hO hK hT hl htab hret
  obtain ⟨Y, P, hsm, hP⟩ := hC
  have hD := q_D2 (ws' := wX z ol sn hs T S Y G len P ch) hDX rfl
  have hS : va_S (AXo z oa) s.heap s.heap [] := va_S.rf
  refine lv_aload_n hx hb dL_ifPoured_0 rfl (lv_at hl 3 rfl) ?_
  refine lv_iconst (v := nI 0) hx hb dL_ifPoured_1 (by decide) ?_
  refine lv_aload_n hx hb dL_ifPoured_2 rfl (lv_at hl 0 rfl) ?_
  refine lv_iload_n hx hb dL_ifPoured_3 rfl (lv_at hl 1 rfl) ?_
  refine lv_iload_n hx hb dL_ifPoured_4 rfl (lv_at hl 2 rfl) ?_
  refine q_ctch (E := xI.cls) (own := RL) (name := xI.cls) (hh := [(0, 10, 13, 13), (0, 10, 17, 15)]) (vx_runV (rm := { frames := 7, cells := 1, slots := 6, locals := 102 }) (As := [.int x0, .int xw]) (rest := [.int (nI 0), .ref oa]) ⟨hx, hb, hml, hown, hts⟩ (m2_ifPoured_1 l hl9 D st z ol sn hs T S Y G len P ch B hI x0 xw h0q) (cwV 2 hts gL_ifPoured_X2_ifPoured rfl rfl rfl (by decide +kernel) ⟨Nat.le_of_ble_eq_true rfl, Nat.le_of_ble_eq_true rfl⟩) (q_pVX (ci := 2) (q0 := 0) hP (hK.sub [0, 1] rfl) hT.1 hS (fun q h => Or.inl h) rfl rfl) rfl rfl hl.1 rfl (lv_room (Nat.le_of_ble_eq_true rfl)) dL_ifPoured_5 ⟨Nat.le_of_ble_eq_true rfl, Nat.le_of_ble_eq_true rfl⟩) hS (fun q h => h.elim) hown htab (tableOf []) ⟨0, 10, 13, 13⟩ (tableOf [(0, 10, 17, 15)]) rfl (fun _ h => nomatch h) rfl (by decide) (hts (.classLink RL 13 xI.cls) (by decide +kernel)) (va_Nw.use rfl hT.1.c1) (fun q H locs hP2 hk hS => ?_)
  have hC : CS z D ol sn hs T S G len ch H := ⟨_, _, hsm, hP2⟩
  have hO := wO_kept hO (fun h => h) hk
  refine lv_astore (lv' := [(4, .ref q), (0, .ref (z.o)), (1, .int x0), (2, .int xw), (3, .ref oa)]) hx hb dL_ifPoured_13 hl (by decide) rfl (fun ls hl => ?_)
  refine lv_iconst (v := nI 1) hx hb dL_ifPoured_15 (by decide) ?_
  exact hret _ _ _ _ _ rfl hC hO hS dL_ifPoured_16
set_option maxHeartbeats 4000000 in
set_option maxRecDepth 100000 in
theorem L_ifPoured_2 (l : Launch) (hl9 : l.stackTraces = false) (D : va_G) (st : Nat → Nat) (z : Ad) (oa : Nat) (cJ : ClassId) (hoa : ¬ AX z oa) (hDX : va_D (fun _ => True) (wX z 0 0 0 f00 f00 f00 (fun _ => f00) 0 (0, 0, 0, 0) (fun _ => 0))) (g : Int64) (ol sn hs : Nat) (T S : Nat → Int32) (G : Nat → Nat → Int32) (len : Nat) (ch : Nat → Nat) (B : Nat) (hI : Inv B T) (n : Nat) (hk : n < 3) (xw : Int32) (h1q : q_in (nI 0) (nI 2) xw = false) : q_H l yL_ifPoured wsL_ifPoured { frames := 8, cells := 1, slots := 6, locals := 126 } [.ref (z.o), .int (nI n), .int xw, .ref oa] st D z oa cJ (CS z D ol sn hs T S G len ch) g 2 (CS z D ol sn hs T S G len ch) (g) := by
  refine q_goH (cc := cL_ifPoured) (maxL := 5) (hh := [(0, 10, 13, 13), (0, 10, 17, 15)]) (lv0 := [(0, .ref (z.o)), (1, .int (nI n)), (2, .int xw), (3, .ref oa)]) (by decide) rfl (Nat.le_of_ble_eq_true rfl) rfl ?_
  intro p e s m args below meth c Q ls hx hb hml hts hown hC hO hK hT hl htab hret
  obtain ⟨Y, P, hsm, hP⟩ := hC
  have hD := q_D2 (ws' := wX z ol sn hs T S Y G len P ch) hDX rfl
  have hS : va_S (AXo z oa) s.heap s.heap [] := va_S.rf
  refine lv_aload_n hx hb dL_ifPoured_0 rfl (lv_at hl 3 rfl) ?_
  refine lv_iconst (v := nI 0) hx hb dL_ifPoured_1 (by decide) ?_
  refine lv_aload_n hx hb dL_ifPoured_2 rfl (lv_at hl 0 rfl) ?_
  refine lv_iload_n hx hb dL_ifPoured_3 rfl (lv_at hl 1 rfl) ?_
  refine lv_iload_n hx hb dL_ifPoured_4 rfl (lv_at hl 2 rfl) ?_
  refine q_ctch (E := xA.cls) (own := RL) (name := xA.cls) (hh := [(0, 10, 13, 13), (0, 10, 17, 15)]) (vx_runV (rm := { frames := 7, cells := 1, slots := 6, locals := 104 }) (As := [.int (nI n), .int xw]) (rest := [.int (nI 0), .ref oa]) ⟨hx, hb, hml, hown, hts⟩ (m2_ifPoured_2 l hl9 D st z ol sn hs T S Y G len P ch B hI n hk xw h1q) (cwV 2 hts gL_ifPoured_X2_ifPoured rfl rfl rfl (by decide +kernel) ⟨Nat.le_of_ble_eq_true rfl, Nat.le_of_ble_eq_true rfl⟩) (q_pVX (ci := 2) (q0 := 0) hP (hK.sub [0, 1] rfl) hT.1 hS (fun q h => Or.inl h) rfl rfl) rfl rfl hl.1 rfl (lv_room (Nat.le_of_ble_eq_true rfl)) dL_ifPoured_5 ⟨Nat.le_of_ble_eq_true rfl, Nat.le_of_ble_eq_true rfl⟩) hS (fun q h => h.elim) hown htab (tableOf [(0, 10, 13, 13)]) ⟨0, 10, 17, 15⟩ (tableOf []) rfl (fun zz hz => by rw [List.mem_singleton.mp hz]; exact Or.inr ⟨by decide, xI.cls, hts _ (by decide +kernel), hT.2.1⟩) rfl (by decide) (hts (.classLink RL 15 xA.cls) (by decide +kernel)) (va_Nw.use rfl hT.1.c2) (fun q H locs hP2 hk hS => ?_)
  have hC : CS z D ol sn hs T S G len ch H := ⟨_, _, hsm, hP2⟩
  have hO := wO_kept hO (fun h => h) hk
  refine lv_astore (lv' := [(4, .ref q), (0, .ref (z.o)), (1, .int (nI n)), (2, .int xw), (3, .ref oa)]) hx hb dL_ifPoured_17 hl (by decide) rfl (fun ls hl => ?_)
  refine lv_iconst (v := nI 2) hx hb dL_ifPoured_19 (by decide) ?_
  exact hret _ _ _ _ _ rfl hC hO hS dL_ifPoured_20
set_option maxHeartbeats 4000000 in
set_option maxRecDepth 100000 in
theorem L_emptyIn_ok (l : Launch) (hl9 : l.stackTraces = false) (D : va_G) (st : Nat → Nat) (z : Ad) (oa : Nat) (cJ : ClassId) (hoa : ¬ AX z oa) (hDX : va_D (fun _ => True) (wX z 0 0 0 f00 f00 f00 (fun _ => f00) 0 (0, 0, 0, 0) (fun _ => 0))) (g : Int64) (ol sn hs : Nat) (T S : Nat → Int32) (G : Nat → Nat → Int32) (len : Nat) (ch : Nat → Nat) (B : Nat) (hI : Inv B T) (n : Nat) (hk : n < 3) (hB : B + 33600 < 2000000000) : q_H l yL_emptyIn wsL_emptyIn { frames := 8, cells := 1, slots := 6, locals := 140 } [.ref (z.o), .int (nI n), .ref oa] st D z oa cJ (CS z D ol sn hs T S G len ch) g 0 (CS z D ol sn hs T S G len ch) ((g_ei 21 0 T n).toInt64) := by
  refine q_goH (cc := cL_emptyIn) (maxL := 4) (hh := [(0, 9, 12, 13)]) (lv0 := [(0, .ref (z.o)), (1, .int (nI n)), (2, .ref oa)]) (by decide) rfl (Nat.le_of_ble_eq_true rfl) rfl ?_
  intro p e s m args below meth c Q ls hx hb hml hts hown hC hO hK hT hl htab hret
  obtain ⟨Y, P, hsm, hP⟩ := hC
  have hD := q_D2 (ws' := wX z ol sn hs T S Y G len P ch) hDX rfl
  have hS : va_S (AXo z oa) s.heap s.heap [] := va_S.rf
  refine lv_aload_n hx hb dL_emptyIn_0 rfl (lv_at hl 2 rfl) ?_
  refine lv_iconst (v := nI 0) hx hb dL_emptyIn_1 (by decide) ?_
  refine lv_aload_n hx hb dL_emptyIn_2 rfl (lv_at hl 0 rfl) ?_
  refine lv_iload_n hx hb dL_emptyIn_3 rfl (lv_at hl 1 rfl) ?_
  refine q_ciK (BH := CS z D ol sn hs T S G len ch) (va_runV (rm := { frames := 5, cells := 0, slots := 0, locals := 118 }) (As := [.int (nI n)]) (rest := [.int (nI 0), .ref oa]) ⟨hx, hb, hml, hown, hts⟩ (m2_emptyIn_ok l D z ol sn hs T S Y G len P ch B hI n hk hB hD) (cwV 1 hts gL_emptyIn_X2_emptyIn rfl rfl rfl (by decide +kernel) ⟨Nat.le_of_ble_eq_true rfl, Nat.le_of_ble_eq_true rfl⟩) (q_pV (ci := 2) (q0 := 0) hP (hK.sub [0, 1] rfl) rfl rfl) rfl rfl hl.1 rfl (lv_room (Nat.le_of_ble_eq_true rfl)) dL_emptyIn_4 ⟨Nat.le_of_ble_eq_true rfl, Nat.le_of_ble_eq_true rfl⟩) (fun t h => (by obtain ⟨Y2, h⟩ := h; exact ⟨_, _, hsm, h⟩)) hS (fun q h => Or.inl h) (fun x H locs ex hC hk hS => ?_)
  have hO := wO_kept hO hoa hk
  have ex : x = g_ei 21 0 T n := ex
  refine lv_i2l (v := x.toInt64) hx hb dL_emptyIn_7 rfl ?_
  refine q_lst0 hx hb hK hO hS 2 rfl (Or.inr rfl) dL_emptyIn_8 (fun H locs hO hk hS => ?_)
  have hC := hC.kept (B := fun q => q = oa) (fun q h (e : q = oa) => hoa (e ▸ h)) hk
  refine lv_goto (tgt := 15) hx hb dL_emptyIn_9 (by decide) ?_
  refine lv_iconst (v := nI 0) hx hb dL_emptyIn_15 (by decide) ?_
  refine W.widen (k := 1) (n := 6) (Nat.le_of_ble_eq_true rfl) (Nat.le_of_ble_eq_true rfl) ?_
  rw [ex] at hO
  exact hret _ _ _ _ _ rfl hC hO hS dL_emptyIn_16
set_option maxHeartbeats 4000000 in
set_option maxRecDepth 100000 in
theorem L_emptyIn_1 (l : Launch) (hl9 : l.stackTraces = false) (D : va_G) (st : Nat → Nat) (z : Ad) (oa : Nat) (cJ : ClassId) (hoa : ¬ AX z oa) (hDX : va_D (fun _ => True) (wX z 0 0 0 f00 f00 f00 (fun _ => f00) 0 (0, 0, 0, 0) (fun _ => 0))) (g : Int64) (ol sn hs : Nat) (T S : Nat → Int32) (G : Nat → Nat → Int32) (len : Nat) (ch : Nat → Nat) (B : Nat) (hI : Inv B T) (x0 : Int32) (h0q : q_in (nI 0) (nI 2) x0 = false) : q_H l yL_emptyIn wsL_emptyIn { frames := 8, cells := 1, slots := 6, locals := 140 } [.ref (z.o), .int x0, .ref oa] st D z oa cJ (CS z D ol sn hs T S G len ch) g 1 (CS z D ol sn hs T S G len ch) (g) := by
  refine q_goH (cc := cL_emptyIn) (maxL := 4) (hh := [(0, 9, 12, 13)]) (lv0 := [(0, .ref (z.o)), (1, .int x0), (2, .ref oa)]) (by decide) rfl (Nat.le_of_ble_eq_true rfl) rfl ?_
  intro p e s m args below meth c Q ls hx hb hml hts hown hC hO hK hT hl htab hret
  obtain ⟨Y, P, hsm, hP⟩ := hC
  have hD := q_D2 (ws' := wX z ol sn hs T S Y G len P ch) hDX rfl
  have hS : va_S (AXo z oa) s.heap s.heap [] := va_S.rf
  refine lv_aload_n hx hb dL_emptyIn_0 rfl (lv_at hl 2 rfl) ?_
  refine lv_iconst (v := nI 0) hx hb dL_emptyIn_1 (by decide) ?_
  refine lv_aload_n hx hb dL_emptyIn_2 rfl (lv_at hl 0 rfl) ?_
  refine lv_iload_n hx hb dL_emptyIn_3 rfl (lv_at hl 1 rfl) ?_
  refine q_ctch (E := xI.cls) (own := RL) (name := xI.cls) (hh := [(0, 9, 12, 13)]) (vx_runV (rm := { frames := 7, cells := 1, slots := 6, locals := 102 }) (As := [.int x0]) (rest := [.int (nI 0), .ref oa]) ⟨hx, hb, hml, hown, hts⟩ (m2_emptyIn_1 l hl9 D st z ol sn hs T S Y G len P ch B hI x0 h0q) (cwV 1 hts gL_emptyIn_X2_emptyIn rfl rfl rfl (by decide +kernel) ⟨Nat.le_of_ble_eq_true rfl, Nat.le_of_ble_eq_true rfl⟩) (q_pVX (ci := 2) (q0 := 0) hP (hK.sub [0, 1] rfl) hT.1 hS (fun q h => Or.inl h) rfl rfl) rfl rfl hl.1 rfl (lv_room (Nat.le_of_ble_eq_true rfl)) dL_emptyIn_4 ⟨Nat.le_of_ble_eq_true rfl, Nat.le_of_ble_eq_true rfl⟩) hS (fun q h => h.elim) hown htab (tableOf []) ⟨0, 9, 12, 13⟩ (tableOf []) rfl (fun _ h => nomatch h) rfl (by decide) (hts (.classLink RL 13 xI.cls) (by decide +kernel)) (va_Nw.use rfl hT.1.c1) (fun q H locs hP2 hk hS => ?_)
  have hC : CS z D ol sn hs T S G len ch H := ⟨_, _, hsm, hP2⟩
  have hO := wO_kept hO (fun h => h) hk
  refine lv_astore_n (lv' := [(3, .ref q), (0, .ref (z.o)), (1, .int x0), (2, .ref oa)]) hx hb dL_emptyIn_12 rfl hl (by decide) rfl (fun ls hl => ?_)
  refine lv_iconst (v := nI 1) hx hb dL_emptyIn_13 (by decide) ?_
  exact hret _ _ _ _ _ rfl hC hO hS dL_emptyIn_14
set_option maxHeartbeats 4000000 in
set_option maxRecDepth 100000 in
theorem L_bestGuest_ok (l : Launch) (hl9 : l.stackTraces = false) (D : va_G) (st : Nat → Nat) (z : Ad) (oa : Nat) (cJ : ClassId) (hoa : ¬ AX z oa) (hDX : va_D (fun _ => True) (wX z 0 0 0 f00 f00 f00 (fun _ => f00) 0 (0, 0, 0, 0) (fun _ => 0))) (g : Int64) (ol sn hs : Nat) (T S : Nat → Int32) (G : Nat → Nat → Int32) (len : Nat) (ch : Nat → Nat) (B : Nat) (hI : Inv B T) (n : Nat) (hk : n < 3) (hB : B + 33600 < 2000000000) : q_H l yL_bestGuest wsL_bestGuest { frames := 8, cells := 1, slots := 6, locals := 127 } [.ref (z.o), .int (nI n), .ref oa] st D z oa cJ (CS z D ol sn hs T S G len ch) g 0 (CS z D ol sn hs T S G len ch) ((g_bg 8 (-1) (nI 0) T n).toInt64) := by
  refine q_goH (cc := cL_bestGuest) (maxL := 4) (hh := [(0, 9, 12, 13)]) (lv0 := [(0, .ref (z.o)), (1, .int (nI n)), (2, .ref oa)]) (by decide) rfl (Nat.le_of_ble_eq_true rfl) rfl ?_
  intro p e s m args below meth c Q ls hx hb hml hts hown hC hO hK hT hl htab hret
  obtain ⟨Y, P, hsm, hP⟩ := hC
  have hD := q_D2 (ws' := wX z ol sn hs T S Y G len P ch) hDX rfl
  have hS : va_S (AXo z oa) s.heap s.heap [] := va_S.rf
  refine lv_aload_n hx hb dL_bestGuest_0 rfl (lv_at hl 2 rfl) ?_
  refine lv_iconst (v := nI 0) hx hb dL_bestGuest_1 (by decide) ?_
  refine lv_aload_n hx hb dL_bestGuest_2 rfl (lv_at hl 0 rfl) ?_
  refine lv_iload_n hx hb dL_bestGuest_3 rfl (lv_at hl 1 rfl) ?_
  refine q_ciK (BH := CS z D ol sn hs T S G len ch) (va_runV (rm := { frames := 4, cells := 0, slots := 0, locals := 91 }) (As := [.int (nI n)]) (rest := [.int (nI 0), .ref oa]) ⟨hx, hb, hml, hown, hts⟩ (m2_bestGuest_ok l D z ol sn hs T S Y G len P ch B hI n hk hB hD) (cwV 1 hts gL_bestGuest_X2_bestGuest rfl rfl rfl (by decide +kernel) ⟨Nat.le_of_ble_eq_true rfl, Nat.le_of_ble_eq_true rfl⟩) (q_pV (ci := 2) (q0 := 0) hP (hK.sub [0, 1] rfl) rfl rfl) rfl rfl hl.1 rfl (lv_room (Nat.le_of_ble_eq_true rfl)) dL_bestGuest_4 ⟨Nat.le_of_ble_eq_true rfl, Nat.le_of_ble_eq_true rfl⟩) (fun t h => (by obtain ⟨Y2, h⟩ := h; exact ⟨_, _, hsm, h⟩)) hS (fun q h => Or.inl h) (fun x H locs ex hC hk hS => ?_)
  have hO := wO_kept hO hoa hk
  have ex : x = g_bg 8 (-1) (nI 0) T n := ex
  refine lv_i2l (v := x.toInt64) hx hb dL_bestGuest_7 rfl ?_
  refine q_lst0 hx hb hK hO hS 2 rfl (Or.inr rfl) dL_bestGuest_8 (fun H locs hO hk hS => ?_)
  have hC := hC.kept (B := fun q => q = oa) (fun q h (e : q = oa) => hoa (e ▸ h)) hk
  refine lv_goto (tgt := 15) hx hb dL_bestGuest_9 (by decide) ?_
  refine lv_iconst (v := nI 0) hx hb dL_bestGuest_15 (by decide) ?_
  refine W.widen (k := 1) (n := 6) (Nat.le_of_ble_eq_true rfl) (Nat.le_of_ble_eq_true rfl) ?_
  rw [ex] at hO
  exact hret _ _ _ _ _ rfl hC hO hS dL_bestGuest_16
set_option maxHeartbeats 4000000 in
set_option maxRecDepth 100000 in
theorem L_bestGuest_1 (l : Launch) (hl9 : l.stackTraces = false) (D : va_G) (st : Nat → Nat) (z : Ad) (oa : Nat) (cJ : ClassId) (hoa : ¬ AX z oa) (hDX : va_D (fun _ => True) (wX z 0 0 0 f00 f00 f00 (fun _ => f00) 0 (0, 0, 0, 0) (fun _ => 0))) (g : Int64) (ol sn hs : Nat) (T S : Nat → Int32) (G : Nat → Nat → Int32) (len : Nat) (ch : Nat → Nat) (B : Nat) (hI : Inv B T) (x0 : Int32) (h0q : q_in (nI 0) (nI 2) x0 = false) : q_H l yL_bestGuest wsL_bestGuest { frames := 8, cells := 1, slots := 6, locals := 127 } [.ref (z.o), .int x0, .ref oa] st D z oa cJ (CS z D ol sn hs T S G len ch) g 1 (CS z D ol sn hs T S G len ch) (g) := by
  refine q_goH (cc := cL_bestGuest) (maxL := 4) (hh := [(0, 9, 12, 13)]) (lv0 := [(0, .ref (z.o)), (1, .int x0), (2, .ref oa)]) (by decide) rfl (Nat.le_of_ble_eq_true rfl) rfl ?_
  intro p e s m args below meth c Q ls hx hb hml hts hown hC hO hK hT hl htab hret
  obtain ⟨Y, P, hsm, hP⟩ := hC
  have hD := q_D2 (ws' := wX z ol sn hs T S Y G len P ch) hDX rfl
  have hS : va_S (AXo z oa) s.heap s.heap [] := va_S.rf
  refine lv_aload_n hx hb dL_bestGuest_0 rfl (lv_at hl 2 rfl) ?_
  refine lv_iconst (v := nI 0) hx hb dL_bestGuest_1 (by decide) ?_
  refine lv_aload_n hx hb dL_bestGuest_2 rfl (lv_at hl 0 rfl) ?_
  refine lv_iload_n hx hb dL_bestGuest_3 rfl (lv_at hl 1 rfl) ?_
  refine q_ctch (E := xI.cls) (own := RL) (name := xI.cls) (hh := [(0, 9, 12, 13)]) (vx_runV (rm := { frames := 7, cells := 1, slots := 6, locals := 102 }) (As := [.int x0]) (rest := [.int (nI 0), .ref oa]) ⟨hx, hb, hml, hown, hts⟩ (m2_bestGuest_1 l hl9 D st z ol sn hs T S Y G len P ch B hI x0 h0q) (cwV 1 hts gL_bestGuest_X2_bestGuest rfl rfl rfl (by decide +kernel) ⟨Nat.le_of_ble_eq_true rfl, Nat.le_of_ble_eq_true rfl⟩) (q_pVX (ci := 2) (q0 := 0) hP (hK.sub [0, 1] rfl) hT.1 hS (fun q h => Or.inl h) rfl rfl) rfl rfl hl.1 rfl (lv_room (Nat.le_of_ble_eq_true rfl)) dL_bestGuest_4 ⟨Nat.le_of_ble_eq_true rfl, Nat.le_of_ble_eq_true rfl⟩) hS (fun q h => h.elim) hown htab (tableOf []) ⟨0, 9, 12, 13⟩ (tableOf []) rfl (fun _ h => nomatch h) rfl (by decide) (hts (.classLink RL 13 xI.cls) (by decide +kernel)) (va_Nw.use rfl hT.1.c1) (fun q H locs hP2 hk hS => ?_)
  have hC : CS z D ol sn hs T S G len ch H := ⟨_, _, hsm, hP2⟩
  have hO := wO_kept hO (fun h => h) hk
  refine lv_astore_n (lv' := [(3, .ref q), (0, .ref (z.o)), (1, .int x0), (2, .ref oa)]) hx hb dL_bestGuest_12 rfl hl (by decide) rfl (fun ls hl => ?_)
  refine lv_iconst (v := nI 1) hx hb dL_bestGuest_13 (by decide) ?_
  exact hret _ _ _ _ _ rfl hC hO hS dL_bestGuest_14
