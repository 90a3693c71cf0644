section WPZ2
variable {p : Program} {l : Launch} {e : Env} {R : Room} {s : State} {m : MethodId} {args : Array Value} {below : List Frame} {meth : Method} {c : Code} {H : Heap} {locs : List Loc} {cells slots : Nat} {Q : State → Prop} {pc : Nat} {ls : Array Slot} {rest : List Value}
theorem q_topl {x y : Int64} (h : x = y) (k : W p l e R s m args below meth c H locs cells slots Q (F0 m pc ls (.long y :: rest))) : W p l e R s m args below meth c H locs cells slots Q (F0 m pc ls (.long x :: rest)) := by
  rw [h]; exact k
end WPZ2
theorem dgG_0 (f : Nat → Int32) (d : Int64) : dgG f 0 d = d := rfl
theorem dgG_s (f : Nat → Int32) (g : Nat) (d : Int64) : fo (g_gu f g) 10 (dgG f g d) = dgG f (g + 1) d := rfl
set_option maxHeartbeats 4000000 in
set_option maxRecDepth 100000 in
theorem m2_digest (l : Launch) (D : va_G) (z : Ad) (ol sn hs : Nat) (T S Y : Nat → Int32) (G : Nat → Nat → Int32) (len : Nat) (P : PS) (ch : Nat → Nat) (B : Nat) (hI : Inv B T) (hB : B + 33600 < 2000000000) (hB8 : 8 * B < 2147483648) (hhs : hs ≤ 1) (hlen : len ≤ 60) (sb tb : Int64) (hsb : cbt (g_share T) 52 1023 = some sb) (htb : cbt (FP.f2d (g_trust T)) 23 127 = some tb) (hD : va_D (fun _ => True) (wX z ol sn hs T S Y G len P ch)) : q_Lg l yX2_digest wsX2_digest { frames := 6, cells := 0, slots := 0, locals := 140 } [.ref (z.o)] (q_bp D (wX z ol sn hs T S Y G len P ch) (tyX z)) (fun v => v = dig T sn hs ch len sb tb) (fun H => ∃ Y2 : Nat → Int32, va_P D vwCl (wX z ol sn hs T S Y2 G len P ch) H) (AX z) 0 0 := by
  refine q_goL (cc := cX2_digest) (maxL := 5) (lv0 := [(0, .ref (z.o))]) (by decide) rfl (Nat.le_of_ble_eq_true rfl) rfl ?_
  intro p e s m args below meth c Q ls hx hb hml hts hown hP hK hl hret
  have hi0 : ∀ w ∈ wsX00, w ∈ wsX2_digest := by decide +kernel
  have hi1 : ∀ w ∈ wsX10, w ∈ wsX2_digest := by decide +kernel
  have hi2 : ∀ w ∈ wsX20, w ∈ wsX2_digest := by decide +kernel
  have hfl12 := hts (.fieldLink RX2 12 "WhisperedPots" "table" "LWhisperedPots$Table;") (by decide +kernel)
  have hfl55 := hts (.fieldLink RX2 55 "WhisperedPots$Table" "row" "[I") (by decide +kernel)
  have hfl40 := hts (.fieldLink RX2 40 "WhisperedPots" "hasSnapshot" "Z") (by decide +kernel)
  have hfl29 := hts (.fieldLink RX2 29 "WhisperedPots" "errands" "LWhisperedPots$Errands;") (by decide +kernel)
  have hfl97 := hts (.fieldLink RX2 97 "WhisperedPots$Errands" "length" "I") (by decide +kernel)
  have hfl121 := hts (.fieldLink RX2 121 "WhisperedPots$Errands" "signs" "[I") (by decide +kernel)
  have hS : va_S (AX z) s.heap s.heap [] := va_S.rf
  have htn : tN T ≤ 24 := by rw [hI.tale.2]; exact cnt_le T 24
  refine lv_ldc2 hx hb hown (hts (.constantLong RX2 194 (3779)) (by decide +kernel)) dX2_digest_0 ?_
  refine lv_lstore_n (lv' := [(1, .long 3779), (0, .ref (z.o))]) hx hb dX2_digest_3 rfl hl (by decide) rfl (fun ls hl => ?_)
  refine lv_iconst (v := nI 0) hx hb dX2_digest_4 (by decide) ?_
  refine lv_istore_n (lv' := [(3, .int (nI 0)), (1, .long 3779), (0, .ref (z.o))]) hx hb dX2_digest_5 rfl hl (by decide) rfl (fun ls hl => ?_)
  have L1 : ∀ (n i : Nat)  (H : Heap) (locs : List Loc) (ls : Array Slot), i + n = 10 → va_P D vwCl (wX z ol sn hs T S Y G len P ch) H → va_D (fun _ => True) (wX z ol sn hs T S Y G len P ch) → va_S (AX z) s.heap H locs → lv_has ls 5 [(3, .int (nI i)), (1, .long (fo (g_ct T sn) i 3779)), (0, .ref (z.o))] → W p l e { frames := 6, cells := 0, slots := 0, locals := 140 } s m args below meth c H locs 0 0 Q (F0 m 6 ls []) := by
    intro n
    induction n with
    | zero =>
      intro i  H locs ls hi  hP hD hS hl
      obtain rfl : 10 = i := by omega
      refine lv_iload_n hx hb dX2_digest_6 rfl (lv_at hl 0 rfl) ?_
      refine lv_bipush (v := nI 9) hx hb dX2_digest_7 (by decide) ?_
      refine q_gtN (tgt := 31) hx hb (by omega) (by omega) dX2_digest_9 (by decide) (fun c1 => ?_) (fun c1 => absurd c1 (by omega))
      refine lv_iconst (v := nI 0) hx hb dX2_digest_31 (by decide) ?_
      refine lv_istore_n (lv' := [(3, .int (nI 0)), (1, .long (fo (g_ct T sn) 10 3779)), (0, .ref (z.o))]) hx hb dX2_digest_32 rfl hl (by decide) rfl (fun ls hl => ?_)
      have L2 : ∀ (n g : Nat)  (H : Heap) (locs : List Loc) (ls : Array Slot), g + n = 8 → va_P D vwCl (wX z ol sn hs T S Y G len P ch) H → va_D (fun _ => True) (wX z ol sn hs T S Y G len P ch) → va_S (AX z) s.heap H locs → lv_has ls 5 [(3, .int (nI g)), (1, .long (dgG T g (fo (g_ct T sn) 10 3779))), (0, .ref (z.o))] → W p l e { frames := 6, cells := 0, slots := 0, locals := 140 } s m args below meth c H locs 0 0 Q (F0 m 33 ls []) := by
        intro n
        induction n with
        | zero =>
          intro g  H locs ls hi  hP hD hS hl
          obtain rfl : 8 = g := by omega
          refine lv_iload_n hx hb dX2_digest_33 rfl (lv_at hl 0 rfl) ?_
          refine lv_bipush (v := nI 8) hx hb dX2_digest_34 (by decide) ?_
          refine q_geN (tgt := 76) hx hb (by omega) (by omega) dX2_digest_36 (by decide) (fun c2 => ?_) (fun c2 => absurd c2 (by omega))
          refine lv_iconst (v := nI 0) hx hb dX2_digest_76 (by decide) ?_
          refine lv_istore_n (lv' := [(3, .int (nI 0)), (1, .long (dgG T 8 (fo (g_ct T sn) 10 3779))), (0, .ref (z.o))]) hx hb dX2_digest_77 rfl hl (by decide) rfl (fun ls hl => ?_)
          have L4 : ∀ (n k : Nat) (Ya : Nat → Int32) (H : Heap) (locs : List Loc) (ls : Array Slot), k + n = 3 → va_P D vwCl (wX z ol sn hs T S Ya G len P ch) H → va_D (fun _ => True) (wX z ol sn hs T S Ya G len P ch) → va_S (AX z) s.heap H locs → lv_has ls 5 [(3, .int (nI k)), (1, .long (dgPs T k (dgG T 8 (fo (g_ct T sn) 10 3779)))), (0, .ref (z.o))] → W p l e { frames := 6, cells := 0, slots := 0, locals := 140 } s m args below meth c H locs 0 0 Q (F0 m 78 ls []) := by
            intro n
            induction n with
            | zero =>
              intro k Ya H locs ls hi  hP hD hS hl
              obtain rfl : 3 = k := by omega
              refine lv_iload_n hx hb dX2_digest_78 rfl (lv_at hl 0 rfl) ?_
              refine lv_iconst (v := nI 3) hx hb dX2_digest_79 (by decide) ?_
              refine q_geN (tgt := 207) hx hb (by omega) (by omega) dX2_digest_80 (by decide) (fun c3 => ?_) (fun c3 => absurd c3 (by omega))
              refine lv_iconst (v := nI 0) hx hb dX2_digest_207 (by decide) ?_
              refine lv_istore_n (lv' := [(3, .int (nI 0)), (1, .long (dgPs T 3 (dgG T 8 (fo (g_ct T sn) 10 3779)))), (0, .ref (z.o))]) hx hb dX2_digest_208 rfl hl (by decide) rfl (fun ls hl => ?_)
              have L8 : ∀ (n r : Nat)  (H : Heap) (locs : List Loc) (ls : Array Slot), r + n = (tN T) → va_P D vwCl (wX z ol sn hs T S Ya G len P ch) H → va_D (fun _ => True) (wX z ol sn hs T S Ya G len P ch) → va_S (AX z) s.heap H locs → lv_has ls 5 [(3, .int (nI r)), (1, .long (dgT T r (dgPs T 3 (dgG T 8 (fo (g_ct T sn) 10 3779))))), (0, .ref (z.o))] → W p l e { frames := 6, cells := 0, slots := 0, locals := 140 } s m args below meth c H locs 0 0 Q (F0 m 209 ls []) := by
                intro n
                induction n with
                | zero =>
                  intro r  H locs ls hi  hP hD hS hl
                  obtain rfl : (tN T) = r := by omega
                  refine lv_iload_n hx hb dX2_digest_209 rfl (lv_at hl 0 rfl) ?_
                  refine lv_aload_n hx hb dX2_digest_210 rfl (lv_at hl 2 rfl) ?_
                  refine va_get (D := D) (ci := 2) (v := .ref (z.ad 0)) (C := RX2) (T := TX2) (N := 8) hx hb hts hi2 hown hK hP 0 rfl rfl 0 (by decide) hfl12 (fun _ h9 => h9) rfl dX2_digest_211 ?_
                  refine va_get (D := D) (ci := 1) (v := .ref (z.rd 0)) (C := RX1) (T := TX1) (N := 1) hx hb hts hi1 hown hK hP 1 rfl rfl 0 (by decide) hfl55 (fun _ h9 => h9) rfl dX2_digest_214 ?_
                  refine lv_sipush (v := nI 135) hx hb dX2_digest_217 (by decide) ?_
                  refine q_ld hx hb hK hP 10 0 rfl rfl (j := 135) (v := (nI ((tN T)))) (by omega) (by omega) hI.tale.1 dX2_digest_220 ?_
                  refine q_geN (tgt := 258) hx hb (by omega) (by omega) dX2_digest_221 (by decide) (fun c4 => ?_) (fun c4 => absurd c4 (by omega))
                  refine lv_ldc2 hx hb hown (hts (.constantLong RX2 196 (31)) (by decide +kernel)) dX2_digest_258 ?_
                  refine lv_lload_n hx hb dX2_digest_261 rfl (lv_at hl 1 rfl) ?_
                  refine lv_lmul hx hb dX2_digest_262 ?_
                  refine lv_aload_n hx hb dX2_digest_263 rfl (lv_at hl 2 rfl) ?_
                  refine q_cdR (va_runV (rm := { frames := 2, cells := 0, slots := 0, locals := 45 }) (As := []) (rest := [.long (31 * (dgT T ((tN T)) (dgPs T 3 (dgG T 8 (fo (g_ct T sn) 10 3779)))))]) ⟨hx, hb, hml, hown, hts⟩ (m2_spiltShare l D z ol sn hs T S Ya G len P ch B hI hB8) (cwV 0 hts gX2_digest_X2_spiltShare rfl rfl rfl (by decide +kernel) ⟨Nat.le_of_ble_eq_true rfl, Nat.le_of_ble_eq_true rfl⟩) (q_pV (ci := 2) (q0 := 0) hP hK rfl rfl) rfl rfl hl.1 rfl (lv_room (Nat.le_of_ble_eq_true rfl)) dX2_digest_264 ⟨Nat.le_of_ble_eq_true rfl, Nat.le_of_ble_eq_true rfl⟩) hP hS (fun x5 H locs e5 hP hS => ?_)
                  have e5 : x5 = g_share T := e5
                  subst e5
                  refine lv_bipush (v := nI 52) hx hb dX2_digest_267 (by decide) ?_
                  refine lv_ldc2 hx hb hown (hts (.constantLong RX2 226 (1023)) (by decide +kernel)) dX2_digest_269 ?_
                  refine q_clR (va_runS (rm := { frames := 0, cells := 0, slots := 0, locals := 0 }) (As := [.double (g_share T), .int (nI 52), .long 1023]) (rest := [.long (31 * (dgT T ((tN T)) (dgPs T 3 (dgG T 8 (fo (g_ct T sn) 10 3779)))))]) ⟨hx, hb, hml, hown, hts⟩ (m2_bitsOf l D (g_share T) (nI 52) 1023 sb hsb) (va_cwS 3 hts gX2_digest_X2_bitsOf rfl rfl rfl (by decide +kernel) ⟨Nat.le_of_ble_eq_true rfl, Nat.le_of_ble_eq_true rfl⟩) (q_pS (hP.sub (ws' := []) [] rfl) (hK.sub [] rfl)) rfl rfl hl.1 rfl (lv_room (Nat.le_of_ble_eq_true rfl)) dX2_digest_272 ⟨Nat.le_of_ble_eq_true rfl, Nat.le_of_ble_eq_true rfl⟩) hP hS (fun x6 H locs e6 hP hS => ?_)
                  have e6 : sb = x6 := Eq.symm e6
                  subst e6
                  refine lv_ladd hx hb dX2_digest_275 ?_
                  refine q_topl (y := (hL (dgT T ((tN T)) (dgPs T 3 (dgG T 8 (fo (g_ct T sn) 10 3779)))) sb)) (show 31 * (dgT T ((tN T)) (dgPs T 3 (dgG T 8 (fo (g_ct T sn) 10 3779)))) + sb = (hL (dgT T ((tN T)) (dgPs T 3 (dgG T 8 (fo (g_ct T sn) 10 3779)))) sb) from rfl) ?_
                  refine lv_lstore_n (lv' := [(1, .long (hL (dgT T ((tN T)) (dgPs T 3 (dgG T 8 (fo (g_ct T sn) 10 3779)))) sb)), (3, .int (nI ((tN T)))), (0, .ref (z.o))]) hx hb dX2_digest_276 rfl hl (by decide) rfl (fun ls hl => ?_)
                  refine lv_ldc2 hx hb hown (hts (.constantLong RX2 196 (31)) (by decide +kernel)) dX2_digest_277 ?_
                  refine lv_lload_n hx hb dX2_digest_280 rfl (lv_at hl 0 rfl) ?_
                  refine lv_lmul hx hb dX2_digest_281 ?_
                  refine lv_aload_n hx hb dX2_digest_282 rfl (lv_at hl 2 rfl) ?_
                  refine q_cfR (va_runV (rm := { frames := 2, cells := 0, slots := 0, locals := 45 }) (As := []) (rest := [.long (31 * (hL (dgT T ((tN T)) (dgPs T 3 (dgG T 8 (fo (g_ct T sn) 10 3779)))) sb))]) ⟨hx, hb, hml, hown, hts⟩ (m2_meanTrust l D z ol sn hs T S Ya G len P ch B hI) (cwV 0 hts gX2_digest_X2_meanTrust rfl rfl rfl (by decide +kernel) ⟨Nat.le_of_ble_eq_true rfl, Nat.le_of_ble_eq_true rfl⟩) (q_pV (ci := 2) (q0 := 0) hP hK rfl rfl) rfl rfl hl.1 rfl (lv_room (Nat.le_of_ble_eq_true rfl)) dX2_digest_283 ⟨Nat.le_of_ble_eq_true rfl, Nat.le_of_ble_eq_true rfl⟩) hP hS (fun x7 H locs e7 hP hS => ?_)
                  have e7 : x7 = g_trust T := e7
                  subst e7
                  refine lv_f2d  hx hb dX2_digest_286 hI.trust_ok.2.1 ?_
                  refine lv_bipush (v := nI 23) hx hb dX2_digest_287 (by decide) ?_
                  refine lv_ldc2 hx hb hown (hts (.constantLong RX2 236 (127)) (by decide +kernel)) dX2_digest_289 ?_
                  refine q_clR (va_runS (rm := { frames := 0, cells := 0, slots := 0, locals := 0 }) (As := [.double (FP.f2d (g_trust T)), .int (nI 23), .long 127]) (rest := [.long (31 * (hL (dgT T ((tN T)) (dgPs T 3 (dgG T 8 (fo (g_ct T sn) 10 3779)))) sb))]) ⟨hx, hb, hml, hown, hts⟩ (m2_bitsOf l D (FP.f2d (g_trust T)) (nI 23) 127 tb htb) (va_cwS 3 hts gX2_digest_X2_bitsOf rfl rfl rfl (by decide +kernel) ⟨Nat.le_of_ble_eq_true rfl, Nat.le_of_ble_eq_true rfl⟩) (q_pS (hP.sub (ws' := []) [] rfl) (hK.sub [] rfl)) rfl rfl hl.1 rfl (lv_room (Nat.le_of_ble_eq_true rfl)) dX2_digest_292 ⟨Nat.le_of_ble_eq_true rfl, Nat.le_of_ble_eq_true rfl⟩) hP hS (fun x8 H locs e8 hP hS => ?_)
                  have e8 : tb = x8 := Eq.symm e8
                  subst e8
                  refine lv_ladd hx hb dX2_digest_295 ?_
                  refine q_topl (y := (hL (hL (dgT T ((tN T)) (dgPs T 3 (dgG T 8 (fo (g_ct T sn) 10 3779)))) sb) tb)) (show 31 * (hL (dgT T ((tN T)) (dgPs T 3 (dgG T 8 (fo (g_ct T sn) 10 3779)))) sb) + tb = (hL (hL (dgT T ((tN T)) (dgPs T 3 (dgG T 8 (fo (g_ct T sn) 10 3779)))) sb) tb) from rfl) ?_
                  refine lv_lstore_n (lv' := [(1, .long (hL (hL (dgT T ((tN T)) (dgPs T 3 (dgG T 8 (fo (g_ct T sn) 10 3779)))) sb) tb)), (3, .int (nI ((tN T)))), (0, .ref (z.o))]) hx hb dX2_digest_296 rfl hl (by decide) rfl (fun ls hl => ?_)
                  refine lv_ldc2 hx hb hown (hts (.constantLong RX2 196 (31)) (by decide +kernel)) dX2_digest_297 ?_
                  refine lv_lload_n hx hb dX2_digest_300 rfl (lv_at hl 0 rfl) ?_
                  refine lv_lmul hx hb dX2_digest_301 ?_
                  refine lv_aload_n hx hb dX2_digest_302 rfl (lv_at hl 2 rfl) ?_
                  refine va_get (D := D) (ci := 2) (v := .int (nI hs)) (C := RX2) (T := TX2) (N := 8) hx hb hts hi2 hown hK hP 0 rfl rfl 7 (by decide) hfl40 (fun _ h9 => h9) rfl dX2_digest_303 ?_
                  refine q_zeq (tgt := 313) hx hb (by omega) dX2_digest_306 (by decide) (fun c9 => ?_) (fun c9 => ?_)
                  ·
                    refine lv_iconst (v := nI 0) hx hb dX2_digest_313 (by decide) ?_
                    refine lv_i2l (v := ((nI 0).toInt64)) hx hb dX2_digest_314 rfl ?_
                    refine lv_ladd hx hb dX2_digest_315 ?_
                    refine q_topl (y := (hL (hL (hL (dgT T ((tN T)) (dgPs T 3 (dgG T 8 (fo (g_ct T sn) 10 3779)))) sb) tb) (if hs = 0 then 0 else 1))) (show 31 * (hL (hL (dgT T ((tN T)) (dgPs T 3 (dgG T 8 (fo (g_ct T sn) 10 3779)))) sb) tb) + ((nI 0).toInt64) = (hL (hL (hL (dgT T ((tN T)) (dgPs T 3 (dgG T 8 (fo (g_ct T sn) 10 3779)))) sb) tb) (if hs = 0 then 0 else 1)) from (by rw [if_pos c9]; rfl)) ?_
                    refine lv_lstore_n (lv' := [(1, .long (hL (hL (hL (dgT T ((tN T)) (dgPs T 3 (dgG T 8 (fo (g_ct T sn) 10 3779)))) sb) tb) (if hs = 0 then 0 else 1))), (3, .int (nI ((tN T)))), (0, .ref (z.o))]) hx hb dX2_digest_316 rfl hl (by decide) rfl (fun ls hl => ?_)
                    refine lv_ldc2 hx hb hown (hts (.constantLong RX2 196 (31)) (by decide +kernel)) dX2_digest_317 ?_
                    refine lv_lload_n hx hb dX2_digest_320 rfl (lv_at hl 0 rfl) ?_
                    refine lv_lmul hx hb dX2_digest_321 ?_
                    refine lv_aload_n hx hb dX2_digest_322 rfl (lv_at hl 2 rfl) ?_
                    refine va_get (D := D) (ci := 2) (v := .ref (z.eo)) (C := RX2) (T := TX2) (N := 8) hx hb hts hi2 hown hK hP 0 rfl rfl 4 (by decide) hfl29 (fun _ h9 => h9) rfl dX2_digest_323 ?_
                    refine va_get (D := D) (ci := 0) (v := .int (nI len)) (C := RX0) (T := TX0) (N := 6) hx hb hts hi0 hown hK hP 20 rfl rfl 1 (by decide) hfl97 (fun _ h9 => h9) rfl dX2_digest_326 ?_
                    refine lv_i2l (v := ((nI len).toInt64)) hx hb dX2_digest_329 rfl ?_
                    refine lv_ladd hx hb dX2_digest_330 ?_
                    refine q_topl (y := (hL (hL (hL (hL (dgT T ((tN T)) (dgPs T 3 (dgG T 8 (fo (g_ct T sn) 10 3779)))) sb) tb) (if hs = 0 then 0 else 1)) (nI len).toInt64)) (show 31 * (hL (hL (hL (dgT T ((tN T)) (dgPs T 3 (dgG T 8 (fo (g_ct T sn) 10 3779)))) sb) tb) (if hs = 0 then 0 else 1)) + ((nI len).toInt64) = (hL (hL (hL (hL (dgT T ((tN T)) (dgPs T 3 (dgG T 8 (fo (g_ct T sn) 10 3779)))) sb) tb) (if hs = 0 then 0 else 1)) (nI len).toInt64) from rfl) ?_
                    refine lv_lstore_n (lv' := [(1, .long (hL (hL (hL (hL (dgT T ((tN T)) (dgPs T 3 (dgG T 8 (fo (g_ct T sn) 10 3779)))) sb) tb) (if hs = 0 then 0 else 1)) (nI len).toInt64)), (3, .int (nI ((tN T)))), (0, .ref (z.o))]) hx hb dX2_digest_331 rfl hl (by decide) rfl (fun ls hl => ?_)
                    refine lv_iconst (v := nI 0) hx hb dX2_digest_332 (by decide) ?_
                    refine lv_istore_n (lv' := [(3, .int (nI 0)), (1, .long (hL (hL (hL (hL (dgT T ((tN T)) (dgPs T 3 (dgG T 8 (fo (g_ct T sn) 10 3779)))) sb) tb) (if hs = 0 then 0 else 1)) (nI len).toInt64)), (0, .ref (z.o))]) hx hb dX2_digest_333 rfl hl (by decide) rfl (fun ls hl => ?_)
                    have L9 : ∀ (n i : Nat)  (H : Heap) (locs : List Loc) (ls : Array Slot), i + n = len → va_P D vwCl (wX z ol sn hs T S Ya G len P ch) H → va_D (fun _ => True) (wX z ol sn hs T S Ya G len P ch) → va_S (AX z) s.heap H locs → lv_has ls 5 [(3, .int (nI i)), (1, .long (fo (fun j => nI (ch j)) i (hL (hL (hL (hL (dgT T (tN T) (dgPs T 3 (dgG T 8 (fo (g_ct T sn) 10 3779)))) sb) tb) (if hs = 0 then 0 else 1)) (nI len).toInt64))), (0, .ref (z.o))] → W p l e { frames := 6, cells := 0, slots := 0, locals := 140 } s m args below meth c H locs 0 0 Q (F0 m 334 ls []) := by
                      intro n
                      induction n with
                      | zero =>
                        intro i  H locs ls hi  hP hD hS hl
                        obtain rfl : len = i := by omega
                        refine lv_iload_n hx hb dX2_digest_334 rfl (lv_at hl 0 rfl) ?_
                        refine lv_aload_n hx hb dX2_digest_335 rfl (lv_at hl 2 rfl) ?_
                        refine va_get (D := D) (ci := 2) (v := .ref (z.eo)) (C := RX2) (T := TX2) (N := 8) hx hb hts hi2 hown hK hP 0 rfl rfl 4 (by decide) hfl29 (fun _ h9 => h9) rfl dX2_digest_336 ?_
                        refine va_get (D := D) (ci := 0) (v := .int (nI len)) (C := RX0) (T := TX0) (N := 6) hx hb hts hi0 hown hK hP 20 rfl rfl 1 (by decide) hfl97 (fun _ h9 => h9) rfl dX2_digest_339 ?_
                        refine q_geN (tgt := 368) hx hb (by omega) (by omega) dX2_digest_342 (by decide) (fun c10 => ?_) (fun c10 => absurd c10 (by omega))
                        refine lv_lload_n hx hb dX2_digest_368 rfl (lv_at hl 1 rfl) ?_
                        refine hret _ _ _ _ _ ?_ (⟨_, hP⟩) hS dX2_digest_369
                        exact dig_eq T sn hs ch len sb tb
                      | succ n ih =>
                        intro i  H locs ls hi  hP hD hS hl
                        refine lv_iload_n hx hb dX2_digest_334 rfl (lv_at hl 0 rfl) ?_
                        refine lv_aload_n hx hb dX2_digest_335 rfl (lv_at hl 2 rfl) ?_
                        refine va_get (D := D) (ci := 2) (v := .ref (z.eo)) (C := RX2) (T := TX2) (N := 8) hx hb hts hi2 hown hK hP 0 rfl rfl 4 (by decide) hfl29 (fun _ h9 => h9) rfl dX2_digest_336 ?_
                        refine va_get (D := D) (ci := 0) (v := .int (nI len)) (C := RX0) (T := TX0) (N := 6) hx hb hts hi0 hown hK hP 20 rfl rfl 1 (by decide) hfl97 (fun _ h9 => h9) rfl dX2_digest_339 ?_
                        refine q_geN (tgt := 368) hx hb (by omega) (by omega) dX2_digest_342 (by decide) (fun c11 => absurd c11 (by omega)) (fun c11 => ?_)
                        refine lv_ldc2 hx hb hown (hts (.constantLong RX2 196 (31)) (by decide +kernel)) dX2_digest_345 ?_
                        refine lv_lload_n hx hb dX2_digest_348 rfl (lv_at hl 1 rfl) ?_
                        refine lv_lmul hx hb dX2_digest_349 ?_
                        refine lv_aload_n hx hb dX2_digest_350 rfl (lv_at hl 2 rfl) ?_
                        refine va_get (D := D) (ci := 2) (v := .ref (z.eo)) (C := RX2) (T := TX2) (N := 8) hx hb hts hi2 hown hK hP 0 rfl rfl 4 (by decide) hfl29 (fun _ h9 => h9) rfl dX2_digest_351 ?_
                        refine va_get (D := D) (ci := 0) (v := .ref (z.sg)) (C := RX0) (T := TX0) (N := 6) hx hb hts hi0 hown hK hP 20 rfl rfl 0 (by decide) hfl121 (fun _ h9 => h9) rfl dX2_digest_354 ?_
                        refine lv_iload_n hx hb dX2_digest_357 rfl (lv_at hl 0 rfl) ?_
                        refine q_ld hx hb hK hP 21 0 rfl rfl (j := i) (v := (nI ((ch i)))) (by omega) (by omega) rfl dX2_digest_358 ?_
                        refine lv_i2l (v := ((nI ((ch i))).toInt64)) hx hb dX2_digest_359 rfl ?_
                        refine lv_ladd hx hb dX2_digest_360 ?_
                        refine q_topl (y := (fo (fun j => nI (ch j)) (i + 1) (hL (hL (hL (hL (dgT T (tN T) (dgPs T 3 (dgG T 8 (fo (g_ct T sn) 10 3779)))) sb) tb) (if hs = 0 then 0 else 1)) (nI len).toInt64))) (show 31 * (fo (fun j => nI (ch j)) i (hL (hL (hL (hL (dgT T (tN T) (dgPs T 3 (dgG T 8 (fo (g_ct T sn) 10 3779)))) sb) tb) (if hs = 0 then 0 else 1)) (nI len).toInt64)) + ((nI ((ch i))).toInt64) = (fo (fun j => nI (ch j)) (i + 1) (hL (hL (hL (hL (dgT T (tN T) (dgPs T 3 (dgG T 8 (fo (g_ct T sn) 10 3779)))) sb) tb) (if hs = 0 then 0 else 1)) (nI len).toInt64)) from (fo_s (fun j => nI (ch j)) i (hL (hL (hL (hL (dgT T (tN T) (dgPs T 3 (dgG T 8 (fo (g_ct T sn) 10 3779)))) sb) tb) (if hs = 0 then 0 else 1)) (nI len).toInt64))) ?_
                        refine lv_lstore_n (lv' := [(1, .long (fo (fun j => nI (ch j)) (i + 1) (hL (hL (hL (hL (dgT T (tN T) (dgPs T 3 (dgG T 8 (fo (g_ct T sn) 10 3779)))) sb) tb) (if hs = 0 then 0 else 1)) (nI len).toInt64))), (3, .int (nI i)), (0, .ref (z.o))]) hx hb dX2_digest_361 rfl hl (by decide) rfl (fun ls hl => ?_)
                        refine lv_iinc (v := (nI (i + 1))) (lv' := [(3, .int (nI (i + 1))), (1, .long (fo (fun j => nI (ch j)) (i + 1) (hL (hL (hL (hL (dgT T (tN T) (dgPs T 3 (dgG T 8 (fo (g_ct T sn) 10 3779)))) sb) tb) (if hs = 0 then 0 else 1)) (nI len).toInt64))), (0, .ref (z.o))]) hx hb dX2_digest_362 hl (k := 1) rfl (q_inc i 1 (i + 1) (by omega)) (by decide) rfl (fun ls hl => ?_)
                        refine lv_goto (tgt := 334) hx hb dX2_digest_365 (by decide) ?_
                        exact ih (i + 1) _ _ _ (by omega) hP hD hS (lv_sub hl [0, 1, 2] rfl)
                    rw [← fo_0 (fun j => nI (ch j)) (hL (hL (hL (hL (dgT T (tN T) (dgPs T 3 (dgG T 8 (fo (g_ct T sn) 10 3779)))) sb) tb) (if hs = 0 then 0 else 1)) (nI len).toInt64)] at hl
                    exact L9 (len - 0) 0  _ _ _ (by omega)  hP hD hS (lv_sub hl [0, 1, 2] rfl)
                  ·
                    refine lv_iconst (v := nI 1) hx hb dX2_digest_309 (by decide) ?_
                    refine lv_goto (tgt := 314) hx hb dX2_digest_310 (by decide) ?_
                    refine lv_i2l (v := ((nI 1).toInt64)) hx hb dX2_digest_314 rfl ?_
                    refine lv_ladd hx hb dX2_digest_315 ?_
                    refine q_topl (y := (hL (hL (hL (dgT T ((tN T)) (dgPs T 3 (dgG T 8 (fo (g_ct T sn) 10 3779)))) sb) tb) (if hs = 0 then 0 else 1))) (show 31 * (hL (hL (dgT T ((tN T)) (dgPs T 3 (dgG T 8 (fo (g_ct T sn) 10 3779)))) sb) tb) + ((nI 1).toInt64) = (hL (hL (hL (dgT T ((tN T)) (dgPs T 3 (dgG T 8 (fo (g_ct T sn) 10 3779)))) sb) tb) (if hs = 0 then 0 else 1)) from (by rw [if_neg (by omega)]; rfl)) ?_
                    refine lv_lstore_n (lv' := [(1, .long (hL (hL (hL (dgT T ((tN T)) (dgPs T 3 (dgG T 8 (fo (g_ct T sn) 10 3779)))) sb) tb) (if hs = 0 then 0 else 1))), (3, .int (nI ((tN T)))), (0, .ref (z.o))]) hx hb dX2_digest_316 rfl hl (by decide) rfl (fun ls hl => ?_)
                    refine lv_ldc2 hx hb hown (hts (.constantLong RX2 196 (31)) (by decide +kernel)) dX2_digest_317 ?_
                    refine lv_lload_n hx hb dX2_digest_320 rfl (lv_at hl 0 rfl) ?_
                    refine lv_lmul hx hb dX2_digest_321 ?_
                    refine lv_aload_n hx hb dX2_digest_322 rfl (lv_at hl 2 rfl) ?_
                    refine va_get (D := D) (ci := 2) (v := .ref (z.eo)) (C := RX2) (T := TX2) (N := 8) hx hb hts hi2 hown hK hP 0 rfl rfl 4 (by decide) hfl29 (fun _ h9 => h9) rfl dX2_digest_323 ?_
                    refine va_get (D := D) (ci := 0) (v := .int (nI len)) (C := RX0) (T := TX0) (N := 6) hx hb hts hi0 hown hK hP 20 rfl rfl 1 (by decide) hfl97 (fun _ h9 => h9) rfl dX2_digest_326 ?_
                    refine lv_i2l (v := ((nI len).toInt64)) hx hb dX2_digest_329 rfl ?_
                    refine lv_ladd hx hb dX2_digest_330 ?_
                    refine q_topl (y := (hL (hL (hL (hL (dgT T ((tN T)) (dgPs T 3 (dgG T 8 (fo (g_ct T sn) 10 3779)))) sb) tb) (if hs = 0 then 0 else 1)) (nI len).toInt64)) (show 31 * (hL (hL (hL (dgT T ((tN T)) (dgPs T 3 (dgG T 8 (fo (g_ct T sn) 10 3779)))) sb) tb) (if hs = 0 then 0 else 1)) + ((nI len).toInt64) = (hL (hL (hL (hL (dgT T ((tN T)) (dgPs T 3 (dgG T 8 (fo (g_ct T sn) 10 3779)))) sb) tb) (if hs = 0 then 0 else 1)) (nI len).toInt64) from rfl) ?_
                    refine lv_lstore_n (lv' := [(1, .long (hL (hL (hL (hL (dgT T ((tN T)) (dgPs T 3 (dgG T 8 (fo (g_ct T sn) 10 3779)))) sb) tb) (if hs = 0 then 0 else 1)) (nI len).toInt64)), (3, .int (nI ((tN T)))), (0, .ref (z.o))]) hx hb dX2_digest_331 rfl hl (by decide) rfl (fun ls hl => ?_)
                    refine lv_iconst (v := nI 0) hx hb dX2_digest_332 (by decide) ?_
                    refine lv_istore_n (lv' := [(3, .int (nI 0)), (1, .long (hL (hL (hL (hL (dgT T ((tN T)) (dgPs T 3 (dgG T 8 (fo (g_ct T sn) 10 3779)))) sb) tb) (if hs = 0 then 0 else 1)) (nI len).toInt64)), (0, .ref (z.o))]) hx hb dX2_digest_333 rfl hl (by decide) rfl (fun ls hl => ?_)
                    have L9 : ∀ (n i : Nat)  (H : Heap) (locs : List Loc) (ls : Array Slot), i + n = len → va_P D vwCl (wX z ol sn hs T S Ya G len P ch) H → va_D (fun _ => True) (wX z ol sn hs T S Ya G len P ch) → va_S (AX z) s.heap H locs → lv_has ls 5 [(3, .int (nI i)), (1, .long (fo (fun j => nI (ch j)) i (hL (hL (hL (hL (dgT T (tN T) (dgPs T 3 (dgG T 8 (fo (g_ct T sn) 10 3779)))) sb) tb) (if hs = 0 then 0 else 1)) (nI len).toInt64))), (0, .ref (z.o))] → W p l e { frames := 6, cells := 0, slots := 0, locals := 140 } s m args below meth c H locs 0 0 Q (F0 m 334 ls []) := by
                      intro n
                      induction n with
                      | zero =>
                        intro i  H locs ls hi  hP hD hS hl
                        obtain rfl : len = i := by omega
                        refine lv_iload_n hx hb dX2_digest_334 rfl (lv_at hl 0 rfl) ?_
                        refine lv_aload_n hx hb dX2_digest_335 rfl (lv_at hl 2 rfl) ?_
                        refine va_get (D := D) (ci := 2) (v := .ref (z.eo)) (C := RX2) (T := TX2) (N := 8) hx hb hts hi2 hown hK hP 0 rfl rfl 4 (by decide) hfl29 (fun _ h9 => h9) rfl dX2_digest_336 ?_
                        refine va_get (D := D) (ci := 0) (v := .int (nI len)) (C := RX0) (T := TX0) (N := 6) hx hb hts hi0 hown hK hP 20 rfl rfl 1 (by decide) hfl97 (fun _ h9 => h9) rfl dX2_digest_339 ?_
                        refine q_geN (tgt := 368) hx hb (by omega) (by omega) dX2_digest_342 (by decide) (fun c12 => ?_) (fun c12 => absurd c12 (by omega))
                        refine lv_lload_n hx hb dX2_digest_368 rfl (lv_at hl 1 rfl) ?_
                        refine hret _ _ _ _ _ ?_ (⟨_, hP⟩) hS dX2_digest_369
                        exact dig_eq T sn hs ch len sb tb
                      | succ n ih =>
                        intro i  H locs ls hi  hP hD hS hl
                        refine lv_iload_n hx hb dX2_digest_334 rfl (lv_at hl 0 rfl) ?_
                        refine lv_aload_n hx hb dX2_digest_335 rfl (lv_at hl 2 rfl) ?_
                        refine va_get (D := D) (ci := 2) (v := .ref (z.eo)) (C := RX2) (T := TX2) (N := 8) hx hb hts hi2 hown hK hP 0 rfl rfl 4 (by decide) hfl29 (fun _ h9 => h9) rfl dX2_digest_336 ?_
                        refine va_get (D := D) (ci := 0) (v := .int (nI len)) (C := RX0) (T := TX0) (N := 6) hx hb hts hi0 hown hK hP 20 rfl rfl 1 (by decide) hfl97 (fun _ h9 => h9) rfl dX2_digest_339 ?_
                        refine q_geN (tgt := 368) hx hb (by omega) (by omega) dX2_digest_342 (by decide) (fun c13 => absurd c13 (by omega)) (fun c13 => ?_)
                        refine lv_ldc2 hx hb hown (hts (.constantLong RX2 196 (31)) (by decide +kernel)) dX2_digest_345 ?_
                        refine lv_lload_n hx hb dX2_digest_348 rfl (lv_at hl 1 rfl) ?_
                        refine lv_lmul hx hb dX2_digest_349 ?_
                        refine lv_aload_n hx hb dX2_digest_350 rfl (lv_at hl 2 rfl) ?_
                        refine va_get (D := D) (ci := 2) (v := .ref (z.eo)) (C := RX2) (T := TX2) (N := 8) hx hb hts hi2 hown hK hP 0 rfl rfl 4 (by decide) hfl29 (fun _ h9 => h9) rfl dX2_digest_351 ?_
                        refine va_get (D := D) (ci := 0) (v := .ref (z.sg)) (C := RX0) (T := TX0) (N := 6) hx hb hts hi0 hown hK hP 20 rfl rfl 0 (by decide) hfl121 (fun _ h9 => h9) rfl dX2_digest_354 ?_
                        refine lv_iload_n hx hb dX2_digest_357 rfl (lv_at hl 0 rfl) ?_
                        refine q_ld hx hb hK hP 21 0 rfl rfl (j := i) (v := (nI ((ch i)))) (by omega) (by omega) rfl dX2_digest_358 ?_
                        refine lv_i2l (v := ((nI ((ch i))).toInt64)) hx hb dX2_digest_359 rfl ?_
                        refine lv_ladd hx hb dX2_digest_360 ?_
                        refine q_topl (y := (fo (fun j => nI (ch j)) (i + 1) (hL (hL (hL (hL (dgT T (tN T) (dgPs T 3 (dgG T 8 (fo (g_ct T sn) 10 3779)))) sb) tb) (if hs = 0 then 0 else 1)) (nI len).toInt64))) (show 31 * (fo (fun j => nI (ch j)) i (hL (hL (hL (hL (dgT T (tN T) (dgPs T 3 (dgG T 8 (fo (g_ct T sn) 10 3779)))) sb) tb) (if hs = 0 then 0 else 1)) (nI len).toInt64)) + ((nI ((ch i))).toInt64) = (fo (fun j => nI (ch j)) (i + 1) (hL (hL (hL (hL (dgT T (tN T) (dgPs T 3 (dgG T 8 (fo (g_ct T sn) 10 3779)))) sb) tb) (if hs = 0 then 0 else 1)) (nI len).toInt64)) from (fo_s (fun j => nI (ch j)) i (hL (hL (hL (hL (dgT T (tN T) (dgPs T 3 (dgG T 8 (fo (g_ct T sn) 10 3779)))) sb) tb) (if hs = 0 then 0 else 1)) (nI len).toInt64))) ?_
                        refine lv_lstore_n (lv' := [(1, .long (fo (fun j => nI (ch j)) (i + 1) (hL (hL (hL (hL (dgT T (tN T) (dgPs T 3 (dgG T 8 (fo (g_ct T sn) 10 3779)))) sb) tb) (if hs = 0 then 0 else 1)) (nI len).toInt64))), (3, .int (nI i)), (0, .ref (z.o))]) hx hb dX2_digest_361 rfl hl (by decide) rfl (fun ls hl => ?_)
                        refine lv_iinc (v := (nI (i + 1))) (lv' := [(3, .int (nI (i + 1))), (1, .long (fo (fun j => nI (ch j)) (i + 1) (hL (hL (hL (hL (dgT T (tN T) (dgPs T 3 (dgG T 8 (fo (g_ct T sn) 10 3779)))) sb) tb) (if hs = 0 then 0 else 1)) (nI len).toInt64))), (0, .ref (z.o))]) hx hb dX2_digest_362 hl (k := 1) rfl (q_inc i 1 (i + 1) (by omega)) (by decide) rfl (fun ls hl => ?_)
                        refine lv_goto (tgt := 334) hx hb dX2_digest_365 (by decide) ?_
                        exact ih (i + 1) _ _ _ (by omega) hP hD hS (lv_sub hl [0, 1, 2] rfl)
                    rw [← fo_0 (fun j => nI (ch j)) (hL (hL (hL (hL (dgT T (tN T) (dgPs T 3 (dgG T 8 (fo (g_ct T sn) 10 3779)))) sb) tb) (if hs = 0 then 0 else 1)) (nI len).toInt64)] at hl
                    exact L9 (len - 0) 0  _ _ _ (by omega)  hP hD hS (lv_sub hl [0, 1, 2] rfl)
                | succ n ih =>
                  intro r  H locs ls hi  hP hD hS hl
                  refine lv_iload_n hx hb dX2_digest_209 rfl (lv_at hl 0 rfl) ?_
                  refine lv_aload_n hx hb dX2_digest_210 rfl (lv_at hl 2 rfl) ?_
                  refine va_get (D := D) (ci := 2) (v := .ref (z.ad 0)) (C := RX2) (T := TX2) (N := 8) hx hb hts hi2 hown hK hP 0 rfl rfl 0 (by decide) hfl12 (fun _ h9 => h9) rfl dX2_digest_211 ?_
                  refine va_get (D := D) (ci := 1) (v := .ref (z.rd 0)) (C := RX1) (T := TX1) (N := 1) hx hb hts hi1 hown hK hP 1 rfl rfl 0 (by decide) hfl55 (fun _ h9 => h9) rfl dX2_digest_214 ?_
                  refine lv_sipush (v := nI 135) hx hb dX2_digest_217 (by decide) ?_
                  refine q_ld hx hb hK hP 10 0 rfl rfl (j := 135) (v := (nI ((tN T)))) (by omega) (by omega) hI.tale.1 dX2_digest_220 ?_
                  refine q_geN (tgt := 258) hx hb (by omega) (by omega) dX2_digest_221 (by decide) (fun c14 => absurd c14 (by omega)) (fun c14 => ?_)
                  refine lv_ldc2 hx hb hown (hts (.constantLong RX2 196 (31)) (by decide +kernel)) dX2_digest_224 ?_
                  refine lv_lload_n hx hb dX2_digest_227 rfl (lv_at hl 1 rfl) ?_
                  refine lv_lmul hx hb dX2_digest_228 ?_
                  refine lv_aload_n hx hb dX2_digest_229 rfl (lv_at hl 2 rfl) ?_
                  refine lv_iload_n hx hb dX2_digest_230 rfl (lv_at hl 0 rfl) ?_
                  refine lv_iconst (v := nI 0) hx hb dX2_digest_231 (by decide) ?_
                  refine q_ciR (va_runV (rm := { frames := 1, cells := 0, slots := 0, locals := 22 }) (As := [.int (nI r), .int (nI 0)]) (rest := [.long (31 * (dgT T r (dgPs T 3 (dgG T 8 (fo (g_ct T sn) 10 3779)))))]) ⟨hx, hb, hml, hown, hts⟩ (m2_tale_ok0 l D z ol sn hs T S Ya G len P ch B hI r (by omega)) (cwV 2 hts gX2_digest_X2_tale rfl rfl rfl (by decide +kernel) ⟨Nat.le_of_ble_eq_true rfl, Nat.le_of_ble_eq_true rfl⟩) (q_pV (ci := 2) (q0 := 0) hP hK rfl rfl) rfl rfl hl.1 rfl (lv_room (Nat.le_of_ble_eq_true rfl)) dX2_digest_232 ⟨Nat.le_of_ble_eq_true rfl, Nat.le_of_ble_eq_true rfl⟩) hP hS (fun x15 H locs e15 hP hS => ?_)
                  have e15 : x15 = T (111 + r) := e15
                  refine lv_i2l (v := (x15.toInt64)) hx hb dX2_digest_235 rfl ?_
                  refine lv_ladd hx hb dX2_digest_236 ?_
                  refine q_topl (y := (hL (dgT T r (dgPs T 3 (dgG T 8 (fo (g_ct T sn) 10 3779)))) (T (111 + r)).toInt64)) (show 31 * (dgT T r (dgPs T 3 (dgG T 8 (fo (g_ct T sn) 10 3779)))) + (x15.toInt64) = (hL (dgT T r (dgPs T 3 (dgG T 8 (fo (g_ct T sn) 10 3779)))) (T (111 + r)).toInt64) from (by rw [e15]; rfl)) ?_
                  refine lv_lstore_n (lv' := [(1, .long (hL (dgT T r (dgPs T 3 (dgG T 8 (fo (g_ct T sn) 10 3779)))) (T (111 + r)).toInt64)), (3, .int (nI r)), (0, .ref (z.o))]) hx hb dX2_digest_237 rfl hl (by decide) rfl (fun ls hl => ?_)
                  refine lv_ldc2 hx hb hown (hts (.constantLong RX2 196 (31)) (by decide +kernel)) dX2_digest_238 ?_
                  refine lv_lload_n hx hb dX2_digest_241 rfl (lv_at hl 0 rfl) ?_
                  refine lv_lmul hx hb dX2_digest_242 ?_
                  refine lv_aload_n hx hb dX2_digest_243 rfl (lv_at hl 2 rfl) ?_
                  refine lv_iload_n hx hb dX2_digest_244 rfl (lv_at hl 1 rfl) ?_
                  refine lv_iconst (v := nI 1) hx hb dX2_digest_245 (by decide) ?_
                  refine q_ciR (va_runV (rm := { frames := 1, cells := 0, slots := 0, locals := 22 }) (As := [.int (nI r), .int (nI 1)]) (rest := [.long (31 * (hL (dgT T r (dgPs T 3 (dgG T 8 (fo (g_ct T sn) 10 3779)))) (T (111 + r)).toInt64))]) ⟨hx, hb, hml, hown, hts⟩ (m2_tale_ok1 l D z ol sn hs T S Ya G len P ch B hI r (by omega)) (cwV 2 hts gX2_digest_X2_tale rfl rfl rfl (by decide +kernel) ⟨Nat.le_of_ble_eq_true rfl, Nat.le_of_ble_eq_true rfl⟩) (q_pV (ci := 2) (q0 := 0) hP hK rfl rfl) rfl rfl hl.1 rfl (lv_room (Nat.le_of_ble_eq_true rfl)) dX2_digest_246 ⟨Nat.le_of_ble_eq_true rfl, Nat.le_of_ble_eq_true rfl⟩) hP hS (fun x16 H locs e16 hP hS => ?_)
                  have e16 : x16 = T (87 + (T (111 + r)).toNatClampNeg) := e16
                  refine lv_i2l (v := (x16.toInt64)) hx hb dX2_digest_249 rfl ?_
                  refine lv_ladd hx hb dX2_digest_250 ?_
                  refine q_topl (y := (hL (hL (dgT T r (dgPs T 3 (dgG T 8 (fo (g_ct T sn) 10 3779)))) (T (111 + r)).toInt64) (T (87 + (T (111 + r)).toNatClampNeg)).toInt64)) (show 31 * (hL (dgT T r (dgPs T 3 (dgG T 8 (fo (g_ct T sn) 10 3779)))) (T (111 + r)).toInt64) + (x16.toInt64) = (hL (hL (dgT T r (dgPs T 3 (dgG T 8 (fo (g_ct T sn) 10 3779)))) (T (111 + r)).toInt64) (T (87 + (T (111 + r)).toNatClampNeg)).toInt64) from (by rw [e16]; rfl)) ?_
                  refine lv_lstore_n (lv' := [(1, .long (hL (hL (dgT T r (dgPs T 3 (dgG T 8 (fo (g_ct T sn) 10 3779)))) (T (111 + r)).toInt64) (T (87 + (T (111 + r)).toNatClampNeg)).toInt64)), (3, .int (nI r)), (0, .ref (z.o))]) hx hb dX2_digest_251 rfl hl (by decide) rfl (fun ls hl => ?_)
                  refine lv_iinc (v := (nI (r + 1))) (lv' := [(3, .int (nI (r + 1))), (1, .long (hL (hL (dgT T r (dgPs T 3 (dgG T 8 (fo (g_ct T sn) 10 3779)))) (T (111 + r)).toInt64) (T (87 + (T (111 + r)).toNatClampNeg)).toInt64)), (0, .ref (z.o))]) hx hb dX2_digest_252 hl (k := 1) rfl (q_inc r 1 (r + 1) (by omega)) (by decide) rfl (fun ls hl => ?_)
                  refine lv_goto (tgt := 209) hx hb dX2_digest_255 (by decide) ?_
                  rw [dgT_s] at hl
                  exact ih (r + 1) _ _ _ (by omega) hP hD hS (lv_sub hl [0, 1, 2] rfl)
              rw [← dgT_0 T (dgPs T 3 (dgG T 8 (fo (g_ct T sn) 10 3779)))] at hl
              exact L8 ((tN T) - 0) 0  _ _ _ (by omega)  hP hD hS (lv_sub hl [0, 1, 2] rfl)
            | succ n ih =>
              intro k Ya H locs ls hi  hP hD hS hl
              refine lv_iload_n hx hb dX2_digest_78 rfl (lv_at hl 0 rfl) ?_
              refine lv_iconst (v := nI 3) hx hb dX2_digest_79 (by decide) ?_
              refine q_geN (tgt := 207) hx hb (by omega) (by omega) dX2_digest_80 (by decide) (fun c17 => absurd c17 (by omega)) (fun c17 => ?_)
              refine lv_iconst (v := nI 0) hx hb dX2_digest_83 (by decide) ?_
              refine lv_istore (lv' := [(4, .int (nI 0)), (3, .int (nI k)), (1, .long (dgPs T k (dgG T 8 (fo (g_ct T sn) 10 3779)))), (0, .ref (z.o))]) hx hb dX2_digest_84 hl (by decide) rfl (fun ls hl => ?_)
              have L5 : ∀ (n j : Nat)  (H : Heap) (locs : List Loc) (ls : Array Slot), j + n = 8 → va_P D vwCl (wX z ol sn hs T S Ya G len P ch) H → va_D (fun _ => True) (wX z ol sn hs T S Ya G len P ch) → va_S (AX z) s.heap H locs → lv_has ls 5 [(4, .int (nI j)), (3, .int (nI k)), (1, .long (fo (g_po T k) j (dgPs T k (dgG T 8 (fo (g_ct T sn) 10 3779))))), (0, .ref (z.o))] → W p l e { frames := 6, cells := 0, slots := 0, locals := 140 } s m args below meth c H locs 0 0 Q (F0 m 86 ls []) := by
                intro n
                induction n with
                | zero =>
                  intro j  H locs ls hi  hP hD hS hl
                  obtain rfl : 8 = j := by omega
                  refine lv_iload hx hb dX2_digest_86 (lv_at hl 0 rfl) ?_
                  refine lv_bipush (v := nI 7) hx hb dX2_digest_88 (by decide) ?_
                  refine q_gtN (tgt := 114) hx hb (by omega) (by omega) dX2_digest_90 (by decide) (fun c18 => ?_) (fun c18 => absurd c18 (by omega))
                  refine lv_iconst (v := nI 0) hx hb dX2_digest_114 (by decide) ?_
                  refine lv_istore (lv' := [(4, .int (nI 0)), (3, .int (nI k)), (1, .long (fo (g_po T k) 8 (dgPs T k (dgG T 8 (fo (g_ct T sn) 10 3779))))), (0, .ref (z.o))]) hx hb dX2_digest_115 hl (by decide) rfl (fun ls hl => ?_)
                  have L6 : ∀ (n j : Nat)  (H : Heap) (locs : List Loc) (ls : Array Slot), j + n = 8 → va_P D vwCl (wX z ol sn hs T S Ya G len P ch) H → va_D (fun _ => True) (wX z ol sn hs T S Ya G len P ch) → va_S (AX z) s.heap H locs → lv_has ls 5 [(4, .int (nI j)), (3, .int (nI k)), (1, .long (fo (fun g => T (87 + 8 * k + g)) j (fo (g_po T k) 8 (dgPs T k (dgG T 8 (fo (g_ct T sn) 10 3779)))))), (0, .ref (z.o))] → W p l e { frames := 6, cells := 0, slots := 0, locals := 140 } s m args below meth c H locs 0 0 Q (F0 m 117 ls []) := by
                    intro n
                    induction n with
                    | zero =>
                      intro j  H locs ls hi  hP hD hS hl
                      obtain rfl : 8 = j := by omega
                      refine lv_iload hx hb dX2_digest_117 (lv_at hl 0 rfl) ?_
                      refine lv_bipush (v := nI 8) hx hb dX2_digest_119 (by decide) ?_
                      refine q_geN (tgt := 145) hx hb (by omega) (by omega) dX2_digest_121 (by decide) (fun c19 => ?_) (fun c19 => absurd c19 (by omega))
                      refine lv_iconst (v := nI 0) hx hb dX2_digest_145 (by decide) ?_
                      refine lv_istore (lv' := [(4, .int (nI 0)), (3, .int (nI k)), (1, .long (fo (fun g => T (87 + 8 * k + g)) 8 (fo (g_po T k) 8 (dgPs T k (dgG T 8 (fo (g_ct T sn) 10 3779)))))), (0, .ref (z.o))]) hx hb dX2_digest_146 hl (by decide) rfl (fun ls hl => ?_)
                      have L7 : ∀ (n j : Nat)  (H : Heap) (locs : List Loc) (ls : Array Slot), j + n = 3 → va_P D vwCl (wX z ol sn hs T S Ya G len P ch) H → va_D (fun _ => True) (wX z ol sn hs T S Ya G len P ch) → va_S (AX z) s.heap H locs → lv_has ls 5 [(4, .int (nI j)), (3, .int (nI k)), (1, .long (fo (g_br T k) j (fo (fun g => T (87 + 8 * k + g)) 8 (fo (g_po T k) 8 (dgPs T k (dgG T 8 (fo (g_ct T sn) 10 3779))))))), (0, .ref (z.o))] → W p l e { frames := 6, cells := 0, slots := 0, locals := 140 } s m args below meth c H locs 0 0 Q (F0 m 148 ls []) := by
                        intro n
                        induction n with
                        | zero =>
                          intro j  H locs ls hi  hP hD hS hl
                          obtain rfl : 3 = j := by omega
                          refine lv_iload hx hb dX2_digest_148 (lv_at hl 0 rfl) ?_
                          refine lv_iconst (v := nI 2) hx hb dX2_digest_150 (by decide) ?_
                          refine q_gtN (tgt := 175) hx hb (by omega) (by omega) dX2_digest_151 (by decide) (fun c20 => ?_) (fun c20 => absurd c20 (by omega))
                          refine lv_ldc2 hx hb hown (hts (.constantLong RX2 196 (31)) (by decide +kernel)) dX2_digest_175 ?_
                          refine lv_lload_n hx hb dX2_digest_178 rfl (lv_at hl 2 rfl) ?_
                          refine lv_lmul hx hb dX2_digest_179 ?_
                          refine lv_aload_n hx hb dX2_digest_180 rfl (lv_at hl 3 rfl) ?_
                          refine lv_iload_n hx hb dX2_digest_181 rfl (lv_at hl 1 rfl) ?_
                          refine q_ciF (BH := fun H => ∃ Y2 : Nat → Int32, va_P D vwCl (wX z ol sn hs T S Y2 G len P ch) H) (va_runV (rm := { frames := 5, cells := 0, slots := 0, locals := 118 }) (As := [.int (nI k)]) (rest := [.long (31 * (fo (g_br T k) 3 (fo (fun g => T (87 + 8 * k + g)) 8 (fo (g_po T k) 8 (dgPs T k (dgG T 8 (fo (g_ct T sn) 10 3779)))))))]) ⟨hx, hb, hml, hown, hts⟩ (m2_emptyIn_ok l D z ol sn hs T S Ya G len P ch B hI k (by omega) hB hD) (cwV 1 hts gX2_digest_X2_emptyIn rfl rfl rfl (by decide +kernel) ⟨Nat.le_of_ble_eq_true rfl, Nat.le_of_ble_eq_true rfl⟩) (q_pV (ci := 2) (q0 := 0) hP hK rfl rfl) rfl rfl hl.1 rfl (lv_room (Nat.le_of_ble_eq_true rfl)) dX2_digest_182 ⟨Nat.le_of_ble_eq_true rfl, Nat.le_of_ble_eq_true rfl⟩) (fun _ h => h) hS (fun _ h => h) (fun x21 H locs e21 hP hS => ?_)
                          obtain ⟨Y21, hP⟩ := hP
                          have hD := q_D2 (ws' := wX z ol sn hs T S Y21 G len P ch) hD rfl
                          have e21 : x21 = g_ei 21 0 T k := e21
                          refine lv_i2l (v := (x21.toInt64)) hx hb dX2_digest_185 rfl ?_
                          refine lv_ladd hx hb dX2_digest_186 ?_
                          refine q_topl (y := (hL (fo (g_br T k) 3 (fo (fun g => T (87 + 8 * k + g)) 8 (fo (g_po T k) 8 (dgPs T k (dgG T 8 (fo (g_ct T sn) 10 3779)))))) (g_ei 21 0 T k).toInt64)) (show 31 * (fo (g_br T k) 3 (fo (fun g => T (87 + 8 * k + g)) 8 (fo (g_po T k) 8 (dgPs T k (dgG T 8 (fo (g_ct T sn) 10 3779)))))) + (x21.toInt64) = (hL (fo (g_br T k) 3 (fo (fun g => T (87 + 8 * k + g)) 8 (fo (g_po T k) 8 (dgPs T k (dgG T 8 (fo (g_ct T sn) 10 3779)))))) (g_ei 21 0 T k).toInt64) from (by rw [e21]; rfl)) ?_
                          refine lv_lstore_n (lv' := [(1, .long (hL (fo (g_br T k) 3 (fo (fun g => T (87 + 8 * k + g)) 8 (fo (g_po T k) 8 (dgPs T k (dgG T 8 (fo (g_ct T sn) 10 3779)))))) (g_ei 21 0 T k).toInt64)), (4, .int (nI 3)), (3, .int (nI k)), (0, .ref (z.o))]) hx hb dX2_digest_187 rfl hl (by decide) rfl (fun ls hl => ?_)
                          refine lv_ldc2 hx hb hown (hts (.constantLong RX2 196 (31)) (by decide +kernel)) dX2_digest_188 ?_
                          refine lv_lload_n hx hb dX2_digest_191 rfl (lv_at hl 0 rfl) ?_
                          refine lv_lmul hx hb dX2_digest_192 ?_
                          refine lv_aload_n hx hb dX2_digest_193 rfl (lv_at hl 3 rfl) ?_
                          refine lv_iload_n hx hb dX2_digest_194 rfl (lv_at hl 2 rfl) ?_
                          refine q_ciF (BH := fun H => ∃ Y2 : Nat → Int32, va_P D vwCl (wX z ol sn hs T S Y2 G len P ch) H) (va_runV (rm := { frames := 4, cells := 0, slots := 0, locals := 91 }) (As := [.int (nI k)]) (rest := [.long (31 * (hL (fo (g_br T k) 3 (fo (fun g => T (87 + 8 * k + g)) 8 (fo (g_po T k) 8 (dgPs T k (dgG T 8 (fo (g_ct T sn) 10 3779)))))) (g_ei 21 0 T k).toInt64))]) ⟨hx, hb, hml, hown, hts⟩ (m2_bestGuest_ok l D z ol sn hs T S Y21 G len P ch B hI k (by omega) hB hD) (cwV 1 hts gX2_digest_X2_bestGuest rfl rfl rfl (by decide +kernel) ⟨Nat.le_of_ble_eq_true rfl, Nat.le_of_ble_eq_true rfl⟩) (q_pV (ci := 2) (q0 := 0) hP hK rfl rfl) rfl rfl hl.1 rfl (lv_room (Nat.le_of_ble_eq_true rfl)) dX2_digest_195 ⟨Nat.le_of_ble_eq_true rfl, Nat.le_of_ble_eq_true rfl⟩) (fun _ h => h) hS (fun _ h => h) (fun x22 H locs e22 hP hS => ?_)
                          obtain ⟨Y22, hP⟩ := hP
                          have hD := q_D2 (ws' := wX z ol sn hs T S Y22 G len P ch) hD rfl
                          have e22 : x22 = g_bg 8 (-1) (nI 0) T k := e22
                          refine lv_i2l (v := (x22.toInt64)) hx hb dX2_digest_198 rfl ?_
                          refine lv_ladd hx hb dX2_digest_199 ?_
                          refine q_topl (y := (hL (hL (fo (g_br T k) 3 (fo (fun g => T (87 + 8 * k + g)) 8 (fo (g_po T k) 8 (dgPs T k (dgG T 8 (fo (g_ct T sn) 10 3779)))))) (g_ei 21 0 T k).toInt64) (g_bg 8 (-1) (nI 0) T k).toInt64)) (show 31 * (hL (fo (g_br T k) 3 (fo (fun g => T (87 + 8 * k + g)) 8 (fo (g_po T k) 8 (dgPs T k (dgG T 8 (fo (g_ct T sn) 10 3779)))))) (g_ei 21 0 T k).toInt64) + (x22.toInt64) = (hL (hL (fo (g_br T k) 3 (fo (fun g => T (87 + 8 * k + g)) 8 (fo (g_po T k) 8 (dgPs T k (dgG T 8 (fo (g_ct T sn) 10 3779)))))) (g_ei 21 0 T k).toInt64) (g_bg 8 (-1) (nI 0) T k).toInt64) from (by rw [e22]; rfl)) ?_
                          refine lv_lstore_n (lv' := [(1, .long (hL (hL (fo (g_br T k) 3 (fo (fun g => T (87 + 8 * k + g)) 8 (fo (g_po T k) 8 (dgPs T k (dgG T 8 (fo (g_ct T sn) 10 3779)))))) (g_ei 21 0 T k).toInt64) (g_bg 8 (-1) (nI 0) T k).toInt64)), (4, .int (nI 3)), (3, .int (nI k)), (0, .ref (z.o))]) hx hb dX2_digest_200 rfl hl (by decide) rfl (fun ls hl => ?_)
                          refine lv_iinc (v := (nI (k + 1))) (lv' := [(3, .int (nI (k + 1))), (1, .long (hL (hL (fo (g_br T k) 3 (fo (fun g => T (87 + 8 * k + g)) 8 (fo (g_po T k) 8 (dgPs T k (dgG T 8 (fo (g_ct T sn) 10 3779)))))) (g_ei 21 0 T k).toInt64) (g_bg 8 (-1) (nI 0) T k).toInt64)), (4, .int (nI 3)), (0, .ref (z.o))]) hx hb dX2_digest_201 hl (k := 2) rfl (q_inc k 1 (k + 1) (by omega)) (by decide) rfl (fun ls hl => ?_)
                          refine lv_goto (tgt := 78) hx hb dX2_digest_204 (by decide) ?_
                          rw [dgP_eq, dgPs_s] at hl
                          exact ih (k + 1) Y22 _ _ _ (by omega) hP hD hS (lv_sub hl [0, 1, 3] rfl)
                        | succ n ih =>
                          intro j  H locs ls hi  hP hD hS hl
                          refine lv_iload hx hb dX2_digest_148 (lv_at hl 0 rfl) ?_
                          refine lv_iconst (v := nI 2) hx hb dX2_digest_150 (by decide) ?_
                          refine q_gtN (tgt := 175) hx hb (by omega) (by omega) dX2_digest_151 (by decide) (fun c23 => absurd c23 (by omega)) (fun c23 => ?_)
                          refine lv_ldc2 hx hb hown (hts (.constantLong RX2 196 (31)) (by decide +kernel)) dX2_digest_154 ?_
                          refine lv_lload_n hx hb dX2_digest_157 rfl (lv_at hl 2 rfl) ?_
                          refine lv_lmul hx hb dX2_digest_158 ?_
                          refine lv_aload_n hx hb dX2_digest_159 rfl (lv_at hl 3 rfl) ?_
                          refine lv_iload_n hx hb dX2_digest_160 rfl (lv_at hl 1 rfl) ?_
                          refine lv_iload hx hb dX2_digest_161 (lv_at hl 0 rfl) ?_
                          refine q_ciR (va_runV (rm := { frames := 4, cells := 0, slots := 0, locals := 91 }) (As := [.int (nI k), .int (nI j)]) (rest := [.long (31 * (fo (g_br T k) j (fo (fun g => T (87 + 8 * k + g)) 8 (fo (g_po T k) 8 (dgPs T k (dgG T 8 (fo (g_ct T sn) 10 3779)))))))]) ⟨hx, hb, hml, hown, hts⟩ (m2_ifPoured_ok l D z ol sn hs T S Ya G len P ch B hI k (by omega) j (by omega)) (cwV 2 hts gX2_digest_X2_ifPoured rfl rfl rfl (by decide +kernel) ⟨Nat.le_of_ble_eq_true rfl, Nat.le_of_ble_eq_true rfl⟩) (q_pV (ci := 2) (q0 := 0) hP hK rfl rfl) rfl rfl hl.1 rfl (lv_room (Nat.le_of_ble_eq_true rfl)) dX2_digest_163 ⟨Nat.le_of_ble_eq_true rfl, Nat.le_of_ble_eq_true rfl⟩) hP hS (fun x24 H locs e24 hP hS => ?_)
                          have e24 : x24 = g_br T k j := e24
                          refine lv_i2l (v := (x24.toInt64)) hx hb dX2_digest_166 rfl ?_
                          refine lv_ladd hx hb dX2_digest_167 ?_
                          refine q_topl (y := (fo (g_br T k) (j + 1) (fo (fun g => T (87 + 8 * k + g)) 8 (fo (g_po T k) 8 (dgPs T k (dgG T 8 (fo (g_ct T sn) 10 3779))))))) (show 31 * (fo (g_br T k) j (fo (fun g => T (87 + 8 * k + g)) 8 (fo (g_po T k) 8 (dgPs T k (dgG T 8 (fo (g_ct T sn) 10 3779)))))) + (x24.toInt64) = (fo (g_br T k) (j + 1) (fo (fun g => T (87 + 8 * k + g)) 8 (fo (g_po T k) 8 (dgPs T k (dgG T 8 (fo (g_ct T sn) 10 3779)))))) from (by rw [e24]; exact fo_s (g_br T k) j (fo (fun g => T (87 + 8 * k + g)) 8 (fo (g_po T k) 8 (dgPs T k (dgG T 8 (fo (g_ct T sn) 10 3779))))))) ?_
                          refine lv_lstore_n (lv' := [(1, .long (fo (g_br T k) (j + 1) (fo (fun g => T (87 + 8 * k + g)) 8 (fo (g_po T k) 8 (dgPs T k (dgG T 8 (fo (g_ct T sn) 10 3779))))))), (4, .int (nI j)), (3, .int (nI k)), (0, .ref (z.o))]) hx hb dX2_digest_168 rfl hl (by decide) rfl (fun ls hl => ?_)
                          refine lv_iinc (v := (nI (j + 1))) (lv' := [(4, .int (nI (j + 1))), (1, .long (fo (g_br T k) (j + 1) (fo (fun g => T (87 + 8 * k + g)) 8 (fo (g_po T k) 8 (dgPs T k (dgG T 8 (fo (g_ct T sn) 10 3779))))))), (3, .int (nI k)), (0, .ref (z.o))]) hx hb dX2_digest_169 hl (k := 1) rfl (q_inc j 1 (j + 1) (by omega)) (by decide) rfl (fun ls hl => ?_)
                          refine lv_goto (tgt := 148) hx hb dX2_digest_172 (by decide) ?_
                          exact ih (j + 1) _ _ _ (by omega) hP hD hS (lv_sub hl [0, 2, 1, 3] rfl)
                      rw [← fo_0 (g_br T k) (fo (fun g => T (87 + 8 * k + g)) 8 (fo (g_po T k) 8 (dgPs T k (dgG T 8 (fo (g_ct T sn) 10 3779)))))] at hl
                      exact L7 3 0  _ _ _ (by omega)  hP hD hS (lv_sub hl [0, 1, 2, 3] rfl)
                    | succ n ih =>
                      intro j  H locs ls hi  hP hD hS hl
                      refine lv_iload hx hb dX2_digest_117 (lv_at hl 0 rfl) ?_
                      refine lv_bipush (v := nI 8) hx hb dX2_digest_119 (by decide) ?_
                      refine q_geN (tgt := 145) hx hb (by omega) (by omega) dX2_digest_121 (by decide) (fun c25 => absurd c25 (by omega)) (fun c25 => ?_)
                      refine lv_ldc2 hx hb hown (hts (.constantLong RX2 196 (31)) (by decide +kernel)) dX2_digest_124 ?_
                      refine lv_lload_n hx hb dX2_digest_127 rfl (lv_at hl 2 rfl) ?_
                      refine lv_lmul hx hb dX2_digest_128 ?_
                      refine lv_aload_n hx hb dX2_digest_129 rfl (lv_at hl 3 rfl) ?_
                      refine lv_iload_n hx hb dX2_digest_130 rfl (lv_at hl 1 rfl) ?_
                      refine lv_iload hx hb dX2_digest_131 (lv_at hl 0 rfl) ?_
                      refine q_ciR (va_runV (rm := { frames := 1, cells := 0, slots := 0, locals := 20 }) (As := [.int (nI k), .int (nI j)]) (rest := [.long (31 * (fo (fun g => T (87 + 8 * k + g)) j (fo (g_po T k) 8 (dgPs T k (dgG T 8 (fo (g_ct T sn) 10 3779))))))]) ⟨hx, hb, hml, hown, hts⟩ (m2_told_ok l D z ol sn hs T S Ya G len P ch B hI k (by omega) j (by omega)) (cwV 2 hts gX2_digest_X2_told rfl rfl rfl (by decide +kernel) ⟨Nat.le_of_ble_eq_true rfl, Nat.le_of_ble_eq_true rfl⟩) (q_pV (ci := 2) (q0 := 0) hP hK rfl rfl) rfl rfl hl.1 rfl (lv_room (Nat.le_of_ble_eq_true rfl)) dX2_digest_133 ⟨Nat.le_of_ble_eq_true rfl, Nat.le_of_ble_eq_true rfl⟩) hP hS (fun x26 H locs e26 hP hS => ?_)
                      have e26 : x26 = T (87 + 8 * k + j) := e26
                      refine lv_i2l (v := (x26.toInt64)) hx hb dX2_digest_136 rfl ?_
                      refine lv_ladd hx hb dX2_digest_137 ?_
                      refine q_topl (y := (fo (fun g => T (87 + 8 * k + g)) (j + 1) (fo (g_po T k) 8 (dgPs T k (dgG T 8 (fo (g_ct T sn) 10 3779)))))) (show 31 * (fo (fun g => T (87 + 8 * k + g)) j (fo (g_po T k) 8 (dgPs T k (dgG T 8 (fo (g_ct T sn) 10 3779))))) + (x26.toInt64) = (fo (fun g => T (87 + 8 * k + g)) (j + 1) (fo (g_po T k) 8 (dgPs T k (dgG T 8 (fo (g_ct T sn) 10 3779))))) from (by rw [e26]; exact fo_s (fun g => T (87 + 8 * k + g)) j (fo (g_po T k) 8 (dgPs T k (dgG T 8 (fo (g_ct T sn) 10 3779)))))) ?_
                      refine lv_lstore_n (lv' := [(1, .long (fo (fun g => T (87 + 8 * k + g)) (j + 1) (fo (g_po T k) 8 (dgPs T k (dgG T 8 (fo (g_ct T sn) 10 3779)))))), (4, .int (nI j)), (3, .int (nI k)), (0, .ref (z.o))]) hx hb dX2_digest_138 rfl hl (by decide) rfl (fun ls hl => ?_)
                      refine lv_iinc (v := (nI (j + 1))) (lv' := [(4, .int (nI (j + 1))), (1, .long (fo (fun g => T (87 + 8 * k + g)) (j + 1) (fo (g_po T k) 8 (dgPs T k (dgG T 8 (fo (g_ct T sn) 10 3779)))))), (3, .int (nI k)), (0, .ref (z.o))]) hx hb dX2_digest_139 hl (k := 1) rfl (q_inc j 1 (j + 1) (by omega)) (by decide) rfl (fun ls hl => ?_)
                      refine lv_goto (tgt := 117) hx hb dX2_digest_142 (by decide) ?_
                      exact ih (j + 1) _ _ _ (by omega) hP hD hS (lv_sub hl [0, 2, 1, 3] rfl)
                  rw [← fo_0 (fun g => T (87 + 8 * k + g)) (fo (g_po T k) 8 (dgPs T k (dgG T 8 (fo (g_ct T sn) 10 3779))))] at hl
                  exact L6 8 0  _ _ _ (by omega)  hP hD hS (lv_sub hl [0, 1, 2, 3] rfl)
                | succ n ih =>
                  intro j  H locs ls hi  hP hD hS hl
                  refine lv_iload hx hb dX2_digest_86 (lv_at hl 0 rfl) ?_
                  refine lv_bipush (v := nI 7) hx hb dX2_digest_88 (by decide) ?_
                  refine q_gtN (tgt := 114) hx hb (by omega) (by omega) dX2_digest_90 (by decide) (fun c27 => absurd c27 (by omega)) (fun c27 => ?_)
                  refine lv_ldc2 hx hb hown (hts (.constantLong RX2 196 (31)) (by decide +kernel)) dX2_digest_93 ?_
                  refine lv_lload_n hx hb dX2_digest_96 rfl (lv_at hl 2 rfl) ?_
                  refine lv_lmul hx hb dX2_digest_97 ?_
                  refine lv_aload_n hx hb dX2_digest_98 rfl (lv_at hl 3 rfl) ?_
                  refine lv_iload_n hx hb dX2_digest_99 rfl (lv_at hl 1 rfl) ?_
                  refine lv_iload hx hb dX2_digest_100 (lv_at hl 0 rfl) ?_
                  refine q_ciR (va_runV (rm := { frames := 2, cells := 0, slots := 0, locals := 44 }) (As := [.int (nI k), .int (nI j)]) (rest := [.long (31 * (fo (g_po T k) j (dgPs T k (dgG T 8 (fo (g_ct T sn) 10 3779)))))]) ⟨hx, hb, hml, hown, hts⟩ (m2_pot_ok l D z ol sn hs T S Ya G len P ch B hI k (by omega) j (by omega)) (cwV 2 hts gX2_digest_X2_pot rfl rfl rfl (by decide +kernel) ⟨Nat.le_of_ble_eq_true rfl, Nat.le_of_ble_eq_true rfl⟩) (q_pV (ci := 2) (q0 := 0) hP hK rfl rfl) rfl rfl hl.1 rfl (lv_room (Nat.le_of_ble_eq_true rfl)) dX2_digest_102 ⟨Nat.le_of_ble_eq_true rfl, Nat.le_of_ble_eq_true rfl⟩) hP hS (fun x28 H locs e28 hP hS => ?_)
                  have e28 : x28 = g_po T k j := e28
                  refine lv_i2l (v := (x28.toInt64)) hx hb dX2_digest_105 rfl ?_
                  refine lv_ladd hx hb dX2_digest_106 ?_
                  refine q_topl (y := (fo (g_po T k) (j + 1) (dgPs T k (dgG T 8 (fo (g_ct T sn) 10 3779))))) (show 31 * (fo (g_po T k) j (dgPs T k (dgG T 8 (fo (g_ct T sn) 10 3779)))) + (x28.toInt64) = (fo (g_po T k) (j + 1) (dgPs T k (dgG T 8 (fo (g_ct T sn) 10 3779)))) from (by rw [e28]; exact fo_s (g_po T k) j (dgPs T k (dgG T 8 (fo (g_ct T sn) 10 3779))))) ?_
                  refine lv_lstore_n (lv' := [(1, .long (fo (g_po T k) (j + 1) (dgPs T k (dgG T 8 (fo (g_ct T sn) 10 3779))))), (4, .int (nI j)), (3, .int (nI k)), (0, .ref (z.o))]) hx hb dX2_digest_107 rfl hl (by decide) rfl (fun ls hl => ?_)
                  refine lv_iinc (v := (nI (j + 1))) (lv' := [(4, .int (nI (j + 1))), (1, .long (fo (g_po T k) (j + 1) (dgPs T k (dgG T 8 (fo (g_ct T sn) 10 3779))))), (3, .int (nI k)), (0, .ref (z.o))]) hx hb dX2_digest_108 hl (k := 1) rfl (q_inc j 1 (j + 1) (by omega)) (by decide) rfl (fun ls hl => ?_)
                  refine lv_goto (tgt := 86) hx hb dX2_digest_111 (by decide) ?_
                  exact ih (j + 1) _ _ _ (by omega) hP hD hS (lv_sub hl [0, 2, 1, 3] rfl)
              rw [← fo_0 (g_po T k) (dgPs T k (dgG T 8 (fo (g_ct T sn) 10 3779)))] at hl
              exact L5 8 0  _ _ _ (by omega)  hP hD hS (lv_sub hl [0, 1, 2, 3] rfl)
          rw [← dgPs_0 T (dgG T 8 (fo (g_ct T sn) 10 3779))] at hl
          exact L4 3 0 Y _ _ _ (by omega)  hP hD hS (lv_sub hl [0, 1, 2] rfl)
        | succ n ih =>
          intro g  H locs ls hi  hP hD hS hl
          refine lv_iload_n hx hb dX2_digest_33 rfl (lv_at hl 0 rfl) ?_
          refine lv_bipush (v := nI 8) hx hb dX2_digest_34 (by decide) ?_
          refine q_geN (tgt := 76) hx hb (by omega) (by omega) dX2_digest_36 (by decide) (fun c29 => absurd c29 (by omega)) (fun c29 => ?_)
          refine lv_iconst (v := nI 0) hx hb dX2_digest_39 (by decide) ?_
          refine lv_istore (lv' := [(4, .int (nI 0)), (3, .int (nI g)), (1, .long (dgG T g (fo (g_ct T sn) 10 3779))), (0, .ref (z.o))]) hx hb dX2_digest_40 hl (by decide) rfl (fun ls hl => ?_)
          have L3 : ∀ (n j : Nat)  (H : Heap) (locs : List Loc) (ls : Array Slot), j + n = 10 → va_P D vwCl (wX z ol sn hs T S Y G len P ch) H → va_D (fun _ => True) (wX z ol sn hs T S Y G len P ch) → va_S (AX z) s.heap H locs → lv_has ls 5 [(4, .int (nI j)), (3, .int (nI g)), (1, .long (fo (g_gu T g) j (dgG T g (fo (g_ct T sn) 10 3779)))), (0, .ref (z.o))] → W p l e { frames := 6, cells := 0, slots := 0, locals := 140 } s m args below meth c H locs 0 0 Q (F0 m 42 ls []) := by
            intro n
            induction n with
            | zero =>
              intro j  H locs ls hi  hP hD hS hl
              obtain rfl : 10 = j := by omega
              refine lv_iload hx hb dX2_digest_42 (lv_at hl 0 rfl) ?_
              refine lv_bipush (v := nI 9) hx hb dX2_digest_44 (by decide) ?_
              refine q_gtN (tgt := 70) hx hb (by omega) (by omega) dX2_digest_46 (by decide) (fun c30 => ?_) (fun c30 => absurd c30 (by omega))
              refine lv_iinc (v := (nI (g + 1))) (lv' := [(3, .int (nI (g + 1))), (4, .int (nI 10)), (1, .long (fo (g_gu T g) 10 (dgG T g (fo (g_ct T sn) 10 3779)))), (0, .ref (z.o))]) hx hb dX2_digest_70 hl (k := 1) rfl (q_inc g 1 (g + 1) (by omega)) (by decide) rfl (fun ls hl => ?_)
              refine lv_goto (tgt := 33) hx hb dX2_digest_73 (by decide) ?_
              rw [dgG_s] at hl
              exact ih (g + 1) _ _ _ (by omega) hP hD hS (lv_sub hl [0, 2, 3] rfl)
            | succ n ih =>
              intro j  H locs ls hi  hP hD hS hl
              refine lv_iload hx hb dX2_digest_42 (lv_at hl 0 rfl) ?_
              refine lv_bipush (v := nI 9) hx hb dX2_digest_44 (by decide) ?_
              refine q_gtN (tgt := 70) hx hb (by omega) (by omega) dX2_digest_46 (by decide) (fun c31 => absurd c31 (by omega)) (fun c31 => ?_)
              refine lv_ldc2 hx hb hown (hts (.constantLong RX2 196 (31)) (by decide +kernel)) dX2_digest_49 ?_
              refine lv_lload_n hx hb dX2_digest_52 rfl (lv_at hl 2 rfl) ?_
              refine lv_lmul hx hb dX2_digest_53 ?_
              refine lv_aload_n hx hb dX2_digest_54 rfl (lv_at hl 3 rfl) ?_
              refine lv_iload_n hx hb dX2_digest_55 rfl (lv_at hl 1 rfl) ?_
              refine lv_iload hx hb dX2_digest_56 (lv_at hl 0 rfl) ?_
              refine q_ciR (va_runV (rm := { frames := 1, cells := 0, slots := 0, locals := 23 }) (As := [.int (nI g), .int (nI j)]) (rest := [.long (31 * (fo (g_gu T g) j (dgG T g (fo (g_ct T sn) 10 3779))))]) ⟨hx, hb, hml, hown, hts⟩ (m2_guest_ok l D z ol sn hs T S Y G len P ch B hI g (by omega) j (by omega)) (cwV 2 hts gX2_digest_X2_guest rfl rfl rfl (by decide +kernel) ⟨Nat.le_of_ble_eq_true rfl, Nat.le_of_ble_eq_true rfl⟩) (q_pV (ci := 2) (q0 := 0) hP hK rfl rfl) rfl rfl hl.1 rfl (lv_room (Nat.le_of_ble_eq_true rfl)) dX2_digest_58 ⟨Nat.le_of_ble_eq_true rfl, Nat.le_of_ble_eq_true rfl⟩) hP hS (fun x32 H locs e32 hP hS => ?_)
              have e32 : x32 = g_gu T g j := e32
              refine lv_i2l (v := (x32.toInt64)) hx hb dX2_digest_61 rfl ?_
              refine lv_ladd hx hb dX2_digest_62 ?_
              refine q_topl (y := (fo (g_gu T g) (j + 1) (dgG T g (fo (g_ct T sn) 10 3779)))) (show 31 * (fo (g_gu T g) j (dgG T g (fo (g_ct T sn) 10 3779))) + (x32.toInt64) = (fo (g_gu T g) (j + 1) (dgG T g (fo (g_ct T sn) 10 3779))) from (by rw [e32]; exact fo_s (g_gu T g) j (dgG T g (fo (g_ct T sn) 10 3779)))) ?_
              refine lv_lstore_n (lv' := [(1, .long (fo (g_gu T g) (j + 1) (dgG T g (fo (g_ct T sn) 10 3779)))), (4, .int (nI j)), (3, .int (nI g)), (0, .ref (z.o))]) hx hb dX2_digest_63 rfl hl (by decide) rfl (fun ls hl => ?_)
              refine lv_iinc (v := (nI (j + 1))) (lv' := [(4, .int (nI (j + 1))), (1, .long (fo (g_gu T g) (j + 1) (dgG T g (fo (g_ct T sn) 10 3779)))), (3, .int (nI g)), (0, .ref (z.o))]) hx hb dX2_digest_64 hl (k := 1) rfl (q_inc j 1 (j + 1) (by omega)) (by decide) rfl (fun ls hl => ?_)
              refine lv_goto (tgt := 42) hx hb dX2_digest_67 (by decide) ?_
              exact ih (j + 1) _ _ _ (by omega) hP hD hS (lv_sub hl [0, 2, 1, 3] rfl)
          rw [← fo_0 (g_gu T g) (dgG T g (fo (g_ct T sn) 10 3779))] at hl
          exact L3 10 0  _ _ _ (by omega)  hP hD hS (lv_sub hl [0, 1, 2, 3] rfl)
      rw [← dgG_0 T (fo (g_ct T sn) 10 3779)] at hl
      exact L2 8 0  _ _ _ (by omega)  hP hD hS (lv_sub hl [0, 1, 2] rfl)
    | succ n ih =>
      intro i  H locs ls hi  hP hD hS hl
      refine lv_iload_n hx hb dX2_digest_6 rfl (lv_at hl 0 rfl) ?_
      refine lv_bipush (v := nI 9) hx hb dX2_digest_7 (by decide) ?_
      refine q_gtN (tgt := 31) hx hb (by omega) (by omega) dX2_digest_9 (by decide) (fun c33 => absurd c33 (by omega)) (fun c33 => ?_)
      refine lv_ldc2 hx hb hown (hts (.constantLong RX2 196 (31)) (by decide +kernel)) dX2_digest_12 ?_
      refine lv_lload_n hx hb dX2_digest_15 rfl (lv_at hl 1 rfl) ?_
      refine lv_lmul hx hb dX2_digest_16 ?_
      refine lv_aload_n hx hb dX2_digest_17 rfl (lv_at hl 2 rfl) ?_
      refine lv_iload_n hx hb dX2_digest_18 rfl (lv_at hl 0 rfl) ?_
      refine q_ciR (va_runV (rm := { frames := 3, cells := 0, slots := 0, locals := 65 }) (As := [.int (nI i)]) (rest := [.long (31 * (fo (g_ct T sn) i 3779))]) ⟨hx, hb, hml, hown, hts⟩ (m2_count_ok l D z ol sn hs T S Y G len P ch i (by omega)) (cwV 1 hts gX2_digest_X2_count rfl rfl rfl (by decide +kernel) ⟨Nat.le_of_ble_eq_true rfl, Nat.le_of_ble_eq_true rfl⟩) (q_pV (ci := 2) (q0 := 0) hP hK rfl rfl) rfl rfl hl.1 rfl (lv_room (Nat.le_of_ble_eq_true rfl)) dX2_digest_19 ⟨Nat.le_of_ble_eq_true rfl, Nat.le_of_ble_eq_true rfl⟩) hP hS (fun x34 H locs e34 hP hS => ?_)
      have e34 : x34 = g_ct T sn i := e34
      refine lv_i2l (v := (x34.toInt64)) hx hb dX2_digest_22 rfl ?_
      refine lv_ladd hx hb dX2_digest_23 ?_
      refine q_topl (y := (fo (g_ct T sn) (i + 1) 3779)) (show 31 * (fo (g_ct T sn) i 3779) + (x34.toInt64) = (fo (g_ct T sn) (i + 1) 3779) from (by rw [e34]; exact fo_s (g_ct T sn) i 3779)) ?_
      refine lv_lstore_n (lv' := [(1, .long (fo (g_ct T sn) (i + 1) 3779)), (3, .int (nI i)), (0, .ref (z.o))]) hx hb dX2_digest_24 rfl hl (by decide) rfl (fun ls hl => ?_)
      refine lv_iinc (v := (nI (i + 1))) (lv' := [(3, .int (nI (i + 1))), (1, .long (fo (g_ct T sn) (i + 1) 3779)), (0, .ref (z.o))]) hx hb dX2_digest_25 hl (k := 1) rfl (q_inc i 1 (i + 1) (by omega)) (by decide) rfl (fun ls hl => ?_)
      refine lv_goto (tgt := 6) hx hb dX2_digest_28 (by decide) ?_
      exact ih (i + 1) _ _ _ (by omega) hP hD hS (lv_sub hl [0, 1, 2] rfl)
  rw [← fo_0 (g_ct T sn) 3779] at hl
  exact L1 10 0  _ _ _ (by omega)  hP hD hS (lv_sub hl [0, 1, 2] rfl)
