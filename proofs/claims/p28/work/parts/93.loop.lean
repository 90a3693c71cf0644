set_option maxHeartbeats 4000000 in
set_option maxRecDepth 100000 in
theorem lw_round {p : Program} {l : Launch} {e : Env} {s : State} {m : MethodId} {args : Array Value} {below : List Frame} {meth : Method} {c : Code} {H : Heap} {locs : List Loc} {cells slots : Nat} {Q : State → Prop} {ls : Array Slot} {D : va_G} {z y : Ad} {oa : Nat} {st : Nat → Nat} {A : Nat → Prop} {b L : Nat} {xs : Nat → Int32} (hLC : k_LC p s m c args l D z y oa st A b L xs) {i : Nat} (hi : i < 56) {v : Int32} {B : Nat} (hB : B + 3200 < 1000000) {T : Nat → Int32} (hJ : Jv B T) {sn sm : Nat} (hsn : sn ≤ 6) (hsm : sm ≤ 6) {g : Int32} (hz : OS z D sn T H) (hy : OS y D sm T H) (hO : va_P D vwCl (wI oa z.cI g) H) (hS : va_S A s.heap H locs) (hl : lv_has ls 10 [(6, .int (nI sn)), (5, .int v), (4, .int (nI i)), (3, .ref oa), (2, .ref y.o), (1, .ref z.o), (0, .ref b)]) (hcell : cells + 4 ≤ 600104) (hslot : slots + 24 ≤ 7301314)
    (kk : ∀ (H1 : Heap) (locs1 : List Loc) (ls1 : Array Slot) (sn1 sm1 : Nat) (T1 : Nat → Int32) (g1 : Int32), sn1 ≤ 6 → sm1 ≤ 6 → Jv (B + 3200) T1 → OS z D sn1 T1 H1 → OS y D sm1 T1 H1 → va_P D vwCl (wI oa z.cI g1) H1 → va_S A s.heap H1 locs1 → lv_has ls1 10 (k_lv z y oa b i) → W p l e room_1 s m args below meth c H1 locs1 (cells + 4) (slots + 24) Q (F0 m 271 ls1 [])) :
    W p l e room_1 s m args below meth c H locs cells slots Q (F0 m 64 ls []) := by
  obtain ⟨⟨hx, hb, hml, hts, hown⟩, ⟨hl9, hK, hT, eI, eS⟩, ⟨hX, hbl, hbA, hL⟩, ⟨hAz, hAy, hAo, hzy, hzo, hyo⟩, hDz, hDy⟩ := id hLC
  obtain ⟨k, T', x, hk4, hJ1, hact⟩ := act_all hJ (by omega) v
  have hact : ∀ (z : Ad) (hoa : ¬ AX z oa) (hDX : va_D (fun _ => True) (wX z 0 0 0 f00 f00 f00 (fun _ => f00) 0 (0, 0, 0, 0) (fun _ => 0))) (g : Int32) (sn : Nat) (hsn : sn ≤ 6), k_H l yL_act wsL_act { frames := 9, cells := 1, slots := 6, locals := 164 } [.ref z.o, .int v, .ref oa] st D z oa (OS z D sn T) g (nI k) (CE k z D sn T T') (OE k x) := fun z h1 h2 g sn h3 => hact l hl9 D st z oa h1 h2 g sn h3
  by_cases hk0 : k = 0
  · refine lw_midz hLC (by omega) hJ (by omega) hact hk0 hsn hz hy hO hS hl (by omega) (by omega) (fun H locs ls sn1 g1 told hsn1 hz hy hO htold hS hl => ?_)
    refine lw_same hLC (by omega) (B := B + 3200) (by omega) hJ1.1 hz hy hO hS hl (by omega) (by omega) (hact y hyo hDy g1 sm hsm) (fun H h => by subst hk0; exact ⟨1 + pn sm, by have := pn_lt hsm; omega, OU.os (show OU y D (pn sm) T T' H from h)⟩) (fun g' h e => (h e).trans (htold e).symm) (fun H locs s2 g2 hs2 hz hy hO hS hl => ?_)
    exact lw_tail hLC hi (by omega) hJ1 hsn1 hz hy hO hS hl (by omega) (by omega) (fun H locs sn3 g3 hsn3 hz hy hO hS hl => W.widen (k := cells + 4) (n := slots + 24) (by omega) (by omega) (kk _ _ _ sn3 s2 T' g3 hsn3 hs2 hJ1 hz hy hO hS hl))
  · have hJ2 : Jv (B + 3200) T := hJ.mono (by omega)
    refine lw_midn hLC (by omega) hJ (by omega) hact hk0 hsn hz hy hO hS hl (by omega) (by omega) (fun H locs ls sn1 g1 told hsn1 hz hy hO htold hS hl => ?_)
    refine lw_same hLC (by omega) (B := B + 3200) (by omega) hJ2.1 hz hy hO hS hl (by omega) (by omega) (hact y hyo hDy g1 sm hsm) (fun H h => by
      cases k with
      | zero => exact absurd rfl hk0
      | succ k => exact ⟨sm, hsm, h⟩) (fun g' h e => absurd e hk0) (fun H locs s2 g2 hs2 hz hy hO hS hl => ?_)
    exact lw_tail hLC hi (by omega) hJ2 hsn1 hz hy hO hS hl (by omega) (by omega) (fun H locs sn3 g3 hsn3 hz hy hO hS hl => W.widen (k := cells + 4) (n := slots + 24) (by omega) (by omega) (kk _ _ _ sn3 s2 T g3 hsn3 hs2 hJ2 hz hy hO hS hl))
set_option maxHeartbeats 4000000 in
set_option maxRecDepth 100000 in
theorem law_loop {p : Program} {l : Launch} {e : Env} {s : State} {m : MethodId} {args : Array Value} {below : List Frame} {meth : Method} {c : Code} {Q : State → Prop} {D : va_G} {z y : Ad} {oa : Nat} {st : Nat → Nat} {A : Nat → Prop} {b L : Nat} {xs : Nat → Int32} (hLC : k_LC p s m c args l D z y oa st A b L xs)
    (hend : ∀ (H : Heap) (locs : List Loc) (ls : Array Slot) (cells slots : Nat), va_S A s.heap H locs → cells ≤ 600104 → slots ≤ 7301314 → W p l e room_1 s m args below meth c H locs cells slots Q (F0 m 281 ls [.int (nI 1)])) :
    ∀ (n i cells slots sn sm : Nat) (T : Nat → Int32) (g : Int32) (H : Heap) (locs : List Loc) (ls : Array Slot), i + n = 56 → cells + 4 * n ≤ 600104 → slots + 24 * n ≤ 7301314 → sn ≤ 6 → sm ≤ 6 → Jv (3200 * i) T → OS z D sn T H → OS y D sm T H → va_P D vwCl (wI oa z.cI g) H → va_S A s.heap H locs → lv_has ls 10 (k_lv z y oa b i) → W p l e room_1 s m args below meth c H locs cells slots Q (F0 m 23 ls []) := by
  obtain ⟨⟨hx, hb, hml, hts, hown⟩, ⟨hl9, hK, hT, eI, eS⟩, ⟨hX, hbl, hbA, hL⟩, ⟨hAz, hAy, hAo, hzy, hzo, hyo⟩, hDz, hDy⟩ := id hLC
  intro n
  induction n with
  | zero =>
    intro i cells slots sn sm T g H locs ls hi hcell hslot hsn hsm hJ hz hy hO hS hl
    obtain rfl : i = 56 := by omega
    refine lv_iload hx hb dL_law_23 (lv_at hl 0 rfl) ?_
    refine lv_bipush (v := nI 56) hx hb dL_law_25 (by decide) ?_
    refine q_geN (tgt := 277) hx hb (by omega) (by omega) dL_law_27 (by decide) (fun _ => ?_) (fun c => absurd c (by omega))
    refine lv_aload_n hx hb dL_law_277 rfl (lv_at hl 3 rfl) ?_
    refine c_sums hLC hl dL_law_278 hJ (by omega) hz hS (by omega) (by omega) (fun H locs hk hS => ?_)
    exact hend _ _ _ _ _ hS (by omega) (by omega)
  | succ n ih =>
    intro i cells slots sn sm T g H locs ls hi hcell hslot hsn hsm hJ hz hy hO hS hl
    refine lv_iload hx hb dL_law_23 (lv_at hl 0 rfl) ?_
    refine lv_bipush (v := nI 56) hx hb dL_law_25 (by decide) ?_
    refine q_geN (tgt := 277) hx hb (by omega) (by omega) dL_law_27 (by decide) (fun c => absurd c (by omega)) (fun _ => ?_)
    have J54 : ∀ (v : Int32) (H : Heap) (locs : List Loc), OS z D sn T H → OS y D sm T H → va_P D vwCl (wI oa z.cI g) H → va_S A s.heap H locs → W p l e room_1 s m args below meth c H locs cells slots Q (F0 m 54 ls [.int v]) := by
      intro v H locs hz hy hO hS
      refine lv_istore (lv' := [(5, .int v), (4, .int (nI i)), (3, .ref oa), (2, .ref y.o), (1, .ref z.o), (0, .ref b)]) hx hb dL_law_54 hl (by decide) rfl (fun ls hl => ?_)
      refine lv_aload_n hx hb dL_law_56 rfl (lv_at hl 4 rfl) ?_
      refine lv_bipush (v := nI 9) hx hb dL_law_57 (by decide) ?_
      refine c_count hLC hl dL_law_59 hz hS (by omega) (by omega) (fun H locs hk hS => ?_)
      have hz := hz.kp hk
      have hy := hy.kp hk
      have hO := k_kp hO hk
      refine lv_istore (lv' := [(6, .int (nI sn)), (5, .int v), (4, .int (nI i)), (3, .ref oa), (2, .ref y.o), (1, .ref z.o), (0, .ref b)]) hx hb dL_law_62 hl (by decide) rfl (fun ls hl => ?_)
      refine lw_round hLC (by omega) (B := 3200 * i) (by omega) hJ hsn hsm hz hy hO hS hl (by omega) (by omega) (fun H locs ls sn1 sm1 T1 g1 hsn1 hsm1 hJ1 hz hy hO hS hl => ?_)
      refine lv_iinc (v := nI (i + 1)) (lv' := k_lv z y oa b (i + 1)) hx hb dL_law_271 hl (k := 0) rfl (q_inc i 1 (i + 1) rfl) (by decide) rfl (fun ls hl => ?_)
      refine lv_goto (tgt := 23) hx hb dL_law_274 (by decide) ?_
      have hJ2 : Jv (3200 * (i + 1)) T1 := hJ1.mono (by omega)
      exact ih (i + 1) (cells + 4) (slots + 24) sn1 sm1 T1 g1 _ _ _ (by omega) (by omega) (by omega) hsn1 hsm1 hJ2 hz hy hO hS hl
    refine lv_iload hx hb dL_law_30 (lv_at hl 0 rfl) ?_
    refine lv_iconst (v := nI 2) hx hb dL_law_32 (by decide) ?_
    refine q_geN (tgt := 48) hx hb (by omega) (by omega) dL_law_33 (by decide) (fun _ => ?_) (fun _ => ?_)
    ·
      refine lv_aload_n hx hb dL_law_48 rfl (lv_at hl 4 rfl) ?_
      refine lv_iload hx hb dL_law_49 (lv_at hl 0 rfl) ?_
      refine c_cell hLC hl dL_law_51 (by omega) hS (by omega) (by omega) (fun H locs v hk hS => ?_)
      have hz := hz.kp hk
      have hy := hy.kp hk
      have hO := k_kp hO hk
      exact J54 v _ _ hz hy hO hS
    ·
      refine lv_aload_n hx hb dL_law_36 rfl (lv_at hl 4 rfl) ?_
      refine lv_iload hx hb dL_law_37 (lv_at hl 0 rfl) ?_
      refine c_cell hLC hl dL_law_39 (by omega) hS (by omega) (by omega) (fun H locs v hk hS => ?_)
      have hz := hz.kp hk
      have hy := hy.kp hk
      have hO := k_kp hO hk
      refine lv_bipush (v := (-32)) hx hb dL_law_42 (by decide) ?_
      refine lv_iand hx hb dL_law_44 ?_
      refine lv_goto (tgt := 54) hx hb dL_law_45 (by decide) ?_
      exact J54 _ _ _ hz hy hO hS
