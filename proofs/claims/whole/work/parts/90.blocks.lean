set_option maxHeartbeats 4000000 in
set_option maxRecDepth 100000 in
theorem lw_like {p : Program} {l : Launch} {e : Env} {s : State} {m : MethodId} {args : Array Value} {below : List Frame} {meth : Method} {c : Code} {H : Heap} {locs : List Loc} {cells slots : Nat} {Q : State → Prop} {ls : Array Slot} {D : va_G} {z : Ad} {r : Mo} {oa : Nat} {cJ : ClassId} {st : Nat → Nat} {A : Nat → Prop} {b L : Nat} {xs : Nat → Int32} (hLC : q_LC p s m c args l D z r oa cJ st A b L xs) {i : Nat} (hi : i + 5 ≤ L) {C0 C1 : Heap → Prop} {g g' : Int64} {k : Nat} {bb : Int32} {w0 : va_W} {fs0 : List Value} {sn hs len : Nat} {T fv fn fx : Nat → Int32} (hk4 : k < 4)
    (hXc : q_H l yL_like wsL_like { frames := 8, cells := 1, slots := 6, locals := 129 } [.ref z.o, .int (xs (i + 1)), .int (xs (i + 2)), .int (xs (i + 3)), .int (xs (i + 4)), .ref oa] st D z oa cJ C0 g k C1 g') (hCk : ∀ (H H1 : Heap), C1 H → (∀ q : Nat, q < H.size → ¬ AMo r q → H1[q]? = H[q]?) → C1 H1)
    (hMc : q_I l yX3_like wsX3_like { frames := 2, cells := 0, slots := 0, locals := 42 } [.ref r.1, .int (xs (i + 1)), .int (xs (i + 2)), .int (xs (i + 3)), .int (xs (i + 4))] (q_bp D w0 [(z.cI, .int)]) (fun v => k = 0 → v = bb) (MS r z.cI D (nI k) sn hs len T fv fn fx) (AMo r) 0 0) (hw0 : w0[0]? = some (r.1, .inr (3, fs0))) (hM0 : ∀ (k : Nat) (q : Nat × va_E), w0[k]? = some q → AMo r q.1)
    (hg : k = 0 → g' = bb.toInt64) (hC : C0 H) (hM : va_P D vwCl w0 H) (hO : va_P D vwCl (wO oa cJ g) H) (hS : va_S A s.heap H locs) (hl : lv_has ls 9 (q_lvL z r oa b i)) (hcell : cells + 1 ≤ 601024) (hslot : slots + 6 ≤ 7293034)
    (kk : ∀ (H1 : Heap) (locs1 : List Loc) (ls1 : Array Slot), C1 H1 → MS r z.cI D (nI k) sn hs len T fv fn fx H1 → va_P D vwCl (wO oa cJ g') H1 → va_S A s.heap H1 locs1 → lv_has ls1 9 (q_lvL z r oa b i) → W p l e room_1 s m args below meth c H1 locs1 (cells + 1) (slots + 6) Q (F0 m 1449 ls1 [])) :
    W p l e room_1 s m args below meth c H locs cells slots Q (F0 m 152 ls []) := by
  obtain ⟨⟨hx, hb, hml, hts, hown⟩, ⟨hl9, hK, hT⟩, ⟨hX, hbl, hbA, hL⟩, ⟨hAX, hAM, hAo, hXM, hMX, hMo, hoa⟩, hDX, hDR⟩ := hLC
  have hAXo : ∀ q, AXo z oa q → A q := fun q h => h.elim (hAX q) (fun e => by rw [e]; exact hAo)
  refine lv_aload_n hx hb dL_law_152 rfl (lv_at hl 3 rfl) ?_
  refine lv_aload_n hx hb dL_law_153 rfl (lv_at hl 4 rfl) ?_
  refine lv_iload hx hb dL_law_154 (lv_at hl 0 rfl) ?_
  refine lv_iconst (v := nI 1) hx hb dL_law_156 (by decide) ?_
  refine q_addN hx hb (i + 1) rfl dL_law_157 ?_
  refine q_sld hx hb hX hbl hbA hS (j := i + 1) (by omega) hL dL_law_158 ?_
  refine lv_aload_n hx hb dL_law_159 rfl (lv_at hl 4 rfl) ?_
  refine lv_iload hx hb dL_law_160 (lv_at hl 0 rfl) ?_
  refine lv_iconst (v := nI 2) hx hb dL_law_162 (by decide) ?_
  refine q_addN hx hb (i + 2) rfl dL_law_163 ?_
  refine q_sld hx hb hX hbl hbA hS (j := i + 2) (by omega) hL dL_law_164 ?_
  refine lv_aload_n hx hb dL_law_165 rfl (lv_at hl 4 rfl) ?_
  refine lv_iload hx hb dL_law_166 (lv_at hl 0 rfl) ?_
  refine lv_iconst (v := nI 3) hx hb dL_law_168 (by decide) ?_
  refine q_addN hx hb (i + 3) rfl dL_law_169 ?_
  refine q_sld hx hb hX hbl hbA hS (j := i + 3) (by omega) hL dL_law_170 ?_
  refine lv_aload_n hx hb dL_law_171 rfl (lv_at hl 4 rfl) ?_
  refine lv_iload hx hb dL_law_172 (lv_at hl 0 rfl) ?_
  refine lv_iconst (v := nI 4) hx hb dL_law_174 (by decide) ?_
  refine q_addN hx hb (i + 4) rfl dL_law_175 ?_
  refine q_sld hx hb hX hbl hbA hS (j := i + 4) (by omega) hL dL_law_176 ?_
  refine lv_aload_n hx hb dL_law_177 rfl (lv_at hl 1 rfl) ?_
  refine q_ciK (BH := fun H => C1 H ∧ va_P D vwCl (wO oa cJ g') H) (vx_runSW (rm := { frames := 8, cells := 1, slots := 6, locals := 129 }) (As := [.ref z.o, .int (xs (i + 1)), .int (xs (i + 2)), .int (xs (i + 3)), .int (xs (i + 4)), .ref oa]) (rest := []) ⟨hx, hb, hml, hown, hts⟩ hXc (vx_cwSW (hh := [(0, 14, 17, 13), (0, 14, 21, 15)]) 6 hts gL_law_L_like rfl rfl rfl (by decide +kernel) ⟨Nat.le_of_ble_eq_true rfl, Nat.le_of_ble_eq_true rfl⟩) (q_pSH hC hO hK hT hS hAXo) rfl rfl hl.1 rfl (lv_room (Nat.le_of_ble_eq_true rfl)) dL_law_178 ⟨hcell, hslot⟩) (fun _ h => h) hS hAXo (fun x5 H locs e5 hCO hk hS => ?_)
  obtain ⟨hC, hO⟩ := hCO
  have e5 : nI k = x5 := Eq.symm e5
  subst e5
  have hM := hM.keptA hM0 hMX hk
  refine lv_istore (lv' := [(5, .int (nI k)), (4, .int (nI i)), (3, .ref oa), (2, .ref r.1), (1, .ref z.o), (0, .ref b)]) hx hb dL_law_181 hl (by decide) rfl (fun ls hl => ?_)
  refine lv_aload_n hx hb dL_law_183 rfl (lv_at hl 3 rfl) ?_
  refine lv_aload_n hx hb dL_law_184 rfl (lv_at hl 5 rfl) ?_
  refine lv_iload hx hb dL_law_185 (lv_at hl 1 rfl) ?_
  refine lv_iconst (v := nI 1) hx hb dL_law_187 (by decide) ?_
  refine q_addN hx hb (i + 1) rfl dL_law_188 ?_
  refine q_sld hx hb hX hbl hbA hS (j := i + 1) (by omega) hL dL_law_189 ?_
  refine lv_aload_n hx hb dL_law_190 rfl (lv_at hl 5 rfl) ?_
  refine lv_iload hx hb dL_law_191 (lv_at hl 1 rfl) ?_
  refine lv_iconst (v := nI 2) hx hb dL_law_193 (by decide) ?_
  refine q_addN hx hb (i + 2) rfl dL_law_194 ?_
  refine q_sld hx hb hX hbl hbA hS (j := i + 2) (by omega) hL dL_law_195 ?_
  refine lv_aload_n hx hb dL_law_196 rfl (lv_at hl 5 rfl) ?_
  refine lv_iload hx hb dL_law_197 (lv_at hl 1 rfl) ?_
  refine lv_iconst (v := nI 3) hx hb dL_law_199 (by decide) ?_
  refine q_addN hx hb (i + 3) rfl dL_law_200 ?_
  refine q_sld hx hb hX hbl hbA hS (j := i + 3) (by omega) hL dL_law_201 ?_
  refine lv_aload_n hx hb dL_law_202 rfl (lv_at hl 5 rfl) ?_
  refine lv_iload hx hb dL_law_203 (lv_at hl 1 rfl) ?_
  refine lv_iconst (v := nI 4) hx hb dL_law_205 (by decide) ?_
  refine q_addN hx hb (i + 4) rfl dL_law_206 ?_
  refine q_sld hx hb hX hbl hbA hS (j := i + 4) (by omega) hL dL_law_207 ?_
  refine q_ciK (BH := MS r z.cI D (nI k) sn hs len T fv fn fx) (va_runV (rm := { frames := 2, cells := 0, slots := 0, locals := 42 }) (As := [.int (xs (i + 1)), .int (xs (i + 2)), .int (xs (i + 3)), .int (xs (i + 4))]) (rest := []) ⟨hx, hb, hml, hown, hts⟩ hMc (cwV 4 hts gL_law_X3_like rfl rfl rfl (by decide +kernel) ⟨Nat.le_of_ble_eq_true rfl, Nat.le_of_ble_eq_true rfl⟩) (q_pV (ci := 3) (q0 := 0) hM (hK.sub [0] rfl) rfl hw0) rfl rfl hl.1 rfl (lv_room (Nat.le_of_ble_eq_true rfl)) dL_law_208 ⟨hcell, hslot⟩) (fun _ h => h) hS hAM (fun x6 H locs e6 hM hk hS => ?_)
  have e6 : k = 0 → x6 = bb := e6
  have hC := hCk _ _ hC hk
  have hO := wO_kept hO hMo hk
  obtain ⟨sp, wr, le, wh, tz, dg, fa, hM⟩ := hM
  have hDM := q_D2 (ws' := wRo r z.cI (nI k) sn hs len sp wr le wh tz dg T fa fv fn fx) hDR rfl
  refine lv_istore (lv' := [(6, .int x6), (5, .int (nI k)), (4, .int (nI i)), (3, .ref oa), (2, .ref r.1), (1, .ref z.o), (0, .ref b)]) hx hb dL_law_211 hl (by decide) rfl (fun ls hl => ?_)
  refine lv_aload_n hx hb dL_law_213 rfl (lv_at hl 4 rfl) ?_
  refine q_ciK (BH := fun H => va_P D vwCl (wRo r z.cI (nI k) sn hs len sp wr le wh tz dg T fa fv fn fx) H) (va_runV (rm := { frames := 0, cells := 0, slots := 0, locals := 0 }) (As := []) (rest := []) ⟨hx, hb, hml, hown, hts⟩ (m3_thrown l D z.cI r.1 r.2.1 r.2.2.1 r.2.2.2.1 r.2.2.2.2.1 r.2.2.2.2.2 T fa fv fn fx (nI k) (nI sn) (nI hs) (nI len) sp wr le wh (nI tz) dg hDM) (cwV 0 hts gL_law_X3_thrown rfl rfl rfl (by decide +kernel) ⟨Nat.le_of_ble_eq_true rfl, Nat.le_of_ble_eq_true rfl⟩) (q_pV (ci := 3) (q0 := 0) hM (hK.sub [0] rfl) rfl rfl) rfl rfl hl.1 rfl (lv_room (Nat.le_of_ble_eq_true rfl)) dL_law_214 ⟨hcell, hslot⟩) (fun _ h => h) hS hAM (fun x7 H locs e7 hM hk hS => ?_)
  have e7 : nI k = x7 := Eq.symm e7
  subst e7
  have hC := hCk _ _ hC hk
  have hO := wO_kept hO hMo hk
  have hMS : MS r z.cI D (nI k) sn hs len T fv fn fx H := ⟨sp, wr, le, wh, tz, dg, fa, hM⟩
  refine lv_iload hx hb dL_law_217 (lv_at hl 1 rfl) ?_
  refine lv_icmp_eq (tgt := 224) hx hb dL_law_219 (by decide) (fun _ => ?_) (fun c => absurd rfl c)
  refine lv_iload hx hb dL_law_224 (lv_at hl 1 rfl) ?_
  refine lv_if_ne (tgt := 241) hx hb dL_law_226 (by decide) (fun c1 => ?_) (fun c1 => ?_)
  ·
    refine lv_goto (tgt := 1449) hx hb dL_law_241 (by decide) ?_
    exact kk _ _ _ hC hMS hO hS (lv_sub hl [2, 3, 4, 5, 6] rfl)
  ·
    refine lv_aload_n hx hb dL_law_229 rfl (lv_at hl 3 rfl) ?_
    refine lv_iconst (v := nI 0) hx hb dL_law_230 (by decide) ?_
    refine q_lld0 hx hb hK hO 2 rfl dL_law_231 ?_
    refine lv_iload hx hb dL_law_232 (lv_at hl 0 rfl) ?_
    refine lv_i2l (v := x6.toInt64) hx hb dL_law_234 rfl ?_
    refine W.lcmp hx hb dL_law_235 ?_
    have hk0 := nI_k0 hk4 c1
    refine lv_if_eq (tgt := 241) hx hb dL_law_236 (by decide) (fun _ => ?_) (fun c => absurd (by rw [hg hk0, e6 hk0]; exact lg_self _) c)
    refine lv_goto (tgt := 1449) hx hb dL_law_241 (by decide) ?_
    exact kk _ _ _ hC hMS hO hS (lv_sub hl [2, 3, 4, 5, 6] rfl)
set_option maxHeartbeats 4000000 in
set_option maxRecDepth 100000 in
theorem lw_cup {p : Program} {l : Launch} {e : Env} {s : State} {m : MethodId} {args : Array Value} {below : List Frame} {meth : Method} {c : Code} {H : Heap} {locs : List Loc} {cells slots : Nat} {Q : State → Prop} {ls : Array Slot} {D : va_G} {z : Ad} {r : Mo} {oa : Nat} {cJ : ClassId} {st : Nat → Nat} {A : Nat → Prop} {b L : Nat} {xs : Nat → Int32} (hLC : q_LC p s m c args l D z r oa cJ st A b L xs) {i : Nat} (hi : i + 5 ≤ L) {C0 C1 : Heap → Prop} {g g' : Int64} {k : Nat} {bb : Int32} {w0 : va_W} {fs0 : List Value} {sn hs len : Nat} {T fv fn fx : Nat → Int32} (hk4 : k < 4)
    (hXc : q_H l yL_cup wsL_cup { frames := 8, cells := 1, slots := 6, locals := 127 } [.ref z.o, .int (xs (i + 1)), .int (xs (i + 2)), .ref oa] st D z oa cJ C0 g k C1 g') (hCk : ∀ (H H1 : Heap), C1 H → (∀ q : Nat, q < H.size → ¬ AMo r q → H1[q]? = H[q]?) → C1 H1)
    (hMc : q_I l yX3_cup wsX3_cup { frames := 2, cells := 0, slots := 0, locals := 42 } [.ref r.1, .int (xs (i + 1)), .int (xs (i + 2))] (q_bp D w0 [(z.cI, .int)]) (fun v => k = 0 → v = bb) (MS r z.cI D (nI k) sn hs len T fv fn fx) (AMo r) 0 0) (hw0 : w0[0]? = some (r.1, .inr (3, fs0))) (hM0 : ∀ (k : Nat) (q : Nat × va_E), w0[k]? = some q → AMo r q.1)
    (hg : k = 0 → g' = bb.toInt64) (hC : C0 H) (hM : va_P D vwCl w0 H) (hO : va_P D vwCl (wO oa cJ g) H) (hS : va_S A s.heap H locs) (hl : lv_has ls 9 (q_lvL z r oa b i)) (hcell : cells + 1 ≤ 601024) (hslot : slots + 6 ≤ 7293034)
    (kk : ∀ (H1 : Heap) (locs1 : List Loc) (ls1 : Array Slot), C1 H1 → MS r z.cI D (nI k) sn hs len T fv fn fx H1 → va_P D vwCl (wO oa cJ g') H1 → va_S A s.heap H1 locs1 → lv_has ls1 9 (q_lvL z r oa b i) → W p l e room_1 s m args below meth c H1 locs1 (cells + 1) (slots + 6) Q (F0 m 1449 ls1 [])) :
    W p l e room_1 s m args below meth c H locs cells slots Q (F0 m 244 ls []) := by
  obtain ⟨⟨hx, hb, hml, hts, hown⟩, ⟨hl9, hK, hT⟩, ⟨hX, hbl, hbA, hL⟩, ⟨hAX, hAM, hAo, hXM, hMX, hMo, hoa⟩, hDX, hDR⟩ := hLC
  have hAXo : ∀ q, AXo z oa q → A q := fun q h => h.elim (hAX q) (fun e => by rw [e]; exact hAo)
  refine lv_aload_n hx hb dL_law_244 rfl (lv_at hl 3 rfl) ?_
  refine lv_aload_n hx hb dL_law_245 rfl (lv_at hl 4 rfl) ?_
  refine lv_iload hx hb dL_law_246 (lv_at hl 0 rfl) ?_
  refine lv_iconst (v := nI 1) hx hb dL_law_248 (by decide) ?_
  refine q_addN hx hb (i + 1) rfl dL_law_249 ?_
  refine q_sld hx hb hX hbl hbA hS (j := i + 1) (by omega) hL dL_law_250 ?_
  refine lv_aload_n hx hb dL_law_251 rfl (lv_at hl 4 rfl) ?_
  refine lv_iload hx hb dL_law_252 (lv_at hl 0 rfl) ?_
  refine lv_iconst (v := nI 2) hx hb dL_law_254 (by decide) ?_
  refine q_addN hx hb (i + 2) rfl dL_law_255 ?_
  refine q_sld hx hb hX hbl hbA hS (j := i + 2) (by omega) hL dL_law_256 ?_
  refine lv_aload_n hx hb dL_law_257 rfl (lv_at hl 1 rfl) ?_
  refine q_ciK (BH := fun H => C1 H ∧ va_P D vwCl (wO oa cJ g') H) (vx_runSW (rm := { frames := 8, cells := 1, slots := 6, locals := 127 }) (As := [.ref z.o, .int (xs (i + 1)), .int (xs (i + 2)), .ref oa]) (rest := []) ⟨hx, hb, hml, hown, hts⟩ hXc (vx_cwSW (hh := [(0, 10, 13, 13), (0, 10, 17, 15), (0, 10, 21, 21)]) 4 hts gL_law_L_cup rfl rfl rfl (by decide +kernel) ⟨Nat.le_of_ble_eq_true rfl, Nat.le_of_ble_eq_true rfl⟩) (q_pSH hC hO hK hT hS hAXo) rfl rfl hl.1 rfl (lv_room (Nat.le_of_ble_eq_true rfl)) dL_law_258 ⟨hcell, hslot⟩) (fun _ h => h) hS hAXo (fun x5 H locs e5 hCO hk hS => ?_)
  obtain ⟨hC, hO⟩ := hCO
  have e5 : nI k = x5 := Eq.symm e5
  subst e5
  have hM := hM.keptA hM0 hMX hk
  refine lv_istore (lv' := [(5, .int (nI k)), (4, .int (nI i)), (3, .ref oa), (2, .ref r.1), (1, .ref z.o), (0, .ref b)]) hx hb dL_law_261 hl (by decide) rfl (fun ls hl => ?_)
  refine lv_aload_n hx hb dL_law_263 rfl (lv_at hl 3 rfl) ?_
  refine lv_aload_n hx hb dL_law_264 rfl (lv_at hl 5 rfl) ?_
  refine lv_iload hx hb dL_law_265 (lv_at hl 1 rfl) ?_
  refine lv_iconst (v := nI 1) hx hb dL_law_267 (by decide) ?_
  refine q_addN hx hb (i + 1) rfl dL_law_268 ?_
  refine q_sld hx hb hX hbl hbA hS (j := i + 1) (by omega) hL dL_law_269 ?_
  refine lv_aload_n hx hb dL_law_270 rfl (lv_at hl 5 rfl) ?_
  refine lv_iload hx hb dL_law_271 (lv_at hl 1 rfl) ?_
  refine lv_iconst (v := nI 2) hx hb dL_law_273 (by decide) ?_
  refine q_addN hx hb (i + 2) rfl dL_law_274 ?_
  refine q_sld hx hb hX hbl hbA hS (j := i + 2) (by omega) hL dL_law_275 ?_
  refine q_ciK (BH := MS r z.cI D (nI k) sn hs len T fv fn fx) (va_runV (rm := { frames := 2, cells := 0, slots := 0, locals := 42 }) (As := [.int (xs (i + 1)), .int (xs (i + 2))]) (rest := []) ⟨hx, hb, hml, hown, hts⟩ hMc (cwV 2 hts gL_law_X3_cup rfl rfl rfl (by decide +kernel) ⟨Nat.le_of_ble_eq_true rfl, Nat.le_of_ble_eq_true rfl⟩) (q_pV (ci := 3) (q0 := 0) hM (hK.sub [0] rfl) rfl hw0) rfl rfl hl.1 rfl (lv_room (Nat.le_of_ble_eq_true rfl)) dL_law_276 ⟨hcell, hslot⟩) (fun _ h => h) hS hAM (fun x6 H locs e6 hM hk hS => ?_)
  have e6 : k = 0 → x6 = bb := e6
  have hC := hCk _ _ hC hk
  have hO := wO_kept hO hMo hk
  obtain ⟨sp, wr, le, wh, tz, dg, fa, hM⟩ := hM
  have hDM := q_D2 (ws' := wRo r z.cI (nI k) sn hs len sp wr le wh tz dg T fa fv fn fx) hDR rfl
  refine lv_istore (lv' := [(6, .int x6), (5, .int (nI k)), (4, .int (nI i)), (3, .ref oa), (2, .ref r.1), (1, .ref z.o), (0, .ref b)]) hx hb dL_law_279 hl (by decide) rfl (fun ls hl => ?_)
  refine lv_aload_n hx hb dL_law_281 rfl (lv_at hl 4 rfl) ?_
  refine q_ciK (BH := fun H => va_P D vwCl (wRo r z.cI (nI k) sn hs len sp wr le wh tz dg T fa fv fn fx) H) (va_runV (rm := { frames := 0, cells := 0, slots := 0, locals := 0 }) (As := []) (rest := []) ⟨hx, hb, hml, hown, hts⟩ (m3_thrown l D z.cI r.1 r.2.1 r.2.2.1 r.2.2.2.1 r.2.2.2.2.1 r.2.2.2.2.2 T fa fv fn fx (nI k) (nI sn) (nI hs) (nI len) sp wr le wh (nI tz) dg hDM) (cwV 0 hts gL_law_X3_thrown rfl rfl rfl (by decide +kernel) ⟨Nat.le_of_ble_eq_true rfl, Nat.le_of_ble_eq_true rfl⟩) (q_pV (ci := 3) (q0 := 0) hM (hK.sub [0] rfl) rfl rfl) rfl rfl hl.1 rfl (lv_room (Nat.le_of_ble_eq_true rfl)) dL_law_282 ⟨hcell, hslot⟩) (fun _ h => h) hS hAM (fun x7 H locs e7 hM hk hS => ?_)
  have e7 : nI k = x7 := Eq.symm e7
  subst e7
  have hC := hCk _ _ hC hk
  have hO := wO_kept hO hMo hk
  have hMS : MS r z.cI D (nI k) sn hs len T fv fn fx H := ⟨sp, wr, le, wh, tz, dg, fa, hM⟩
  refine lv_iload hx hb dL_law_285 (lv_at hl 1 rfl) ?_
  refine lv_icmp_eq (tgt := 292) hx hb dL_law_287 (by decide) (fun _ => ?_) (fun c => absurd rfl c)
  refine lv_iload hx hb dL_law_292 (lv_at hl 1 rfl) ?_
  refine lv_if_ne (tgt := 309) hx hb dL_law_294 (by decide) (fun c1 => ?_) (fun c1 => ?_)
  ·
    refine lv_goto (tgt := 1449) hx hb dL_law_309 (by decide) ?_
    exact kk _ _ _ hC hMS hO hS (lv_sub hl [2, 3, 4, 5, 6] rfl)
  ·
    refine lv_aload_n hx hb dL_law_297 rfl (lv_at hl 3 rfl) ?_
    refine lv_iconst (v := nI 0) hx hb dL_law_298 (by decide) ?_
    refine q_lld0 hx hb hK hO 2 rfl dL_law_299 ?_
    refine lv_iload hx hb dL_law_300 (lv_at hl 0 rfl) ?_
    refine lv_i2l (v := x6.toInt64) hx hb dL_law_302 rfl ?_
    refine W.lcmp hx hb dL_law_303 ?_
    have hk0 := nI_k0 hk4 c1
    refine lv_if_eq (tgt := 309) hx hb dL_law_304 (by decide) (fun _ => ?_) (fun c => absurd (by rw [hg hk0, e6 hk0]; exact lg_self _) c)
    refine lv_goto (tgt := 1449) hx hb dL_law_309 (by decide) ?_
    exact kk _ _ _ hC hMS hO hS (lv_sub hl [2, 3, 4, 5, 6] rfl)
set_option maxHeartbeats 4000000 in
set_option maxRecDepth 100000 in
theorem lw_sip {p : Program} {l : Launch} {e : Env} {s : State} {m : MethodId} {args : Array Value} {below : List Frame} {meth : Method} {c : Code} {H : Heap} {locs : List Loc} {cells slots : Nat} {Q : State → Prop} {ls : Array Slot} {D : va_G} {z : Ad} {r : Mo} {oa : Nat} {cJ : ClassId} {st : Nat → Nat} {A : Nat → Prop} {b L : Nat} {xs : Nat → Int32} (hLC : q_LC p s m c args l D z r oa cJ st A b L xs) {i : Nat} (hi : i + 5 ≤ L) {C0 C1 : Heap → Prop} {g g' : Int64} {k : Nat} {bb : Int32} {w0 : va_W} {fs0 : List Value} {sn hs len : Nat} {T fv fn fx : Nat → Int32} (hk4 : k < 4)
    (hXc : q_H l yL_sip wsL_sip { frames := 8, cells := 1, slots := 6, locals := 123 } [.ref z.o, .int (xs (i + 1)), .ref oa] st D z oa cJ C0 g k C1 g') (hCk : ∀ (H H1 : Heap), C1 H → (∀ q : Nat, q < H.size → ¬ AMo r q → H1[q]? = H[q]?) → C1 H1)
    (hMc : q_I l yX3_sip wsX3_sip { frames := 2, cells := 0, slots := 0, locals := 43 } [.ref r.1, .int (xs (i + 1))] (q_bp D w0 [(z.cI, .int)]) (fun v => k = 0 → v = bb) (MS r z.cI D (nI k) sn hs len T fv fn fx) (AMo r) 0 0) (hw0 : w0[0]? = some (r.1, .inr (3, fs0))) (hM0 : ∀ (k : Nat) (q : Nat × va_E), w0[k]? = some q → AMo r q.1)
    (hg : k = 0 → g' = bb.toInt64) (hC : C0 H) (hM : va_P D vwCl w0 H) (hO : va_P D vwCl (wO oa cJ g) H) (hS : va_S A s.heap H locs) (hl : lv_has ls 9 (q_lvL z r oa b i)) (hcell : cells + 1 ≤ 601024) (hslot : slots + 6 ≤ 7293034)
    (kk : ∀ (H1 : Heap) (locs1 : List Loc) (ls1 : Array Slot), C1 H1 → MS r z.cI D (nI k) sn hs len T fv fn fx H1 → va_P D vwCl (wO oa cJ g') H1 → va_S A s.heap H1 locs1 → lv_has ls1 9 (q_lvL z r oa b i) → W p l e room_1 s m args below meth c H1 locs1 (cells + 1) (slots + 6) Q (F0 m 1449 ls1 [])) :
    W p l e room_1 s m args below meth c H locs cells slots Q (F0 m 312 ls []) := by
  obtain ⟨⟨hx, hb, hml, hts, hown⟩, ⟨hl9, hK, hT⟩, ⟨hX, hbl, hbA, hL⟩, ⟨hAX, hAM, hAo, hXM, hMX, hMo, hoa⟩, hDX, hDR⟩ := hLC
  have hAXo : ∀ q, AXo z oa q → A q := fun q h => h.elim (hAX q) (fun e => by rw [e]; exact hAo)
  refine lv_aload_n hx hb dL_law_312 rfl (lv_at hl 3 rfl) ?_
  refine lv_aload_n hx hb dL_law_313 rfl (lv_at hl 4 rfl) ?_
  refine lv_iload hx hb dL_law_314 (lv_at hl 0 rfl) ?_
  refine lv_iconst (v := nI 1) hx hb dL_law_316 (by decide) ?_
  refine q_addN hx hb (i + 1) rfl dL_law_317 ?_
  refine q_sld hx hb hX hbl hbA hS (j := i + 1) (by omega) hL dL_law_318 ?_
  refine lv_aload_n hx hb dL_law_319 rfl (lv_at hl 1 rfl) ?_
  refine q_ciK (BH := fun H => C1 H ∧ va_P D vwCl (wO oa cJ g') H) (vx_runSW (rm := { frames := 8, cells := 1, slots := 6, locals := 123 }) (As := [.ref z.o, .int (xs (i + 1)), .ref oa]) (rest := []) ⟨hx, hb, hml, hown, hts⟩ hXc (vx_cwSW (hh := [(0, 9, 12, 13)]) 3 hts gL_law_L_sip rfl rfl rfl (by decide +kernel) ⟨Nat.le_of_ble_eq_true rfl, Nat.le_of_ble_eq_true rfl⟩) (q_pSH hC hO hK hT hS hAXo) rfl rfl hl.1 rfl (lv_room (Nat.le_of_ble_eq_true rfl)) dL_law_320 ⟨hcell, hslot⟩) (fun _ h => h) hS hAXo (fun x5 H locs e5 hCO hk hS => ?_)
  obtain ⟨hC, hO⟩ := hCO
  have e5 : nI k = x5 := Eq.symm e5
  subst e5
  have hM := hM.keptA hM0 hMX hk
  refine lv_istore (lv' := [(5, .int (nI k)), (4, .int (nI i)), (3, .ref oa), (2, .ref r.1), (1, .ref z.o), (0, .ref b)]) hx hb dL_law_323 hl (by decide) rfl (fun ls hl => ?_)
  refine lv_aload_n hx hb dL_law_325 rfl (lv_at hl 3 rfl) ?_
  refine lv_aload_n hx hb dL_law_326 rfl (lv_at hl 5 rfl) ?_
  refine lv_iload hx hb dL_law_327 (lv_at hl 1 rfl) ?_
  refine lv_iconst (v := nI 1) hx hb dL_law_329 (by decide) ?_
  refine q_addN hx hb (i + 1) rfl dL_law_330 ?_
  refine q_sld hx hb hX hbl hbA hS (j := i + 1) (by omega) hL dL_law_331 ?_
  refine q_ciK (BH := MS r z.cI D (nI k) sn hs len T fv fn fx) (va_runV (rm := { frames := 2, cells := 0, slots := 0, locals := 43 }) (As := [.int (xs (i + 1))]) (rest := []) ⟨hx, hb, hml, hown, hts⟩ hMc (cwV 1 hts gL_law_X3_sip rfl rfl rfl (by decide +kernel) ⟨Nat.le_of_ble_eq_true rfl, Nat.le_of_ble_eq_true rfl⟩) (q_pV (ci := 3) (q0 := 0) hM (hK.sub [0] rfl) rfl hw0) rfl rfl hl.1 rfl (lv_room (Nat.le_of_ble_eq_true rfl)) dL_law_332 ⟨hcell, hslot⟩) (fun _ h => h) hS hAM (fun x6 H locs e6 hM hk hS => ?_)
  have e6 : k = 0 → x6 = bb := e6
  have hC := hCk _ _ hC hk
  have hO := wO_kept hO hMo hk
  obtain ⟨sp, wr, le, wh, tz, dg, fa, hM⟩ := hM
  have hDM := q_D2 (ws' := wRo r z.cI (nI k) sn hs len sp wr le wh tz dg T fa fv fn fx) hDR rfl
  refine lv_istore (lv' := [(6, .int x6), (5, .int (nI k)), (4, .int (nI i)), (3, .ref oa), (2, .ref r.1), (1, .ref z.o), (0, .ref b)]) hx hb dL_law_335 hl (by decide) rfl (fun ls hl => ?_)
  refine lv_aload_n hx hb dL_law_337 rfl (lv_at hl 4 rfl) ?_
  refine q_ciK (BH := fun H => va_P D vwCl (wRo r z.cI (nI k) sn hs len sp wr le wh tz dg T fa fv fn fx) H) (va_runV (rm := { frames := 0, cells := 0, slots := 0, locals := 0 }) (As := []) (rest := []) ⟨hx, hb, hml, hown, hts⟩ (m3_thrown l D z.cI r.1 r.2.1 r.2.2.1 r.2.2.2.1 r.2.2.2.2.1 r.2.2.2.2.2 T fa fv fn fx (nI k) (nI sn) (nI hs) (nI len) sp wr le wh (nI tz) dg hDM) (cwV 0 hts gL_law_X3_thrown rfl rfl rfl (by decide +kernel) ⟨Nat.le_of_ble_eq_true rfl, Nat.le_of_ble_eq_true rfl⟩) (q_pV (ci := 3) (q0 := 0) hM (hK.sub [0] rfl) rfl rfl) rfl rfl hl.1 rfl (lv_room (Nat.le_of_ble_eq_true rfl)) dL_law_338 ⟨hcell, hslot⟩) (fun _ h => h) hS hAM (fun x7 H locs e7 hM hk hS => ?_)
  have e7 : nI k = x7 := Eq.symm e7
  subst e7
  have hC := hCk _ _ hC hk
  have hO := wO_kept hO hMo hk
  have hMS : MS r z.cI D (nI k) sn hs len T fv fn fx H := ⟨sp, wr, le, wh, tz, dg, fa, hM⟩
  refine lv_iload hx hb dL_law_341 (lv_at hl 1 rfl) ?_
  refine lv_icmp_eq (tgt := 348) hx hb dL_law_343 (by decide) (fun _ => ?_) (fun c => absurd rfl c)
  refine lv_iload hx hb dL_law_348 (lv_at hl 1 rfl) ?_
  refine lv_if_ne (tgt := 365) hx hb dL_law_350 (by decide) (fun c1 => ?_) (fun c1 => ?_)
  ·
    refine lv_goto (tgt := 1449) hx hb dL_law_365 (by decide) ?_
    exact kk _ _ _ hC hMS hO hS (lv_sub hl [2, 3, 4, 5, 6] rfl)
  ·
    refine lv_aload_n hx hb dL_law_353 rfl (lv_at hl 3 rfl) ?_
    refine lv_iconst (v := nI 0) hx hb dL_law_354 (by decide) ?_
    refine q_lld0 hx hb hK hO 2 rfl dL_law_355 ?_
    refine lv_iload hx hb dL_law_356 (lv_at hl 0 rfl) ?_
    refine lv_i2l (v := x6.toInt64) hx hb dL_law_358 rfl ?_
    refine W.lcmp hx hb dL_law_359 ?_
    have hk0 := nI_k0 hk4 c1
    refine lv_if_eq (tgt := 365) hx hb dL_law_360 (by decide) (fun _ => ?_) (fun c => absurd (by rw [hg hk0, e6 hk0]; exact lg_self _) c)
    refine lv_goto (tgt := 1449) hx hb dL_law_365 (by decide) ?_
    exact kk _ _ _ hC hMS hO hS (lv_sub hl [2, 3, 4, 5, 6] rfl)
set_option maxHeartbeats 4000000 in
set_option maxRecDepth 100000 in
theorem lw_brew {p : Program} {l : Launch} {e : Env} {s : State} {m : MethodId} {args : Array Value} {below : List Frame} {meth : Method} {c : Code} {H : Heap} {locs : List Loc} {cells slots : Nat} {Q : State → Prop} {ls : Array Slot} {D : va_G} {z : Ad} {r : Mo} {oa : Nat} {cJ : ClassId} {st : Nat → Nat} {A : Nat → Prop} {b L : Nat} {xs : Nat → Int32} (hLC : q_LC p s m c args l D z r oa cJ st A b L xs) {i : Nat} (hi : i + 5 ≤ L) {C0 C1 : Heap → Prop} {g g' : Int64} {k : Nat} {bb : Int32} {w0 : va_W} {fs0 : List Value} {sn hs len : Nat} {T fv fn fx : Nat → Int32} (hk4 : k < 4)
    (hXc : q_H l yL_brew wsL_brew { frames := 8, cells := 1, slots := 6, locals := 126 } [.ref z.o, .int (xs (i + 1)), .int (xs (i + 2)), .ref oa] st D z oa cJ C0 g k C1 g') (hCk : ∀ (H H1 : Heap), C1 H → (∀ q : Nat, q < H.size → ¬ AMo r q → H1[q]? = H[q]?) → C1 H1)
    (hMc : q_I l yX3_brew wsX3_brew { frames := 2, cells := 0, slots := 0, locals := 43 } [.ref r.1, .int (xs (i + 1)), .int (xs (i + 2))] (q_bp D w0 [(z.cI, .int)]) (fun v => k = 0 → v = bb) (MS r z.cI D (nI k) sn hs len T fv fn fx) (AMo r) 0 0) (hw0 : w0[0]? = some (r.1, .inr (3, fs0))) (hM0 : ∀ (k : Nat) (q : Nat × va_E), w0[k]? = some q → AMo r q.1)
    (hg : k = 0 → g' = bb.toInt64) (hC : C0 H) (hM : va_P D vwCl w0 H) (hO : va_P D vwCl (wO oa cJ g) H) (hS : va_S A s.heap H locs) (hl : lv_has ls 9 (q_lvL z r oa b i)) (hcell : cells + 1 ≤ 601024) (hslot : slots + 6 ≤ 7293034)
    (kk : ∀ (H1 : Heap) (locs1 : List Loc) (ls1 : Array Slot), C1 H1 → MS r z.cI D (nI k) sn hs len T fv fn fx H1 → va_P D vwCl (wO oa cJ g') H1 → va_S A s.heap H1 locs1 → lv_has ls1 9 (q_lvL z r oa b i) → W p l e room_1 s m args below meth c H1 locs1 (cells + 1) (slots + 6) Q (F0 m 1449 ls1 [])) :
    W p l e room_1 s m args below meth c H locs cells slots Q (F0 m 368 ls []) := by
  obtain ⟨⟨hx, hb, hml, hts, hown⟩, ⟨hl9, hK, hT⟩, ⟨hX, hbl, hbA, hL⟩, ⟨hAX, hAM, hAo, hXM, hMX, hMo, hoa⟩, hDX, hDR⟩ := hLC
  have hAXo : ∀ q, AXo z oa q → A q := fun q h => h.elim (hAX q) (fun e => by rw [e]; exact hAo)
  refine lv_aload_n hx hb dL_law_368 rfl (lv_at hl 3 rfl) ?_
  refine lv_aload_n hx hb dL_law_369 rfl (lv_at hl 4 rfl) ?_
  refine lv_iload hx hb dL_law_370 (lv_at hl 0 rfl) ?_
  refine lv_iconst (v := nI 1) hx hb dL_law_372 (by decide) ?_
  refine q_addN hx hb (i + 1) rfl dL_law_373 ?_
  refine q_sld hx hb hX hbl hbA hS (j := i + 1) (by omega) hL dL_law_374 ?_
  refine lv_aload_n hx hb dL_law_375 rfl (lv_at hl 4 rfl) ?_
  refine lv_iload hx hb dL_law_376 (lv_at hl 0 rfl) ?_
  refine lv_iconst (v := nI 2) hx hb dL_law_378 (by decide) ?_
  refine q_addN hx hb (i + 2) rfl dL_law_379 ?_
  refine q_sld hx hb hX hbl hbA hS (j := i + 2) (by omega) hL dL_law_380 ?_
  refine lv_aload_n hx hb dL_law_381 rfl (lv_at hl 1 rfl) ?_
  refine q_ciK (BH := fun H => C1 H ∧ va_P D vwCl (wO oa cJ g') H) (vx_runSW (rm := { frames := 8, cells := 1, slots := 6, locals := 126 }) (As := [.ref z.o, .int (xs (i + 1)), .int (xs (i + 2)), .ref oa]) (rest := []) ⟨hx, hb, hml, hown, hts⟩ hXc (vx_cwSW (hh := [(0, 10, 13, 13), (0, 10, 17, 15), (0, 10, 21, 21)]) 4 hts gL_law_L_brew rfl rfl rfl (by decide +kernel) ⟨Nat.le_of_ble_eq_true rfl, Nat.le_of_ble_eq_true rfl⟩) (q_pSH hC hO hK hT hS hAXo) rfl rfl hl.1 rfl (lv_room (Nat.le_of_ble_eq_true rfl)) dL_law_382 ⟨hcell, hslot⟩) (fun _ h => h) hS hAXo (fun x5 H locs e5 hCO hk hS => ?_)
  obtain ⟨hC, hO⟩ := hCO
  have e5 : nI k = x5 := Eq.symm e5
  subst e5
  have hM := hM.keptA hM0 hMX hk
  refine lv_istore (lv' := [(5, .int (nI k)), (4, .int (nI i)), (3, .ref oa), (2, .ref r.1), (1, .ref z.o), (0, .ref b)]) hx hb dL_law_385 hl (by decide) rfl (fun ls hl => ?_)
  refine lv_aload_n hx hb dL_law_387 rfl (lv_at hl 3 rfl) ?_
  refine lv_aload_n hx hb dL_law_388 rfl (lv_at hl 5 rfl) ?_
  refine lv_iload hx hb dL_law_389 (lv_at hl 1 rfl) ?_
  refine lv_iconst (v := nI 1) hx hb dL_law_391 (by decide) ?_
  refine q_addN hx hb (i + 1) rfl dL_law_392 ?_
  refine q_sld hx hb hX hbl hbA hS (j := i + 1) (by omega) hL dL_law_393 ?_
  refine lv_aload_n hx hb dL_law_394 rfl (lv_at hl 5 rfl) ?_
  refine lv_iload hx hb dL_law_395 (lv_at hl 1 rfl) ?_
  refine lv_iconst (v := nI 2) hx hb dL_law_397 (by decide) ?_
  refine q_addN hx hb (i + 2) rfl dL_law_398 ?_
  refine q_sld hx hb hX hbl hbA hS (j := i + 2) (by omega) hL dL_law_399 ?_
  refine q_ciK (BH := MS r z.cI D (nI k) sn hs len T fv fn fx) (va_runV (rm := { frames := 2, cells := 0, slots := 0, locals := 43 }) (As := [.int (xs (i + 1)), .int (xs (i + 2))]) (rest := []) ⟨hx, hb, hml, hown, hts⟩ hMc (cwV 2 hts gL_law_X3_brew rfl rfl rfl (by decide +kernel) ⟨Nat.le_of_ble_eq_true rfl, Nat.le_of_ble_eq_true rfl⟩) (q_pV (ci := 3) (q0 := 0) hM (hK.sub [0] rfl) rfl hw0) rfl rfl hl.1 rfl (lv_room (Nat.le_of_ble_eq_true rfl)) dL_law_400 ⟨hcell, hslot⟩) (fun _ h => h) hS hAM (fun x6 H locs e6 hM hk hS => ?_)
  have e6 : k = 0 → x6 = bb := e6
  have hC := hCk _ _ hC hk
  have hO := wO_kept hO hMo hk
  obtain ⟨sp, wr, le, wh, tz, dg, fa, hM⟩ := hM
  have hDM := q_D2 (ws' := wRo r z.cI (nI k) sn hs len sp wr le wh tz dg T fa fv fn fx) hDR rfl
  refine lv_istore (lv' := [(6, .int x6), (5, .int (nI k)), (4, .int (nI i)), (3, .ref oa), (2, .ref r.1), (1, .ref z.o), (0, .ref b)]) hx hb dL_law_403 hl (by decide) rfl (fun ls hl => ?_)
  refine lv_aload_n hx hb dL_law_405 rfl (lv_at hl 4 rfl) ?_
  refine q_ciK (BH := fun H => va_P D vwCl (wRo r z.cI (nI k) sn hs len sp wr le wh tz dg T fa fv fn fx) H) (va_runV (rm := { frames := 0, cells := 0, slots := 0, locals := 0 }) (As := []) (rest := []) ⟨hx, hb, hml, hown, hts⟩ (m3_thrown l D z.cI r.1 r.2.1 r.2.2.1 r.2.2.2.1 r.2.2.2.2.1 r.2.2.2.2.2 T fa fv fn fx (nI k) (nI sn) (nI hs) (nI len) sp wr le wh (nI tz) dg hDM) (cwV 0 hts gL_law_X3_thrown rfl rfl rfl (by decide +kernel) ⟨Nat.le_of_ble_eq_true rfl, Nat.le_of_ble_eq_true rfl⟩) (q_pV (ci := 3) (q0 := 0) hM (hK.sub [0] rfl) rfl rfl) rfl rfl hl.1 rfl (lv_room (Nat.le_of_ble_eq_true rfl)) dL_law_406 ⟨hcell, hslot⟩) (fun _ h => h) hS hAM (fun x7 H locs e7 hM hk hS => ?_)
  have e7 : nI k = x7 := Eq.symm e7
  subst e7
  have hC := hCk _ _ hC hk
  have hO := wO_kept hO hMo hk
  have hMS : MS r z.cI D (nI k) sn hs len T fv fn fx H := ⟨sp, wr, le, wh, tz, dg, fa, hM⟩
  refine lv_iload hx hb dL_law_409 (lv_at hl 1 rfl) ?_
  refine lv_icmp_eq (tgt := 416) hx hb dL_law_411 (by decide) (fun _ => ?_) (fun c => absurd rfl c)
  refine lv_iload hx hb dL_law_416 (lv_at hl 1 rfl) ?_
  refine lv_if_ne (tgt := 433) hx hb dL_law_418 (by decide) (fun c1 => ?_) (fun c1 => ?_)
  ·
    refine lv_goto (tgt := 1449) hx hb dL_law_433 (by decide) ?_
    exact kk _ _ _ hC hMS hO hS (lv_sub hl [2, 3, 4, 5, 6] rfl)
  ·
    refine lv_aload_n hx hb dL_law_421 rfl (lv_at hl 3 rfl) ?_
    refine lv_iconst (v := nI 0) hx hb dL_law_422 (by decide) ?_
    refine q_lld0 hx hb hK hO 2 rfl dL_law_423 ?_
    refine lv_iload hx hb dL_law_424 (lv_at hl 0 rfl) ?_
    refine lv_i2l (v := x6.toInt64) hx hb dL_law_426 rfl ?_
    refine W.lcmp hx hb dL_law_427 ?_
    have hk0 := nI_k0 hk4 c1
    refine lv_if_eq (tgt := 433) hx hb dL_law_428 (by decide) (fun _ => ?_) (fun c => absurd (by rw [hg hk0, e6 hk0]; exact lg_self _) c)
    refine lv_goto (tgt := 1449) hx hb dL_law_433 (by decide) ?_
    exact kk _ _ _ hC hMS hO hS (lv_sub hl [2, 3, 4, 5, 6] rfl)
set_option maxHeartbeats 4000000 in
set_option maxRecDepth 100000 in
theorem lw_pour {p : Program} {l : Launch} {e : Env} {s : State} {m : MethodId} {args : Array Value} {below : List Frame} {meth : Method} {c : Code} {H : Heap} {locs : List Loc} {cells slots : Nat} {Q : State → Prop} {ls : Array Slot} {D : va_G} {z : Ad} {r : Mo} {oa : Nat} {cJ : ClassId} {st : Nat → Nat} {A : Nat → Prop} {b L : Nat} {xs : Nat → Int32} (hLC : q_LC p s m c args l D z r oa cJ st A b L xs) {i : Nat} (hi : i + 5 ≤ L) {C0 C1 : Heap → Prop} {g g' : Int64} {k : Nat} {bb : Int32} {w0 : va_W} {fs0 : List Value} {sn hs len : Nat} {T fv fn fx : Nat → Int32} (hk4 : k < 4)
    (hXc : q_H l yL_pour wsL_pour { frames := 8, cells := 1, slots := 6, locals := 123 } [.ref z.o, .int (xs (i + 1)), .ref oa] st D z oa cJ C0 g k C1 g') (hCk : ∀ (H H1 : Heap), C1 H → (∀ q : Nat, q < H.size → ¬ AMo r q → H1[q]? = H[q]?) → C1 H1)
    (hMc : q_I l yX3_pour wsX3_pour { frames := 6, cells := 0, slots := 0, locals := 135 } [.ref r.1, .int (xs (i + 1))] (q_bp D w0 [(z.cI, .int)]) (fun v => k = 0 → v = bb) (MS r z.cI D (nI k) sn hs len T fv fn fx) (AMo r) 0 0) (hw0 : w0[0]? = some (r.1, .inr (3, fs0))) (hM0 : ∀ (k : Nat) (q : Nat × va_E), w0[k]? = some q → AMo r q.1)
    (hg : k = 0 → g' = bb.toInt64) (hC : C0 H) (hM : va_P D vwCl w0 H) (hO : va_P D vwCl (wO oa cJ g) H) (hS : va_S A s.heap H locs) (hl : lv_has ls 9 (q_lvL z r oa b i)) (hcell : cells + 1 ≤ 601024) (hslot : slots + 6 ≤ 7293034)
    (kk : ∀ (H1 : Heap) (locs1 : List Loc) (ls1 : Array Slot), C1 H1 → MS r z.cI D (nI k) sn hs len T fv fn fx H1 → va_P D vwCl (wO oa cJ g') H1 → va_S A s.heap H1 locs1 → lv_has ls1 9 (q_lvL z r oa b i) → W p l e room_1 s m args below meth c H1 locs1 (cells + 1) (slots + 6) Q (F0 m 1449 ls1 [])) :
    W p l e room_1 s m args below meth c H locs cells slots Q (F0 m 436 ls []) := by
  obtain ⟨⟨hx, hb, hml, hts, hown⟩, ⟨hl9, hK, hT⟩, ⟨hX, hbl, hbA, hL⟩, ⟨hAX, hAM, hAo, hXM, hMX, hMo, hoa⟩, hDX, hDR⟩ := hLC
  have hAXo : ∀ q, AXo z oa q → A q := fun q h => h.elim (hAX q) (fun e => by rw [e]; exact hAo)
  refine lv_aload_n hx hb dL_law_436 rfl (lv_at hl 3 rfl) ?_
  refine lv_aload_n hx hb dL_law_437 rfl (lv_at hl 4 rfl) ?_
  refine lv_iload hx hb dL_law_438 (lv_at hl 0 rfl) ?_
  refine lv_iconst (v := nI 1) hx hb dL_law_440 (by decide) ?_
  refine q_addN hx hb (i + 1) rfl dL_law_441 ?_
  refine q_sld hx hb hX hbl hbA hS (j := i + 1) (by omega) hL dL_law_442 ?_
  refine lv_aload_n hx hb dL_law_443 rfl (lv_at hl 1 rfl) ?_
  refine q_ciK (BH := fun H => C1 H ∧ va_P D vwCl (wO oa cJ g') H) (vx_runSW (rm := { frames := 8, cells := 1, slots := 6, locals := 123 }) (As := [.ref z.o, .int (xs (i + 1)), .ref oa]) (rest := []) ⟨hx, hb, hml, hown, hts⟩ hXc (vx_cwSW (hh := [(0, 9, 12, 13), (0, 9, 15, 21)]) 3 hts gL_law_L_pour rfl rfl rfl (by decide +kernel) ⟨Nat.le_of_ble_eq_true rfl, Nat.le_of_ble_eq_true rfl⟩) (q_pSH hC hO hK hT hS hAXo) rfl rfl hl.1 rfl (lv_room (Nat.le_of_ble_eq_true rfl)) dL_law_444 ⟨hcell, hslot⟩) (fun _ h => h) hS hAXo (fun x5 H locs e5 hCO hk hS => ?_)
  obtain ⟨hC, hO⟩ := hCO
  have e5 : nI k = x5 := Eq.symm e5
  subst e5
  have hM := hM.keptA hM0 hMX hk
  refine lv_istore (lv' := [(5, .int (nI k)), (4, .int (nI i)), (3, .ref oa), (2, .ref r.1), (1, .ref z.o), (0, .ref b)]) hx hb dL_law_447 hl (by decide) rfl (fun ls hl => ?_)
  refine lv_aload_n hx hb dL_law_449 rfl (lv_at hl 3 rfl) ?_
  refine lv_aload_n hx hb dL_law_450 rfl (lv_at hl 5 rfl) ?_
  refine lv_iload hx hb dL_law_451 (lv_at hl 1 rfl) ?_
  refine lv_iconst (v := nI 1) hx hb dL_law_453 (by decide) ?_
  refine q_addN hx hb (i + 1) rfl dL_law_454 ?_
  refine q_sld hx hb hX hbl hbA hS (j := i + 1) (by omega) hL dL_law_455 ?_
  refine q_ciK (BH := MS r z.cI D (nI k) sn hs len T fv fn fx) (va_runV (rm := { frames := 6, cells := 0, slots := 0, locals := 135 }) (As := [.int (xs (i + 1))]) (rest := []) ⟨hx, hb, hml, hown, hts⟩ hMc (cwV 1 hts gL_law_X3_pour rfl rfl rfl (by decide +kernel) ⟨Nat.le_of_ble_eq_true rfl, Nat.le_of_ble_eq_true rfl⟩) (q_pV (ci := 3) (q0 := 0) hM (hK.sub [0] rfl) rfl hw0) rfl rfl hl.1 rfl (lv_room (Nat.le_of_ble_eq_true rfl)) dL_law_456 ⟨hcell, hslot⟩) (fun _ h => h) hS hAM (fun x6 H locs e6 hM hk hS => ?_)
  have e6 : k = 0 → x6 = bb := e6
  have hC := hCk _ _ hC hk
  have hO := wO_kept hO hMo hk
  obtain ⟨sp, wr, le, wh, tz, dg, fa, hM⟩ := hM
  have hDM := q_D2 (ws' := wRo r z.cI (nI k) sn hs len sp wr le wh tz dg T fa fv fn fx) hDR rfl
  refine lv_istore (lv' := [(6, .int x6), (5, .int (nI k)), (4, .int (nI i)), (3, .ref oa), (2, .ref r.1), (1, .ref z.o), (0, .ref b)]) hx hb dL_law_459 hl (by decide) rfl (fun ls hl => ?_)
  refine lv_aload_n hx hb dL_law_461 rfl (lv_at hl 4 rfl) ?_
  refine q_ciK (BH := fun H => va_P D vwCl (wRo r z.cI (nI k) sn hs len sp wr le wh tz dg T fa fv fn fx) H) (va_runV (rm := { frames := 0, cells := 0, slots := 0, locals := 0 }) (As := []) (rest := []) ⟨hx, hb, hml, hown, hts⟩ (m3_thrown l D z.cI r.1 r.2.1 r.2.2.1 r.2.2.2.1 r.2.2.2.2.1 r.2.2.2.2.2 T fa fv fn fx (nI k) (nI sn) (nI hs) (nI len) sp wr le wh (nI tz) dg hDM) (cwV 0 hts gL_law_X3_thrown rfl rfl rfl (by decide +kernel) ⟨Nat.le_of_ble_eq_true rfl, Nat.le_of_ble_eq_true rfl⟩) (q_pV (ci := 3) (q0 := 0) hM (hK.sub [0] rfl) rfl rfl) rfl rfl hl.1 rfl (lv_room (Nat.le_of_ble_eq_true rfl)) dL_law_462 ⟨hcell, hslot⟩) (fun _ h => h) hS hAM (fun x7 H locs e7 hM hk hS => ?_)
  have e7 : nI k = x7 := Eq.symm e7
  subst e7
  have hC := hCk _ _ hC hk
  have hO := wO_kept hO hMo hk
  have hMS : MS r z.cI D (nI k) sn hs len T fv fn fx H := ⟨sp, wr, le, wh, tz, dg, fa, hM⟩
  refine lv_iload hx hb dL_law_465 (lv_at hl 1 rfl) ?_
  refine lv_icmp_eq (tgt := 472) hx hb dL_law_467 (by decide) (fun _ => ?_) (fun c => absurd rfl c)
  refine lv_iload hx hb dL_law_472 (lv_at hl 1 rfl) ?_
  refine lv_if_ne (tgt := 489) hx hb dL_law_474 (by decide) (fun c1 => ?_) (fun c1 => ?_)
  ·
    refine lv_goto (tgt := 1449) hx hb dL_law_489 (by decide) ?_
    exact kk _ _ _ hC hMS hO hS (lv_sub hl [2, 3, 4, 5, 6] rfl)
  ·
    refine lv_aload_n hx hb dL_law_477 rfl (lv_at hl 3 rfl) ?_
    refine lv_iconst (v := nI 0) hx hb dL_law_478 (by decide) ?_
    refine q_lld0 hx hb hK hO 2 rfl dL_law_479 ?_
    refine lv_iload hx hb dL_law_480 (lv_at hl 0 rfl) ?_
    refine lv_i2l (v := x6.toInt64) hx hb dL_law_482 rfl ?_
    refine W.lcmp hx hb dL_law_483 ?_
    have hk0 := nI_k0 hk4 c1
    refine lv_if_eq (tgt := 489) hx hb dL_law_484 (by decide) (fun _ => ?_) (fun c => absurd (by rw [hg hk0, e6 hk0]; exact lg_self _) c)
    refine lv_goto (tgt := 1449) hx hb dL_law_489 (by decide) ?_
    exact kk _ _ _ hC hMS hO hS (lv_sub hl [2, 3, 4, 5, 6] rfl)
set_option maxHeartbeats 4000000 in
set_option maxRecDepth 100000 in
theorem lw_hand {p : Program} {l : Launch} {e : Env} {s : State} {m : MethodId} {args : Array Value} {below : List Frame} {meth : Method} {c : Code} {H : Heap} {locs : List Loc} {cells slots : Nat} {Q : State → Prop} {ls : Array Slot} {D : va_G} {z : Ad} {r : Mo} {oa : Nat} {cJ : ClassId} {st : Nat → Nat} {A : Nat → Prop} {b L : Nat} {xs : Nat → Int32} (hLC : q_LC p s m c args l D z r oa cJ st A b L xs) {i : Nat} (hi : i + 5 ≤ L) {C0 C1 : Heap → Prop} {g g' : Int64} {k : Nat} {bb : Int32} {w0 : va_W} {fs0 : List Value} {sn hs len : Nat} {T fv fn fx : Nat → Int32} (hk4 : k < 4)
    (hXc : q_H l yL_hand wsL_hand { frames := 8, cells := 1, slots := 6, locals := 126 } [.ref z.o, .int (xs (i + 1)), .int (xs (i + 2)), .ref oa] st D z oa cJ C0 g k C1 g') (hCk : ∀ (H H1 : Heap), C1 H → (∀ q : Nat, q < H.size → ¬ AMo r q → H1[q]? = H[q]?) → C1 H1)
    (hMc : q_I l yX3_hand wsX3_hand { frames := 4, cells := 0, slots := 0, locals := 89 } [.ref r.1, .int (xs (i + 1)), .int (xs (i + 2))] (q_bp D w0 [(z.cI, .int)]) (fun v => k = 0 → v = bb) (MS r z.cI D (nI k) sn hs len T fv fn fx) (AMo r) 0 0) (hw0 : w0[0]? = some (r.1, .inr (3, fs0))) (hM0 : ∀ (k : Nat) (q : Nat × va_E), w0[k]? = some q → AMo r q.1)
    (hg : k = 0 → g' = bb.toInt64) (hC : C0 H) (hM : va_P D vwCl w0 H) (hO : va_P D vwCl (wO oa cJ g) H) (hS : va_S A s.heap H locs) (hl : lv_has ls 9 (q_lvL z r oa b i)) (hcell : cells + 1 ≤ 601024) (hslot : slots + 6 ≤ 7293034)
    (kk : ∀ (H1 : Heap) (locs1 : List Loc) (ls1 : Array Slot), C1 H1 → MS r z.cI D (nI k) sn hs len T fv fn fx H1 → va_P D vwCl (wO oa cJ g') H1 → va_S A s.heap H1 locs1 → lv_has ls1 9 (q_lvL z r oa b i) → W p l e room_1 s m args below meth c H1 locs1 (cells + 1) (slots + 6) Q (F0 m 1449 ls1 [])) :
    W p l e room_1 s m args below meth c H locs cells slots Q (F0 m 492 ls []) := by
  obtain ⟨⟨hx, hb, hml, hts, hown⟩, ⟨hl9, hK, hT⟩, ⟨hX, hbl, hbA, hL⟩, ⟨hAX, hAM, hAo, hXM, hMX, hMo, hoa⟩, hDX, hDR⟩ := hLC
  have hAXo : ∀ q, AXo z oa q → A q := fun q h => h.elim (hAX q) (fun e => by rw [e]; exact hAo)
  refine lv_aload_n hx hb dL_law_492 rfl (lv_at hl 3 rfl) ?_
  refine lv_aload_n hx hb dL_law_493 rfl (lv_at hl 4 rfl) ?_
  refine lv_iload hx hb dL_law_494 (lv_at hl 0 rfl) ?_
  refine lv_iconst (v := nI 1) hx hb dL_law_496 (by decide) ?_
  refine q_addN hx hb (i + 1) rfl dL_law_497 ?_
  refine q_sld hx hb hX hbl hbA hS (j := i + 1) (by omega) hL dL_law_498 ?_
  refine lv_aload_n hx hb dL_law_499 rfl (lv_at hl 4 rfl) ?_
  refine lv_iload hx hb dL_law_500 (lv_at hl 0 rfl) ?_
  refine lv_iconst (v := nI 2) hx hb dL_law_502 (by decide) ?_
  refine q_addN hx hb (i + 2) rfl dL_law_503 ?_
  refine q_sld hx hb hX hbl hbA hS (j := i + 2) (by omega) hL dL_law_504 ?_
  refine lv_aload_n hx hb dL_law_505 rfl (lv_at hl 1 rfl) ?_
  refine q_ciK (BH := fun H => C1 H ∧ va_P D vwCl (wO oa cJ g') H) (vx_runSW (rm := { frames := 8, cells := 1, slots := 6, locals := 126 }) (As := [.ref z.o, .int (xs (i + 1)), .int (xs (i + 2)), .ref oa]) (rest := []) ⟨hx, hb, hml, hown, hts⟩ hXc (vx_cwSW (hh := [(0, 10, 13, 13), (0, 10, 17, 15)]) 4 hts gL_law_L_hand rfl rfl rfl (by decide +kernel) ⟨Nat.le_of_ble_eq_true rfl, Nat.le_of_ble_eq_true rfl⟩) (q_pSH hC hO hK hT hS hAXo) rfl rfl hl.1 rfl (lv_room (Nat.le_of_ble_eq_true rfl)) dL_law_506 ⟨hcell, hslot⟩) (fun _ h => h) hS hAXo (fun x5 H locs e5 hCO hk hS => ?_)
  obtain ⟨hC, hO⟩ := hCO
  have e5 : nI k = x5 := Eq.symm e5
  subst e5
  have hM := hM.keptA hM0 hMX hk
  refine lv_istore (lv' := [(5, .int (nI k)), (4, .int (nI i)), (3, .ref oa), (2, .ref r.1), (1, .ref z.o), (0, .ref b)]) hx hb dL_law_509 hl (by decide) rfl (fun ls hl => ?_)
  refine lv_aload_n hx hb dL_law_511 rfl (lv_at hl 3 rfl) ?_
  refine lv_aload_n hx hb dL_law_512 rfl (lv_at hl 5 rfl) ?_
  refine lv_iload hx hb dL_law_513 (lv_at hl 1 rfl) ?_
  refine lv_iconst (v := nI 1) hx hb dL_law_515 (by decide) ?_
  refine q_addN hx hb (i + 1) rfl dL_law_516 ?_
  refine q_sld hx hb hX hbl hbA hS (j := i + 1) (by omega) hL dL_law_517 ?_
  refine lv_aload_n hx hb dL_law_518 rfl (lv_at hl 5 rfl) ?_
  refine lv_iload hx hb dL_law_519 (lv_at hl 1 rfl) ?_
  refine lv_iconst (v := nI 2) hx hb dL_law_521 (by decide) ?_
  refine q_addN hx hb (i + 2) rfl dL_law_522 ?_
  refine q_sld hx hb hX hbl hbA hS (j := i + 2) (by omega) hL dL_law_523 ?_
  refine q_ciK (BH := MS r z.cI D (nI k) sn hs len T fv fn fx) (va_runV (rm := { frames := 4, cells := 0, slots := 0, locals := 89 }) (As := [.int (xs (i + 1)), .int (xs (i + 2))]) (rest := []) ⟨hx, hb, hml, hown, hts⟩ hMc (cwV 2 hts gL_law_X3_hand rfl rfl rfl (by decide +kernel) ⟨Nat.le_of_ble_eq_true rfl, Nat.le_of_ble_eq_true rfl⟩) (q_pV (ci := 3) (q0 := 0) hM (hK.sub [0] rfl) rfl hw0) rfl rfl hl.1 rfl (lv_room (Nat.le_of_ble_eq_true rfl)) dL_law_524 ⟨hcell, hslot⟩) (fun _ h => h) hS hAM (fun x6 H locs e6 hM hk hS => ?_)
  have e6 : k = 0 → x6 = bb := e6
  have hC := hCk _ _ hC hk
  have hO := wO_kept hO hMo hk
  obtain ⟨sp, wr, le, wh, tz, dg, fa, hM⟩ := hM
  have hDM := q_D2 (ws' := wRo r z.cI (nI k) sn hs len sp wr le wh tz dg T fa fv fn fx) hDR rfl
  refine lv_istore (lv' := [(6, .int x6), (5, .int (nI k)), (4, .int (nI i)), (3, .ref oa), (2, .ref r.1), (1, .ref z.o), (0, .ref b)]) hx hb dL_law_527 hl (by decide) rfl (fun ls hl => ?_)
  refine lv_aload_n hx hb dL_law_529 rfl (lv_at hl 4 rfl) ?_
  refine q_ciK (BH := fun H => va_P D vwCl (wRo r z.cI (nI k) sn hs len sp wr le wh tz dg T fa fv fn fx) H) (va_runV (rm := { frames := 0, cells := 0, slots := 0, locals := 0 }) (As := []) (rest := []) ⟨hx, hb, hml, hown, hts⟩ (m3_thrown l D z.cI r.1 r.2.1 r.2.2.1 r.2.2.2.1 r.2.2.2.2.1 r.2.2.2.2.2 T fa fv fn fx (nI k) (nI sn) (nI hs) (nI len) sp wr le wh (nI tz) dg hDM) (cwV 0 hts gL_law_X3_thrown rfl rfl rfl (by decide +kernel) ⟨Nat.le_of_ble_eq_true rfl, Nat.le_of_ble_eq_true rfl⟩) (q_pV (ci := 3) (q0 := 0) hM (hK.sub [0] rfl) rfl rfl) rfl rfl hl.1 rfl (lv_room (Nat.le_of_ble_eq_true rfl)) dL_law_530 ⟨hcell, hslot⟩) (fun _ h => h) hS hAM (fun x7 H locs e7 hM hk hS => ?_)
  have e7 : nI k = x7 := Eq.symm e7
  subst e7
  have hC := hCk _ _ hC hk
  have hO := wO_kept hO hMo hk
  have hMS : MS r z.cI D (nI k) sn hs len T fv fn fx H := ⟨sp, wr, le, wh, tz, dg, fa, hM⟩
  refine lv_iload hx hb dL_law_533 (lv_at hl 1 rfl) ?_
  refine lv_icmp_eq (tgt := 540) hx hb dL_law_535 (by decide) (fun _ => ?_) (fun c => absurd rfl c)
  refine lv_iload hx hb dL_law_540 (lv_at hl 1 rfl) ?_
  refine lv_if_ne (tgt := 557) hx hb dL_law_542 (by decide) (fun c1 => ?_) (fun c1 => ?_)
  ·
    refine lv_goto (tgt := 1449) hx hb dL_law_557 (by decide) ?_
    exact kk _ _ _ hC hMS hO hS (lv_sub hl [2, 3, 4, 5, 6] rfl)
  ·
    refine lv_aload_n hx hb dL_law_545 rfl (lv_at hl 3 rfl) ?_
    refine lv_iconst (v := nI 0) hx hb dL_law_546 (by decide) ?_
    refine q_lld0 hx hb hK hO 2 rfl dL_law_547 ?_
    refine lv_iload hx hb dL_law_548 (lv_at hl 0 rfl) ?_
    refine lv_i2l (v := x6.toInt64) hx hb dL_law_550 rfl ?_
    refine W.lcmp hx hb dL_law_551 ?_
    have hk0 := nI_k0 hk4 c1
    refine lv_if_eq (tgt := 557) hx hb dL_law_552 (by decide) (fun _ => ?_) (fun c => absurd (by rw [hg hk0, e6 hk0]; exact lg_self _) c)
    refine lv_goto (tgt := 1449) hx hb dL_law_557 (by decide) ?_
    exact kk _ _ _ hC hMS hO hS (lv_sub hl [2, 3, 4, 5, 6] rfl)
set_option maxHeartbeats 4000000 in
set_option maxRecDepth 100000 in
theorem lw_round {p : Program} {l : Launch} {e : Env} {s : State} {m : MethodId} {args : Array Value} {below : List Frame} {meth : Method} {c : Code} {H : Heap} {locs : List Loc} {cells slots : Nat} {Q : State → Prop} {ls : Array Slot} {D : va_G} {z : Ad} {r : Mo} {oa : Nat} {cJ : ClassId} {st : Nat → Nat} {A : Nat → Prop} {b L : Nat} {xs : Nat → Int32} (hLC : q_LC p s m c args l D z r oa cJ st A b L xs) {i : Nat} (hi : i + 5 ≤ L) {C0 C1 : Heap → Prop} {g g' : Int64} {k : Nat} {bb : Int32} {w0 : va_W} {fs0 : List Value} {sn hs len : Nat} {T fv fn fx : Nat → Int32} (hk4 : k < 4)
    (hXc : q_H l yL_round wsL_round { frames := 8, cells := 1, slots := 6, locals := 139 } [.ref z.o, .int (xs (i + 1)), .ref oa] st D z oa cJ C0 g k C1 g') (hCk : ∀ (H H1 : Heap), C1 H → (∀ q : Nat, q < H.size → ¬ AMo r q → H1[q]? = H[q]?) → C1 H1)
    (hMc : q_I l yX3_round wsX3_round { frames := 7, cells := 0, slots := 0, locals := 160 } [.ref r.1, .int (xs (i + 1))] (q_bp D w0 [(z.cI, .int)]) (fun v => k = 0 → v = bb) (MS r z.cI D (nI k) sn hs len T fv fn fx) (AMo r) 0 0) (hw0 : w0[0]? = some (r.1, .inr (3, fs0))) (hM0 : ∀ (k : Nat) (q : Nat × va_E), w0[k]? = some q → AMo r q.1)
    (hg : k = 0 → g' = bb.toInt64) (hC : C0 H) (hM : va_P D vwCl w0 H) (hO : va_P D vwCl (wO oa cJ g) H) (hS : va_S A s.heap H locs) (hl : lv_has ls 9 (q_lvL z r oa b i)) (hcell : cells + 1 ≤ 601024) (hslot : slots + 6 ≤ 7293034)
    (kk : ∀ (H1 : Heap) (locs1 : List Loc) (ls1 : Array Slot), C1 H1 → MS r z.cI D (nI k) sn hs len T fv fn fx H1 → va_P D vwCl (wO oa cJ g') H1 → va_S A s.heap H1 locs1 → lv_has ls1 9 (q_lvL z r oa b i) → W p l e room_1 s m args below meth c H1 locs1 (cells + 1) (slots + 6) Q (F0 m 1449 ls1 [])) :
    W p l e room_1 s m args below meth c H locs cells slots Q (F0 m 560 ls []) := by
  obtain ⟨⟨hx, hb, hml, hts, hown⟩, ⟨hl9, hK, hT⟩, ⟨hX, hbl, hbA, hL⟩, ⟨hAX, hAM, hAo, hXM, hMX, hMo, hoa⟩, hDX, hDR⟩ := hLC
  have hAXo : ∀ q, AXo z oa q → A q := fun q h => h.elim (hAX q) (fun e => by rw [e]; exact hAo)
  refine lv_aload_n hx hb dL_law_560 rfl (lv_at hl 3 rfl) ?_
  refine lv_aload_n hx hb dL_law_561 rfl (lv_at hl 4 rfl) ?_
  refine lv_iload hx hb dL_law_562 (lv_at hl 0 rfl) ?_
  refine lv_iconst (v := nI 1) hx hb dL_law_564 (by decide) ?_
  refine q_addN hx hb (i + 1) rfl dL_law_565 ?_
  refine q_sld hx hb hX hbl hbA hS (j := i + 1) (by omega) hL dL_law_566 ?_
  refine lv_aload_n hx hb dL_law_567 rfl (lv_at hl 1 rfl) ?_
  refine q_ciK (BH := fun H => C1 H ∧ va_P D vwCl (wO oa cJ g') H) (vx_runSW (rm := { frames := 8, cells := 1, slots := 6, locals := 139 }) (As := [.ref z.o, .int (xs (i + 1)), .ref oa]) (rest := []) ⟨hx, hb, hml, hown, hts⟩ hXc (vx_cwSW (hh := [(0, 9, 12, 13)]) 3 hts gL_law_L_round rfl rfl rfl (by decide +kernel) ⟨Nat.le_of_ble_eq_true rfl, Nat.le_of_ble_eq_true rfl⟩) (q_pSH hC hO hK hT hS hAXo) rfl rfl hl.1 rfl (lv_room (Nat.le_of_ble_eq_true rfl)) dL_law_568 ⟨hcell, hslot⟩) (fun _ h => h) hS hAXo (fun x5 H locs e5 hCO hk hS => ?_)
  obtain ⟨hC, hO⟩ := hCO
  have e5 : nI k = x5 := Eq.symm e5
  subst e5
  have hM := hM.keptA hM0 hMX hk
  refine lv_istore (lv' := [(5, .int (nI k)), (4, .int (nI i)), (3, .ref oa), (2, .ref r.1), (1, .ref z.o), (0, .ref b)]) hx hb dL_law_571 hl (by decide) rfl (fun ls hl => ?_)
  refine lv_aload_n hx hb dL_law_573 rfl (lv_at hl 3 rfl) ?_
  refine lv_aload_n hx hb dL_law_574 rfl (lv_at hl 5 rfl) ?_
  refine lv_iload hx hb dL_law_575 (lv_at hl 1 rfl) ?_
  refine lv_iconst (v := nI 1) hx hb dL_law_577 (by decide) ?_
  refine q_addN hx hb (i + 1) rfl dL_law_578 ?_
  refine q_sld hx hb hX hbl hbA hS (j := i + 1) (by omega) hL dL_law_579 ?_
  refine q_ciK (BH := MS r z.cI D (nI k) sn hs len T fv fn fx) (va_runV (rm := { frames := 7, cells := 0, slots := 0, locals := 160 }) (As := [.int (xs (i + 1))]) (rest := []) ⟨hx, hb, hml, hown, hts⟩ hMc (cwV 1 hts gL_law_X3_round rfl rfl rfl (by decide +kernel) ⟨Nat.le_of_ble_eq_true rfl, Nat.le_of_ble_eq_true rfl⟩) (q_pV (ci := 3) (q0 := 0) hM (hK.sub [0] rfl) rfl hw0) rfl rfl hl.1 rfl (lv_room (Nat.le_of_ble_eq_true rfl)) dL_law_580 ⟨hcell, hslot⟩) (fun _ h => h) hS hAM (fun x6 H locs e6 hM hk hS => ?_)
  have e6 : k = 0 → x6 = bb := e6
  have hC := hCk _ _ hC hk
  have hO := wO_kept hO hMo hk
  obtain ⟨sp, wr, le, wh, tz, dg, fa, hM⟩ := hM
  have hDM := q_D2 (ws' := wRo r z.cI (nI k) sn hs len sp wr le wh tz dg T fa fv fn fx) hDR rfl
  refine lv_istore (lv' := [(6, .int x6), (5, .int (nI k)), (4, .int (nI i)), (3, .ref oa), (2, .ref r.1), (1, .ref z.o), (0, .ref b)]) hx hb dL_law_583 hl (by decide) rfl (fun ls hl => ?_)
  refine lv_aload_n hx hb dL_law_585 rfl (lv_at hl 4 rfl) ?_
  refine q_ciK (BH := fun H => va_P D vwCl (wRo r z.cI (nI k) sn hs len sp wr le wh tz dg T fa fv fn fx) H) (va_runV (rm := { frames := 0, cells := 0, slots := 0, locals := 0 }) (As := []) (rest := []) ⟨hx, hb, hml, hown, hts⟩ (m3_thrown l D z.cI r.1 r.2.1 r.2.2.1 r.2.2.2.1 r.2.2.2.2.1 r.2.2.2.2.2 T fa fv fn fx (nI k) (nI sn) (nI hs) (nI len) sp wr le wh (nI tz) dg hDM) (cwV 0 hts gL_law_X3_thrown rfl rfl rfl (by decide +kernel) ⟨Nat.le_of_ble_eq_true rfl, Nat.le_of_ble_eq_true rfl⟩) (q_pV (ci := 3) (q0 := 0) hM (hK.sub [0] rfl) rfl rfl) rfl rfl hl.1 rfl (lv_room (Nat.le_of_ble_eq_true rfl)) dL_law_586 ⟨hcell, hslot⟩) (fun _ h => h) hS hAM (fun x7 H locs e7 hM hk hS => ?_)
  have e7 : nI k = x7 := Eq.symm e7
  subst e7
  have hC := hCk _ _ hC hk
  have hO := wO_kept hO hMo hk
  have hMS : MS r z.cI D (nI k) sn hs len T fv fn fx H := ⟨sp, wr, le, wh, tz, dg, fa, hM⟩
  refine lv_iload hx hb dL_law_589 (lv_at hl 1 rfl) ?_
  refine lv_icmp_eq (tgt := 596) hx hb dL_law_591 (by decide) (fun _ => ?_) (fun c => absurd rfl c)
  refine lv_iload hx hb dL_law_596 (lv_at hl 1 rfl) ?_
  refine lv_if_ne (tgt := 613) hx hb dL_law_598 (by decide) (fun c1 => ?_) (fun c1 => ?_)
  ·
    refine lv_goto (tgt := 1449) hx hb dL_law_613 (by decide) ?_
    exact kk _ _ _ hC hMS hO hS (lv_sub hl [2, 3, 4, 5, 6] rfl)
  ·
    refine lv_aload_n hx hb dL_law_601 rfl (lv_at hl 3 rfl) ?_
    refine lv_iconst (v := nI 0) hx hb dL_law_602 (by decide) ?_
    refine q_lld0 hx hb hK hO 2 rfl dL_law_603 ?_
    refine lv_iload hx hb dL_law_604 (lv_at hl 0 rfl) ?_
    refine lv_i2l (v := x6.toInt64) hx hb dL_law_606 rfl ?_
    refine W.lcmp hx hb dL_law_607 ?_
    have hk0 := nI_k0 hk4 c1
    refine lv_if_eq (tgt := 613) hx hb dL_law_608 (by decide) (fun _ => ?_) (fun c => absurd (by rw [hg hk0, e6 hk0]; exact lg_self _) c)
    refine lv_goto (tgt := 1449) hx hb dL_law_613 (by decide) ?_
    exact kk _ _ _ hC hMS hO hS (lv_sub hl [2, 3, 4, 5, 6] rfl)
set_option maxHeartbeats 4000000 in
set_option maxRecDepth 100000 in
theorem lw_append {p : Program} {l : Launch} {e : Env} {s : State} {m : MethodId} {args : Array Value} {below : List Frame} {meth : Method} {c : Code} {H : Heap} {locs : List Loc} {cells slots : Nat} {Q : State → Prop} {ls : Array Slot} {D : va_G} {z : Ad} {r : Mo} {oa : Nat} {cJ : ClassId} {st : Nat → Nat} {A : Nat → Prop} {b L : Nat} {xs : Nat → Int32} (hLC : q_LC p s m c args l D z r oa cJ st A b L xs) {i : Nat} (hi : i + 5 ≤ L) {C0 C1 : Heap → Prop} {g g' : Int64} {k : Nat} {bb : Int32} {w0 : va_W} {fs0 : List Value} {sn hs len : Nat} {T fv fn fx : Nat → Int32} (hk4 : k < 4)
    (hXc : q_H l yL_append wsL_append { frames := 8, cells := 1, slots := 6, locals := 125 } [.ref z.o, .int (xs (i + 1)), .ref oa] st D z oa cJ C0 g k C1 g') (hCk : ∀ (H H1 : Heap), C1 H → (∀ q : Nat, q < H.size → ¬ AMo r q → H1[q]? = H[q]?) → C1 H1)
    (hMc : q_I l yX3_append wsX3_append { frames := 1, cells := 0, slots := 0, locals := 22 } [.ref r.1, .int (xs (i + 1))] (q_bp D w0 [(z.cI, .int)]) (fun v => k = 0 → v = bb) (MS r z.cI D (nI k) sn hs len T fv fn fx) (AMo r) 0 0) (hw0 : w0[0]? = some (r.1, .inr (3, fs0))) (hM0 : ∀ (k : Nat) (q : Nat × va_E), w0[k]? = some q → AMo r q.1)
    (hg : k = 0 → g' = bb.toInt64) (hC : C0 H) (hM : va_P D vwCl w0 H) (hO : va_P D vwCl (wO oa cJ g) H) (hS : va_S A s.heap H locs) (hl : lv_has ls 9 (q_lvL z r oa b i)) (hcell : cells + 1 ≤ 601024) (hslot : slots + 6 ≤ 7293034)
    (kk : ∀ (H1 : Heap) (locs1 : List Loc) (ls1 : Array Slot), C1 H1 → MS r z.cI D (nI k) sn hs len T fv fn fx H1 → va_P D vwCl (wO oa cJ g') H1 → va_S A s.heap H1 locs1 → lv_has ls1 9 (q_lvL z r oa b i) → W p l e room_1 s m args below meth c H1 locs1 (cells + 1) (slots + 6) Q (F0 m 1449 ls1 [])) :
    W p l e room_1 s m args below meth c H locs cells slots Q (F0 m 616 ls []) := by
  obtain ⟨⟨hx, hb, hml, hts, hown⟩, ⟨hl9, hK, hT⟩, ⟨hX, hbl, hbA, hL⟩, ⟨hAX, hAM, hAo, hXM, hMX, hMo, hoa⟩, hDX, hDR⟩ := hLC
  have hAXo : ∀ q, AXo z oa q → A q := fun q h => h.elim (hAX q) (fun e => by rw [e]; exact hAo)
  refine lv_aload_n hx hb dL_law_616 rfl (lv_at hl 3 rfl) ?_
  refine lv_aload_n hx hb dL_law_617 rfl (lv_at hl 4 rfl) ?_
  refine lv_iload hx hb dL_law_618 (lv_at hl 0 rfl) ?_
  refine lv_iconst (v := nI 1) hx hb dL_law_620 (by decide) ?_
  refine q_addN hx hb (i + 1) rfl dL_law_621 ?_
  refine q_sld hx hb hX hbl hbA hS (j := i + 1) (by omega) hL dL_law_622 ?_
  refine lv_aload_n hx hb dL_law_623 rfl (lv_at hl 1 rfl) ?_
  refine q_ciK (BH := fun H => C1 H ∧ va_P D vwCl (wO oa cJ g') H) (vx_runSW (rm := { frames := 8, cells := 1, slots := 6, locals := 125 }) (As := [.ref z.o, .int (xs (i + 1)), .ref oa]) (rest := []) ⟨hx, hb, hml, hown, hts⟩ hXc (vx_cwSW (hh := [(0, 9, 12, 15), (0, 9, 15, 21)]) 3 hts gL_law_L_append rfl rfl rfl (by decide +kernel) ⟨Nat.le_of_ble_eq_true rfl, Nat.le_of_ble_eq_true rfl⟩) (q_pSH hC hO hK hT hS hAXo) rfl rfl hl.1 rfl (lv_room (Nat.le_of_ble_eq_true rfl)) dL_law_624 ⟨hcell, hslot⟩) (fun _ h => h) hS hAXo (fun x5 H locs e5 hCO hk hS => ?_)
  obtain ⟨hC, hO⟩ := hCO
  have e5 : nI k = x5 := Eq.symm e5
  subst e5
  have hM := hM.keptA hM0 hMX hk
  refine lv_istore (lv' := [(5, .int (nI k)), (4, .int (nI i)), (3, .ref oa), (2, .ref r.1), (1, .ref z.o), (0, .ref b)]) hx hb dL_law_627 hl (by decide) rfl (fun ls hl => ?_)
  refine lv_aload_n hx hb dL_law_629 rfl (lv_at hl 3 rfl) ?_
  refine lv_aload_n hx hb dL_law_630 rfl (lv_at hl 5 rfl) ?_
  refine lv_iload hx hb dL_law_631 (lv_at hl 1 rfl) ?_
  refine lv_iconst (v := nI 1) hx hb dL_law_633 (by decide) ?_
  refine q_addN hx hb (i + 1) rfl dL_law_634 ?_
  refine q_sld hx hb hX hbl hbA hS (j := i + 1) (by omega) hL dL_law_635 ?_
  refine q_ciK (BH := MS r z.cI D (nI k) sn hs len T fv fn fx) (va_runV (rm := { frames := 1, cells := 0, slots := 0, locals := 22 }) (As := [.int (xs (i + 1))]) (rest := []) ⟨hx, hb, hml, hown, hts⟩ hMc (cwV 1 hts gL_law_X3_append rfl rfl rfl (by decide +kernel) ⟨Nat.le_of_ble_eq_true rfl, Nat.le_of_ble_eq_true rfl⟩) (q_pV (ci := 3) (q0 := 0) hM (hK.sub [0] rfl) rfl hw0) rfl rfl hl.1 rfl (lv_room (Nat.le_of_ble_eq_true rfl)) dL_law_636 ⟨hcell, hslot⟩) (fun _ h => h) hS hAM (fun x6 H locs e6 hM hk hS => ?_)
  have e6 : k = 0 → x6 = bb := e6
  have hC := hCk _ _ hC hk
  have hO := wO_kept hO hMo hk
  obtain ⟨sp, wr, le, wh, tz, dg, fa, hM⟩ := hM
  have hDM := q_D2 (ws' := wRo r z.cI (nI k) sn hs len sp wr le wh tz dg T fa fv fn fx) hDR rfl
  refine lv_istore (lv' := [(6, .int x6), (5, .int (nI k)), (4, .int (nI i)), (3, .ref oa), (2, .ref r.1), (1, .ref z.o), (0, .ref b)]) hx hb dL_law_639 hl (by decide) rfl (fun ls hl => ?_)
  refine lv_aload_n hx hb dL_law_641 rfl (lv_at hl 4 rfl) ?_
  refine q_ciK (BH := fun H => va_P D vwCl (wRo r z.cI (nI k) sn hs len sp wr le wh tz dg T fa fv fn fx) H) (va_runV (rm := { frames := 0, cells := 0, slots := 0, locals := 0 }) (As := []) (rest := []) ⟨hx, hb, hml, hown, hts⟩ (m3_thrown l D z.cI r.1 r.2.1 r.2.2.1 r.2.2.2.1 r.2.2.2.2.1 r.2.2.2.2.2 T fa fv fn fx (nI k) (nI sn) (nI hs) (nI len) sp wr le wh (nI tz) dg hDM) (cwV 0 hts gL_law_X3_thrown rfl rfl rfl (by decide +kernel) ⟨Nat.le_of_ble_eq_true rfl, Nat.le_of_ble_eq_true rfl⟩) (q_pV (ci := 3) (q0 := 0) hM (hK.sub [0] rfl) rfl rfl) rfl rfl hl.1 rfl (lv_room (Nat.le_of_ble_eq_true rfl)) dL_law_642 ⟨hcell, hslot⟩) (fun _ h => h) hS hAM (fun x7 H locs e7 hM hk hS => ?_)
  have e7 : nI k = x7 := Eq.symm e7
  subst e7
  have hC := hCk _ _ hC hk
  have hO := wO_kept hO hMo hk
  have hMS : MS r z.cI D (nI k) sn hs len T fv fn fx H := ⟨sp, wr, le, wh, tz, dg, fa, hM⟩
  refine lv_iload hx hb dL_law_645 (lv_at hl 1 rfl) ?_
  refine lv_icmp_eq (tgt := 652) hx hb dL_law_647 (by decide) (fun _ => ?_) (fun c => absurd rfl c)
  refine lv_iload hx hb dL_law_652 (lv_at hl 1 rfl) ?_
  refine lv_if_ne (tgt := 669) hx hb dL_law_654 (by decide) (fun c1 => ?_) (fun c1 => ?_)
  ·
    refine lv_goto (tgt := 1449) hx hb dL_law_669 (by decide) ?_
    exact kk _ _ _ hC hMS hO hS (lv_sub hl [2, 3, 4, 5, 6] rfl)
  ·
    refine lv_aload_n hx hb dL_law_657 rfl (lv_at hl 3 rfl) ?_
    refine lv_iconst (v := nI 0) hx hb dL_law_658 (by decide) ?_
    refine q_lld0 hx hb hK hO 2 rfl dL_law_659 ?_
    refine lv_iload hx hb dL_law_660 (lv_at hl 0 rfl) ?_
    refine lv_i2l (v := x6.toInt64) hx hb dL_law_662 rfl ?_
    refine W.lcmp hx hb dL_law_663 ?_
    have hk0 := nI_k0 hk4 c1
    refine lv_if_eq (tgt := 669) hx hb dL_law_664 (by decide) (fun _ => ?_) (fun c => absurd (by rw [hg hk0, e6 hk0]; exact lg_self _) c)
    refine lv_goto (tgt := 1449) hx hb dL_law_669 (by decide) ?_
    exact kk _ _ _ hC hMS hO hS (lv_sub hl [2, 3, 4, 5, 6] rfl)
set_option maxHeartbeats 4000000 in
set_option maxRecDepth 100000 in
theorem lw_run {p : Program} {l : Launch} {e : Env} {s : State} {m : MethodId} {args : Array Value} {below : List Frame} {meth : Method} {c : Code} {H : Heap} {locs : List Loc} {cells slots : Nat} {Q : State → Prop} {ls : Array Slot} {D : va_G} {z : Ad} {r : Mo} {oa : Nat} {cJ : ClassId} {st : Nat → Nat} {A : Nat → Prop} {b L : Nat} {xs : Nat → Int32} (hLC : q_LC p s m c args l D z r oa cJ st A b L xs) {i : Nat} (hi : i + 5 ≤ L) {C0 C1 : Heap → Prop} {g g' : Int64} {k : Nat} {bb : Int32} {w0 : va_W} {fs0 : List Value} {sn hs len : Nat} {T fv fn fx : Nat → Int32} (hk4 : k < 4)
    (hXc : q_H l yL_run wsL_run { frames := 7, cells := 1, slots := 6, locals := 164 } [.ref z.o, .ref oa] st D z oa cJ C0 g k C1 g') (hCk : ∀ (H H1 : Heap), C1 H → (∀ q : Nat, q < H.size → ¬ AMo r q → H1[q]? = H[q]?) → C1 H1)
    (hMc : q_I l yX3_run wsX3_run { frames := 9, cells := 0, slots := 0, locals := 204 } [.ref r.1] (q_bp D w0 [(z.cI, .int)]) (fun v => k = 0 → v = bb) (MS r z.cI D (nI k) sn hs len T fv fn fx) (AMo r) 0 0) (hw0 : w0[0]? = some (r.1, .inr (3, fs0))) (hM0 : ∀ (k : Nat) (q : Nat × va_E), w0[k]? = some q → AMo r q.1)
    (hg : k = 0 → g' = bb.toInt64) (hC : C0 H) (hM : va_P D vwCl w0 H) (hO : va_P D vwCl (wO oa cJ g) H) (hS : va_S A s.heap H locs) (hl : lv_has ls 9 (q_lvL z r oa b i)) (hcell : cells + 1 ≤ 601024) (hslot : slots + 6 ≤ 7293034)
    (kk : ∀ (H1 : Heap) (locs1 : List Loc) (ls1 : Array Slot), C1 H1 → MS r z.cI D (nI k) sn hs len T fv fn fx H1 → va_P D vwCl (wO oa cJ g') H1 → va_S A s.heap H1 locs1 → lv_has ls1 9 (q_lvL z r oa b i) → W p l e room_1 s m args below meth c H1 locs1 (cells + 1) (slots + 6) Q (F0 m 1449 ls1 [])) :
    W p l e room_1 s m args below meth c H locs cells slots Q (F0 m 698 ls []) := by
  obtain ⟨⟨hx, hb, hml, hts, hown⟩, ⟨hl9, hK, hT⟩, ⟨hX, hbl, hbA, hL⟩, ⟨hAX, hAM, hAo, hXM, hMX, hMo, hoa⟩, hDX, hDR⟩ := hLC
  have hAXo : ∀ q, AXo z oa q → A q := fun q h => h.elim (hAX q) (fun e => by rw [e]; exact hAo)
  refine lv_aload_n hx hb dL_law_698 rfl (lv_at hl 3 rfl) ?_
  refine lv_aload_n hx hb dL_law_699 rfl (lv_at hl 1 rfl) ?_
  refine q_ciK (BH := fun H => C1 H ∧ va_P D vwCl (wO oa cJ g') H) (vx_runSW (rm := { frames := 7, cells := 1, slots := 6, locals := 164 }) (As := [.ref z.o, .ref oa]) (rest := []) ⟨hx, hb, hml, hown, hts⟩ hXc (vx_cwSW (hh := [(0, 8, 11, 15)]) 2 hts gL_law_L_run rfl rfl rfl (by decide +kernel) ⟨Nat.le_of_ble_eq_true rfl, Nat.le_of_ble_eq_true rfl⟩) (q_pSH hC hO hK hT hS hAXo) rfl rfl hl.1 rfl (lv_room (Nat.le_of_ble_eq_true rfl)) dL_law_700 ⟨hcell, hslot⟩) (fun _ h => h) hS hAXo (fun x5 H locs e5 hCO hk hS => ?_)
  obtain ⟨hC, hO⟩ := hCO
  have e5 : nI k = x5 := Eq.symm e5
  subst e5
  have hM := hM.keptA hM0 hMX hk
  refine lv_istore (lv' := [(5, .int (nI k)), (4, .int (nI i)), (3, .ref oa), (2, .ref r.1), (1, .ref z.o), (0, .ref b)]) hx hb dL_law_703 hl (by decide) rfl (fun ls hl => ?_)
  refine lv_aload_n hx hb dL_law_705 rfl (lv_at hl 3 rfl) ?_
  refine q_ciK (BH := MS r z.cI D (nI k) sn hs len T fv fn fx) (va_runV (rm := { frames := 9, cells := 0, slots := 0, locals := 204 }) (As := []) (rest := []) ⟨hx, hb, hml, hown, hts⟩ hMc (cwV 0 hts gL_law_X3_run rfl rfl rfl (by decide +kernel) ⟨Nat.le_of_ble_eq_true rfl, Nat.le_of_ble_eq_true rfl⟩) (q_pV (ci := 3) (q0 := 0) hM (hK.sub [0] rfl) rfl hw0) rfl rfl hl.1 rfl (lv_room (Nat.le_of_ble_eq_true rfl)) dL_law_706 ⟨hcell, hslot⟩) (fun _ h => h) hS hAM (fun x6 H locs e6 hM hk hS => ?_)
  have e6 : k = 0 → x6 = bb := e6
  have hC := hCk _ _ hC hk
  have hO := wO_kept hO hMo hk
  obtain ⟨sp, wr, le, wh, tz, dg, fa, hM⟩ := hM
  have hDM := q_D2 (ws' := wRo r z.cI (nI k) sn hs len sp wr le wh tz dg T fa fv fn fx) hDR rfl
  refine lv_istore (lv' := [(6, .int x6), (5, .int (nI k)), (4, .int (nI i)), (3, .ref oa), (2, .ref r.1), (1, .ref z.o), (0, .ref b)]) hx hb dL_law_709 hl (by decide) rfl (fun ls hl => ?_)
  refine lv_aload_n hx hb dL_law_711 rfl (lv_at hl 4 rfl) ?_
  refine q_ciK (BH := fun H => va_P D vwCl (wRo r z.cI (nI k) sn hs len sp wr le wh tz dg T fa fv fn fx) H) (va_runV (rm := { frames := 0, cells := 0, slots := 0, locals := 0 }) (As := []) (rest := []) ⟨hx, hb, hml, hown, hts⟩ (m3_thrown l D z.cI r.1 r.2.1 r.2.2.1 r.2.2.2.1 r.2.2.2.2.1 r.2.2.2.2.2 T fa fv fn fx (nI k) (nI sn) (nI hs) (nI len) sp wr le wh (nI tz) dg hDM) (cwV 0 hts gL_law_X3_thrown rfl rfl rfl (by decide +kernel) ⟨Nat.le_of_ble_eq_true rfl, Nat.le_of_ble_eq_true rfl⟩) (q_pV (ci := 3) (q0 := 0) hM (hK.sub [0] rfl) rfl rfl) rfl rfl hl.1 rfl (lv_room (Nat.le_of_ble_eq_true rfl)) dL_law_712 ⟨hcell, hslot⟩) (fun _ h => h) hS hAM (fun x7 H locs e7 hM hk hS => ?_)
  have e7 : nI k = x7 := Eq.symm e7
  subst e7
  have hC := hCk _ _ hC hk
  have hO := wO_kept hO hMo hk
  have hMS : MS r z.cI D (nI k) sn hs len T fv fn fx H := ⟨sp, wr, le, wh, tz, dg, fa, hM⟩
  refine lv_iload hx hb dL_law_715 (lv_at hl 1 rfl) ?_
  refine lv_icmp_eq (tgt := 722) hx hb dL_law_717 (by decide) (fun _ => ?_) (fun c => absurd rfl c)
  refine lv_iload hx hb dL_law_722 (lv_at hl 1 rfl) ?_
  refine lv_if_ne (tgt := 739) hx hb dL_law_724 (by decide) (fun c1 => ?_) (fun c1 => ?_)
  ·
    refine lv_goto (tgt := 1449) hx hb dL_law_739 (by decide) ?_
    exact kk _ _ _ hC hMS hO hS (lv_sub hl [2, 3, 4, 5, 6] rfl)
  ·
    refine lv_aload_n hx hb dL_law_727 rfl (lv_at hl 3 rfl) ?_
    refine lv_iconst (v := nI 0) hx hb dL_law_728 (by decide) ?_
    refine q_lld0 hx hb hK hO 2 rfl dL_law_729 ?_
    refine lv_iload hx hb dL_law_730 (lv_at hl 0 rfl) ?_
    refine lv_i2l (v := x6.toInt64) hx hb dL_law_732 rfl ?_
    refine W.lcmp hx hb dL_law_733 ?_
    have hk0 := nI_k0 hk4 c1
    refine lv_if_eq (tgt := 739) hx hb dL_law_734 (by decide) (fun _ => ?_) (fun c => absurd (by rw [hg hk0, e6 hk0]; exact lg_self _) c)
    refine lv_goto (tgt := 1449) hx hb dL_law_739 (by decide) ?_
    exact kk _ _ _ hC hMS hO hS (lv_sub hl [2, 3, 4, 5, 6] rfl)
set_option maxHeartbeats 4000000 in
set_option maxRecDepth 100000 in
theorem lw_goBack {p : Program} {l : Launch} {e : Env} {s : State} {m : MethodId} {args : Array Value} {below : List Frame} {meth : Method} {c : Code} {H : Heap} {locs : List Loc} {cells slots : Nat} {Q : State → Prop} {ls : Array Slot} {D : va_G} {z : Ad} {r : Mo} {oa : Nat} {cJ : ClassId} {st : Nat → Nat} {A : Nat → Prop} {b L : Nat} {xs : Nat → Int32} (hLC : q_LC p s m c args l D z r oa cJ st A b L xs) {i : Nat} (hi : i + 5 ≤ L) {C0 C1 : Heap → Prop} {g g' : Int64} {k : Nat} {bb : Int32} {w0 : va_W} {fs0 : List Value} {sn hs len : Nat} {T fv fn fx : Nat → Int32} (hk4 : k < 4)
    (hXc : q_H l yL_goBack wsL_goBack { frames := 7, cells := 1, slots := 6, locals := 121 } [.ref z.o, .ref oa] st D z oa cJ C0 g k C1 g') (hCk : ∀ (H H1 : Heap), C1 H → (∀ q : Nat, q < H.size → ¬ AMo r q → H1[q]? = H[q]?) → C1 H1)
    (hMc : q_I l yX3_goBack wsX3_goBack { frames := 2, cells := 0, slots := 0, locals := 41 } [.ref r.1] (q_bp D w0 [(z.cI, .int)]) (fun v => k = 0 → v = bb) (MS r z.cI D (nI k) sn hs len T fv fn fx) (AMo r) 0 0) (hw0 : w0[0]? = some (r.1, .inr (3, fs0))) (hM0 : ∀ (k : Nat) (q : Nat × va_E), w0[k]? = some q → AMo r q.1)
    (hg : k = 0 → g' = bb.toInt64) (hC : C0 H) (hM : va_P D vwCl w0 H) (hO : va_P D vwCl (wO oa cJ g) H) (hS : va_S A s.heap H locs) (hl : lv_has ls 9 (q_lvL z r oa b i)) (hcell : cells + 1 ≤ 601024) (hslot : slots + 6 ≤ 7293034)
    (kk : ∀ (H1 : Heap) (locs1 : List Loc) (ls1 : Array Slot), C1 H1 → MS r z.cI D (nI k) sn hs len T fv fn fx H1 → va_P D vwCl (wO oa cJ g') H1 → va_S A s.heap H1 locs1 → lv_has ls1 9 (q_lvL z r oa b i) → W p l e room_1 s m args below meth c H1 locs1 (cells + 1) (slots + 6) Q (F0 m 1449 ls1 [])) :
    W p l e room_1 s m args below meth c H locs cells slots Q (F0 m 755 ls []) := by
  obtain ⟨⟨hx, hb, hml, hts, hown⟩, ⟨hl9, hK, hT⟩, ⟨hX, hbl, hbA, hL⟩, ⟨hAX, hAM, hAo, hXM, hMX, hMo, hoa⟩, hDX, hDR⟩ := hLC
  have hAXo : ∀ q, AXo z oa q → A q := fun q h => h.elim (hAX q) (fun e => by rw [e]; exact hAo)
  refine lv_aload_n hx hb dL_law_755 rfl (lv_at hl 3 rfl) ?_
  refine lv_aload_n hx hb dL_law_756 rfl (lv_at hl 1 rfl) ?_
  refine q_ciK (BH := fun H => C1 H ∧ va_P D vwCl (wO oa cJ g') H) (vx_runSW (rm := { frames := 7, cells := 1, slots := 6, locals := 121 }) (As := [.ref z.o, .ref oa]) (rest := []) ⟨hx, hb, hml, hown, hts⟩ hXc (vx_cwSW (hh := [(0, 8, 11, 21)]) 2 hts gL_law_L_goBack rfl rfl rfl (by decide +kernel) ⟨Nat.le_of_ble_eq_true rfl, Nat.le_of_ble_eq_true rfl⟩) (q_pSH hC hO hK hT hS hAXo) rfl rfl hl.1 rfl (lv_room (Nat.le_of_ble_eq_true rfl)) dL_law_757 ⟨hcell, hslot⟩) (fun _ h => h) hS hAXo (fun x5 H locs e5 hCO hk hS => ?_)
  obtain ⟨hC, hO⟩ := hCO
  have e5 : nI k = x5 := Eq.symm e5
  subst e5
  have hM := hM.keptA hM0 hMX hk
  refine lv_istore (lv' := [(5, .int (nI k)), (4, .int (nI i)), (3, .ref oa), (2, .ref r.1), (1, .ref z.o), (0, .ref b)]) hx hb dL_law_760 hl (by decide) rfl (fun ls hl => ?_)
  refine lv_aload_n hx hb dL_law_762 rfl (lv_at hl 3 rfl) ?_
  refine q_ciK (BH := MS r z.cI D (nI k) sn hs len T fv fn fx) (va_runV (rm := { frames := 2, cells := 0, slots := 0, locals := 41 }) (As := []) (rest := []) ⟨hx, hb, hml, hown, hts⟩ hMc (cwV 0 hts gL_law_X3_goBack rfl rfl rfl (by decide +kernel) ⟨Nat.le_of_ble_eq_true rfl, Nat.le_of_ble_eq_true rfl⟩) (q_pV (ci := 3) (q0 := 0) hM (hK.sub [0] rfl) rfl hw0) rfl rfl hl.1 rfl (lv_room (Nat.le_of_ble_eq_true rfl)) dL_law_763 ⟨hcell, hslot⟩) (fun _ h => h) hS hAM (fun x6 H locs e6 hM hk hS => ?_)
  have e6 : k = 0 → x6 = bb := e6
  have hC := hCk _ _ hC hk
  have hO := wO_kept hO hMo hk
  obtain ⟨sp, wr, le, wh, tz, dg, fa, hM⟩ := hM
  have hDM := q_D2 (ws' := wRo r z.cI (nI k) sn hs len sp wr le wh tz dg T fa fv fn fx) hDR rfl
  refine lv_istore (lv' := [(6, .int x6), (5, .int (nI k)), (4, .int (nI i)), (3, .ref oa), (2, .ref r.1), (1, .ref z.o), (0, .ref b)]) hx hb dL_law_766 hl (by decide) rfl (fun ls hl => ?_)
  refine lv_aload_n hx hb dL_law_768 rfl (lv_at hl 4 rfl) ?_
  refine q_ciK (BH := fun H => va_P D vwCl (wRo r z.cI (nI k) sn hs len sp wr le wh tz dg T fa fv fn fx) H) (va_runV (rm := { frames := 0, cells := 0, slots := 0, locals := 0 }) (As := []) (rest := []) ⟨hx, hb, hml, hown, hts⟩ (m3_thrown l D z.cI r.1 r.2.1 r.2.2.1 r.2.2.2.1 r.2.2.2.2.1 r.2.2.2.2.2 T fa fv fn fx (nI k) (nI sn) (nI hs) (nI len) sp wr le wh (nI tz) dg hDM) (cwV 0 hts gL_law_X3_thrown rfl rfl rfl (by decide +kernel) ⟨Nat.le_of_ble_eq_true rfl, Nat.le_of_ble_eq_true rfl⟩) (q_pV (ci := 3) (q0 := 0) hM (hK.sub [0] rfl) rfl rfl) rfl rfl hl.1 rfl (lv_room (Nat.le_of_ble_eq_true rfl)) dL_law_769 ⟨hcell, hslot⟩) (fun _ h => h) hS hAM (fun x7 H locs e7 hM hk hS => ?_)
  have e7 : nI k = x7 := Eq.symm e7
  subst e7
  have hC := hCk _ _ hC hk
  have hO := wO_kept hO hMo hk
  have hMS : MS r z.cI D (nI k) sn hs len T fv fn fx H := ⟨sp, wr, le, wh, tz, dg, fa, hM⟩
  refine lv_iload hx hb dL_law_772 (lv_at hl 1 rfl) ?_
  refine lv_icmp_eq (tgt := 779) hx hb dL_law_774 (by decide) (fun _ => ?_) (fun c => absurd rfl c)
  refine lv_iload hx hb dL_law_779 (lv_at hl 1 rfl) ?_
  refine lv_if_ne (tgt := 796) hx hb dL_law_781 (by decide) (fun c1 => ?_) (fun c1 => ?_)
  ·
    refine lv_goto (tgt := 1449) hx hb dL_law_796 (by decide) ?_
    exact kk _ _ _ hC hMS hO hS (lv_sub hl [2, 3, 4, 5, 6] rfl)
  ·
    refine lv_aload_n hx hb dL_law_784 rfl (lv_at hl 3 rfl) ?_
    refine lv_iconst (v := nI 0) hx hb dL_law_785 (by decide) ?_
    refine q_lld0 hx hb hK hO 2 rfl dL_law_786 ?_
    refine lv_iload hx hb dL_law_787 (lv_at hl 0 rfl) ?_
    refine lv_i2l (v := x6.toInt64) hx hb dL_law_789 rfl ?_
    refine W.lcmp hx hb dL_law_790 ?_
    have hk0 := nI_k0 hk4 c1
    refine lv_if_eq (tgt := 796) hx hb dL_law_791 (by decide) (fun _ => ?_) (fun c => absurd (by rw [hg hk0, e6 hk0]; exact lg_self _) c)
    refine lv_goto (tgt := 1449) hx hb dL_law_796 (by decide) ?_
    exact kk _ _ _ hC hMS hO hS (lv_sub hl [2, 3, 4, 5, 6] rfl)
set_option maxHeartbeats 4000000 in
set_option maxRecDepth 100000 in
theorem lw_undo {p : Program} {l : Launch} {e : Env} {s : State} {m : MethodId} {args : Array Value} {below : List Frame} {meth : Method} {c : Code} {H : Heap} {locs : List Loc} {cells slots : Nat} {Q : State → Prop} {ls : Array Slot} {D : va_G} {z : Ad} {r : Mo} {oa : Nat} {cJ : ClassId} {st : Nat → Nat} {A : Nat → Prop} {b L : Nat} {xs : Nat → Int32} (hLC : q_LC p s m c args l D z r oa cJ st A b L xs) {i : Nat} (hi : i + 5 ≤ L) {C0 C1 : Heap → Prop} {g g' : Int64} {k : Nat} {bb : Int32} {w0 : va_W} {fs0 : List Value} {sn hs len : Nat} {T fv fn fx : Nat → Int32} (hk4 : k < 4)
    (hXc : q_H l yL_undo wsL_undo { frames := 7, cells := 1, slots := 6, locals := 102 } [.ref z.o, .ref oa] st D z oa cJ C0 g k C1 g') (hCk : ∀ (H H1 : Heap), C1 H → (∀ q : Nat, q < H.size → ¬ AMo r q → H1[q]? = H[q]?) → C1 H1)
    (hMc : q_I l yX3_undo wsX3_undo { frames := 1, cells := 0, slots := 0, locals := 21 } [.ref r.1] (q_bp D w0 [(z.cI, .int)]) (fun v => k = 0 → v = bb) (MS r z.cI D (nI k) sn hs len T fv fn fx) (AMo r) 0 0) (hw0 : w0[0]? = some (r.1, .inr (3, fs0))) (hM0 : ∀ (k : Nat) (q : Nat × va_E), w0[k]? = some q → AMo r q.1)
    (hg : k = 0 → g' = bb.toInt64) (hC : C0 H) (hM : va_P D vwCl w0 H) (hO : va_P D vwCl (wO oa cJ g) H) (hS : va_S A s.heap H locs) (hl : lv_has ls 9 (q_lvL z r oa b i)) (hcell : cells + 1 ≤ 601024) (hslot : slots + 6 ≤ 7293034)
    (kk : ∀ (H1 : Heap) (locs1 : List Loc) (ls1 : Array Slot), C1 H1 → MS r z.cI D (nI k) sn hs len T fv fn fx H1 → va_P D vwCl (wO oa cJ g') H1 → va_S A s.heap H1 locs1 → lv_has ls1 9 (q_lvL z r oa b i) → W p l e room_1 s m args below meth c H1 locs1 (cells + 1) (slots + 6) Q (F0 m 1449 ls1 [])) :
    W p l e room_1 s m args below meth c H locs cells slots Q (F0 m 799 ls []) := by
  obtain ⟨⟨hx, hb, hml, hts, hown⟩, ⟨hl9, hK, hT⟩, ⟨hX, hbl, hbA, hL⟩, ⟨hAX, hAM, hAo, hXM, hMX, hMo, hoa⟩, hDX, hDR⟩ := hLC
  have hAXo : ∀ q, AXo z oa q → A q := fun q h => h.elim (hAX q) (fun e => by rw [e]; exact hAo)
  refine lv_aload_n hx hb dL_law_799 rfl (lv_at hl 3 rfl) ?_
  refine lv_aload_n hx hb dL_law_800 rfl (lv_at hl 1 rfl) ?_
  refine q_ciK (BH := fun H => C1 H ∧ va_P D vwCl (wO oa cJ g') H) (vx_runSW (rm := { frames := 7, cells := 1, slots := 6, locals := 102 }) (As := [.ref z.o, .ref oa]) (rest := []) ⟨hx, hb, hml, hown, hts⟩ hXc (vx_cwSW (hh := [(0, 8, 11, 21)]) 2 hts gL_law_L_undo rfl rfl rfl (by decide +kernel) ⟨Nat.le_of_ble_eq_true rfl, Nat.le_of_ble_eq_true rfl⟩) (q_pSH hC hO hK hT hS hAXo) rfl rfl hl.1 rfl (lv_room (Nat.le_of_ble_eq_true rfl)) dL_law_801 ⟨hcell, hslot⟩) (fun _ h => h) hS hAXo (fun x5 H locs e5 hCO hk hS => ?_)
  obtain ⟨hC, hO⟩ := hCO
  have e5 : nI k = x5 := Eq.symm e5
  subst e5
  have hM := hM.keptA hM0 hMX hk
  refine lv_istore (lv' := [(5, .int (nI k)), (4, .int (nI i)), (3, .ref oa), (2, .ref r.1), (1, .ref z.o), (0, .ref b)]) hx hb dL_law_804 hl (by decide) rfl (fun ls hl => ?_)
  refine lv_aload_n hx hb dL_law_806 rfl (lv_at hl 3 rfl) ?_
  refine q_ciK (BH := MS r z.cI D (nI k) sn hs len T fv fn fx) (va_runV (rm := { frames := 1, cells := 0, slots := 0, locals := 21 }) (As := []) (rest := []) ⟨hx, hb, hml, hown, hts⟩ hMc (cwV 0 hts gL_law_X3_undo rfl rfl rfl (by decide +kernel) ⟨Nat.le_of_ble_eq_true rfl, Nat.le_of_ble_eq_true rfl⟩) (q_pV (ci := 3) (q0 := 0) hM (hK.sub [0] rfl) rfl hw0) rfl rfl hl.1 rfl (lv_room (Nat.le_of_ble_eq_true rfl)) dL_law_807 ⟨hcell, hslot⟩) (fun _ h => h) hS hAM (fun x6 H locs e6 hM hk hS => ?_)
  have e6 : k = 0 → x6 = bb := e6
  have hC := hCk _ _ hC hk
  have hO := wO_kept hO hMo hk
  obtain ⟨sp, wr, le, wh, tz, dg, fa, hM⟩ := hM
  have hDM := q_D2 (ws' := wRo r z.cI (nI k) sn hs len sp wr le wh tz dg T fa fv fn fx) hDR rfl
  refine lv_istore (lv' := [(6, .int x6), (5, .int (nI k)), (4, .int (nI i)), (3, .ref oa), (2, .ref r.1), (1, .ref z.o), (0, .ref b)]) hx hb dL_law_810 hl (by decide) rfl (fun ls hl => ?_)
  refine lv_aload_n hx hb dL_law_812 rfl (lv_at hl 4 rfl) ?_
  refine q_ciK (BH := fun H => va_P D vwCl (wRo r z.cI (nI k) sn hs len sp wr le wh tz dg T fa fv fn fx) H) (va_runV (rm := { frames := 0, cells := 0, slots := 0, locals := 0 }) (As := []) (rest := []) ⟨hx, hb, hml, hown, hts⟩ (m3_thrown l D z.cI r.1 r.2.1 r.2.2.1 r.2.2.2.1 r.2.2.2.2.1 r.2.2.2.2.2 T fa fv fn fx (nI k) (nI sn) (nI hs) (nI len) sp wr le wh (nI tz) dg hDM) (cwV 0 hts gL_law_X3_thrown rfl rfl rfl (by decide +kernel) ⟨Nat.le_of_ble_eq_true rfl, Nat.le_of_ble_eq_true rfl⟩) (q_pV (ci := 3) (q0 := 0) hM (hK.sub [0] rfl) rfl rfl) rfl rfl hl.1 rfl (lv_room (Nat.le_of_ble_eq_true rfl)) dL_law_813 ⟨hcell, hslot⟩) (fun _ h => h) hS hAM (fun x7 H locs e7 hM hk hS => ?_)
  have e7 : nI k = x7 := Eq.symm e7
  subst e7
  have hC := hCk _ _ hC hk
  have hO := wO_kept hO hMo hk
  have hMS : MS r z.cI D (nI k) sn hs len T fv fn fx H := ⟨sp, wr, le, wh, tz, dg, fa, hM⟩
  refine lv_iload hx hb dL_law_816 (lv_at hl 1 rfl) ?_
  refine lv_icmp_eq (tgt := 823) hx hb dL_law_818 (by decide) (fun _ => ?_) (fun c => absurd rfl c)
  refine lv_iload hx hb dL_law_823 (lv_at hl 1 rfl) ?_
  refine lv_if_ne (tgt := 840) hx hb dL_law_825 (by decide) (fun c1 => ?_) (fun c1 => ?_)
  ·
    refine lv_goto (tgt := 1449) hx hb dL_law_840 (by decide) ?_
    exact kk _ _ _ hC hMS hO hS (lv_sub hl [2, 3, 4, 5, 6] rfl)
  ·
    refine lv_aload_n hx hb dL_law_828 rfl (lv_at hl 3 rfl) ?_
    refine lv_iconst (v := nI 0) hx hb dL_law_829 (by decide) ?_
    refine q_lld0 hx hb hK hO 2 rfl dL_law_830 ?_
    refine lv_iload hx hb dL_law_831 (lv_at hl 0 rfl) ?_
    refine lv_i2l (v := x6.toInt64) hx hb dL_law_833 rfl ?_
    refine W.lcmp hx hb dL_law_834 ?_
    have hk0 := nI_k0 hk4 c1
    refine lv_if_eq (tgt := 840) hx hb dL_law_835 (by decide) (fun _ => ?_) (fun c => absurd (by rw [hg hk0, e6 hk0]; exact lg_self _) c)
    refine lv_goto (tgt := 1449) hx hb dL_law_840 (by decide) ?_
    exact kk _ _ _ hC hMS hO hS (lv_sub hl [2, 3, 4, 5, 6] rfl)
set_option maxHeartbeats 4000000 in
set_option maxRecDepth 100000 in
theorem lw_guest {p : Program} {l : Launch} {e : Env} {s : State} {m : MethodId} {args : Array Value} {below : List Frame} {meth : Method} {c : Code} {H : Heap} {locs : List Loc} {cells slots : Nat} {Q : State → Prop} {ls : Array Slot} {D : va_G} {z : Ad} {r : Mo} {oa : Nat} {cJ : ClassId} {st : Nat → Nat} {A : Nat → Prop} {b L : Nat} {xs : Nat → Int32} (hLC : q_LC p s m c args l D z r oa cJ st A b L xs) {i : Nat} (hi : i + 5 ≤ L) {C0 C1 : Heap → Prop} {g g' : Int64} {k : Nat} {bb : Int32} {w0 : va_W} {fs0 : List Value} {sn hs len : Nat} {T fv fn fx : Nat → Int32} (hk4 : k < 4)
    (hXc : q_H l yL_guest wsL_guest { frames := 8, cells := 1, slots := 6, locals := 126 } [.ref z.o, .int (xs (i + 1)), .int (xs (i + 2)), .ref oa] st D z oa cJ C0 g k C1 g') (hCk : ∀ (H H1 : Heap), C1 H → (∀ q : Nat, q < H.size → ¬ AMo r q → H1[q]? = H[q]?) → C1 H1)
    (hMc : q_I l yX3_guest wsX3_guest { frames := 4, cells := 0, slots := 0, locals := 87 } [.ref r.1, .int (xs (i + 1)), .int (xs (i + 2))] (q_bp D w0 [(z.cI, .int)]) (fun v => k = 0 → v = bb) (MS r z.cI D (nI k) sn hs len T fv fn fx) (AMo r) 0 0) (hw0 : w0[0]? = some (r.1, .inr (3, fs0))) (hM0 : ∀ (k : Nat) (q : Nat × va_E), w0[k]? = some q → AMo r q.1)
    (hg : k = 0 → g' = bb.toInt64) (hC : C0 H) (hM : va_P D vwCl w0 H) (hO : va_P D vwCl (wO oa cJ g) H) (hS : va_S A s.heap H locs) (hl : lv_has ls 9 (q_lvL z r oa b i)) (hcell : cells + 1 ≤ 601024) (hslot : slots + 6 ≤ 7293034)
    (kk : ∀ (H1 : Heap) (locs1 : List Loc) (ls1 : Array Slot), C1 H1 → MS r z.cI D (nI k) sn hs len T fv fn fx H1 → va_P D vwCl (wO oa cJ g') H1 → va_S A s.heap H1 locs1 → lv_has ls1 9 (q_lvL z r oa b i) → W p l e room_1 s m args below meth c H1 locs1 (cells + 1) (slots + 6) Q (F0 m 1449 ls1 [])) :
    W p l e room_1 s m args below meth c H locs cells slots Q (F0 m 843 ls []) := by
  obtain ⟨⟨hx, hb, hml, hts, hown⟩, ⟨hl9, hK, hT⟩, ⟨hX, hbl, hbA, hL⟩, ⟨hAX, hAM, hAo, hXM, hMX, hMo, hoa⟩, hDX, hDR⟩ := hLC
  have hAXo : ∀ q, AXo z oa q → A q := fun q h => h.elim (hAX q) (fun e => by rw [e]; exact hAo)
  refine lv_aload_n hx hb dL_law_843 rfl (lv_at hl 3 rfl) ?_
  refine lv_aload_n hx hb dL_law_844 rfl (lv_at hl 4 rfl) ?_
  refine lv_iload hx hb dL_law_845 (lv_at hl 0 rfl) ?_
  refine lv_iconst (v := nI 1) hx hb dL_law_847 (by decide) ?_
  refine q_addN hx hb (i + 1) rfl dL_law_848 ?_
  refine q_sld hx hb hX hbl hbA hS (j := i + 1) (by omega) hL dL_law_849 ?_
  refine lv_aload_n hx hb dL_law_850 rfl (lv_at hl 4 rfl) ?_
  refine lv_iload hx hb dL_law_851 (lv_at hl 0 rfl) ?_
  refine lv_iconst (v := nI 2) hx hb dL_law_853 (by decide) ?_
  refine q_addN hx hb (i + 2) rfl dL_law_854 ?_
  refine q_sld hx hb hX hbl hbA hS (j := i + 2) (by omega) hL dL_law_855 ?_
  refine lv_aload_n hx hb dL_law_856 rfl (lv_at hl 1 rfl) ?_
  refine q_ciK (BH := fun H => C1 H ∧ va_P D vwCl (wO oa cJ g') H) (vx_runSW (rm := { frames := 8, cells := 1, slots := 6, locals := 126 }) (As := [.ref z.o, .int (xs (i + 1)), .int (xs (i + 2)), .ref oa]) (rest := []) ⟨hx, hb, hml, hown, hts⟩ hXc (vx_cwSW (hh := [(0, 10, 13, 13), (0, 10, 17, 15)]) 4 hts gL_law_L_guest rfl rfl rfl (by decide +kernel) ⟨Nat.le_of_ble_eq_true rfl, Nat.le_of_ble_eq_true rfl⟩) (q_pSH hC hO hK hT hS hAXo) rfl rfl hl.1 rfl (lv_room (Nat.le_of_ble_eq_true rfl)) dL_law_857 ⟨hcell, hslot⟩) (fun _ h => h) hS hAXo (fun x5 H locs e5 hCO hk hS => ?_)
  obtain ⟨hC, hO⟩ := hCO
  have e5 : nI k = x5 := Eq.symm e5
  subst e5
  have hM := hM.keptA hM0 hMX hk
  refine lv_istore (lv' := [(5, .int (nI k)), (4, .int (nI i)), (3, .ref oa), (2, .ref r.1), (1, .ref z.o), (0, .ref b)]) hx hb dL_law_860 hl (by decide) rfl (fun ls hl => ?_)
  refine lv_aload_n hx hb dL_law_862 rfl (lv_at hl 3 rfl) ?_
  refine lv_aload_n hx hb dL_law_863 rfl (lv_at hl 5 rfl) ?_
  refine lv_iload hx hb dL_law_864 (lv_at hl 1 rfl) ?_
  refine lv_iconst (v := nI 1) hx hb dL_law_866 (by decide) ?_
  refine q_addN hx hb (i + 1) rfl dL_law_867 ?_
  refine q_sld hx hb hX hbl hbA hS (j := i + 1) (by omega) hL dL_law_868 ?_
  refine lv_aload_n hx hb dL_law_869 rfl (lv_at hl 5 rfl) ?_
  refine lv_iload hx hb dL_law_870 (lv_at hl 1 rfl) ?_
  refine lv_iconst (v := nI 2) hx hb dL_law_872 (by decide) ?_
  refine q_addN hx hb (i + 2) rfl dL_law_873 ?_
  refine q_sld hx hb hX hbl hbA hS (j := i + 2) (by omega) hL dL_law_874 ?_
  refine q_ciK (BH := MS r z.cI D (nI k) sn hs len T fv fn fx) (va_runV (rm := { frames := 4, cells := 0, slots := 0, locals := 87 }) (As := [.int (xs (i + 1)), .int (xs (i + 2))]) (rest := []) ⟨hx, hb, hml, hown, hts⟩ hMc (cwV 2 hts gL_law_X3_guest rfl rfl rfl (by decide +kernel) ⟨Nat.le_of_ble_eq_true rfl, Nat.le_of_ble_eq_true rfl⟩) (q_pV (ci := 3) (q0 := 0) hM (hK.sub [0] rfl) rfl hw0) rfl rfl hl.1 rfl (lv_room (Nat.le_of_ble_eq_true rfl)) dL_law_875 ⟨hcell, hslot⟩) (fun _ h => h) hS hAM (fun x6 H locs e6 hM hk hS => ?_)
  have e6 : k = 0 → x6 = bb := e6
  have hC := hCk _ _ hC hk
  have hO := wO_kept hO hMo hk
  obtain ⟨sp, wr, le, wh, tz, dg, fa, hM⟩ := hM
  have hDM := q_D2 (ws' := wRo r z.cI (nI k) sn hs len sp wr le wh tz dg T fa fv fn fx) hDR rfl
  refine lv_istore (lv' := [(6, .int x6), (5, .int (nI k)), (4, .int (nI i)), (3, .ref oa), (2, .ref r.1), (1, .ref z.o), (0, .ref b)]) hx hb dL_law_878 hl (by decide) rfl (fun ls hl => ?_)
  refine lv_aload_n hx hb dL_law_880 rfl (lv_at hl 4 rfl) ?_
  refine q_ciK (BH := fun H => va_P D vwCl (wRo r z.cI (nI k) sn hs len sp wr le wh tz dg T fa fv fn fx) H) (va_runV (rm := { frames := 0, cells := 0, slots := 0, locals := 0 }) (As := []) (rest := []) ⟨hx, hb, hml, hown, hts⟩ (m3_thrown l D z.cI r.1 r.2.1 r.2.2.1 r.2.2.2.1 r.2.2.2.2.1 r.2.2.2.2.2 T fa fv fn fx (nI k) (nI sn) (nI hs) (nI len) sp wr le wh (nI tz) dg hDM) (cwV 0 hts gL_law_X3_thrown rfl rfl rfl (by decide +kernel) ⟨Nat.le_of_ble_eq_true rfl, Nat.le_of_ble_eq_true rfl⟩) (q_pV (ci := 3) (q0 := 0) hM (hK.sub [0] rfl) rfl rfl) rfl rfl hl.1 rfl (lv_room (Nat.le_of_ble_eq_true rfl)) dL_law_881 ⟨hcell, hslot⟩) (fun _ h => h) hS hAM (fun x7 H locs e7 hM hk hS => ?_)
  have e7 : nI k = x7 := Eq.symm e7
  subst e7
  have hC := hCk _ _ hC hk
  have hO := wO_kept hO hMo hk
  have hMS : MS r z.cI D (nI k) sn hs len T fv fn fx H := ⟨sp, wr, le, wh, tz, dg, fa, hM⟩
  refine lv_iload hx hb dL_law_884 (lv_at hl 1 rfl) ?_
  refine lv_icmp_eq (tgt := 891) hx hb dL_law_886 (by decide) (fun _ => ?_) (fun c => absurd rfl c)
  refine lv_iload hx hb dL_law_891 (lv_at hl 1 rfl) ?_
  refine lv_if_ne (tgt := 908) hx hb dL_law_893 (by decide) (fun c1 => ?_) (fun c1 => ?_)
  ·
    refine lv_goto (tgt := 1449) hx hb dL_law_908 (by decide) ?_
    exact kk _ _ _ hC hMS hO hS (lv_sub hl [2, 3, 4, 5, 6] rfl)
  ·
    refine lv_aload_n hx hb dL_law_896 rfl (lv_at hl 3 rfl) ?_
    refine lv_iconst (v := nI 0) hx hb dL_law_897 (by decide) ?_
    refine q_lld0 hx hb hK hO 2 rfl dL_law_898 ?_
    refine lv_iload hx hb dL_law_899 (lv_at hl 0 rfl) ?_
    refine lv_i2l (v := x6.toInt64) hx hb dL_law_901 rfl ?_
    refine W.lcmp hx hb dL_law_902 ?_
    have hk0 := nI_k0 hk4 c1
    refine lv_if_eq (tgt := 908) hx hb dL_law_903 (by decide) (fun _ => ?_) (fun c => absurd (by rw [hg hk0, e6 hk0]; exact lg_self _) c)
    refine lv_goto (tgt := 1449) hx hb dL_law_908 (by decide) ?_
    exact kk _ _ _ hC hMS hO hS (lv_sub hl [2, 3, 4, 5, 6] rfl)
set_option maxHeartbeats 4000000 in
set_option maxRecDepth 100000 in
theorem lw_pot {p : Program} {l : Launch} {e : Env} {s : State} {m : MethodId} {args : Array Value} {below : List Frame} {meth : Method} {c : Code} {H : Heap} {locs : List Loc} {cells slots : Nat} {Q : State → Prop} {ls : Array Slot} {D : va_G} {z : Ad} {r : Mo} {oa : Nat} {cJ : ClassId} {st : Nat → Nat} {A : Nat → Prop} {b L : Nat} {xs : Nat → Int32} (hLC : q_LC p s m c args l D z r oa cJ st A b L xs) {i : Nat} (hi : i + 5 ≤ L) {C0 C1 : Heap → Prop} {g g' : Int64} {k : Nat} {bb : Int32} {w0 : va_W} {fs0 : List Value} {sn hs len : Nat} {T fv fn fx : Nat → Int32} (hk4 : k < 4)
    (hXc : q_H l yL_pot wsL_pot { frames := 8, cells := 1, slots := 6, locals := 126 } [.ref z.o, .int (xs (i + 1)), .int (xs (i + 2)), .ref oa] st D z oa cJ C0 g k C1 g') (hCk : ∀ (H H1 : Heap), C1 H → (∀ q : Nat, q < H.size → ¬ AMo r q → H1[q]? = H[q]?) → C1 H1)
    (hMc : q_I l yX3_pot wsX3_pot { frames := 4, cells := 0, slots := 0, locals := 86 } [.ref r.1, .int (xs (i + 1)), .int (xs (i + 2))] (q_bp D w0 [(z.cI, .int)]) (fun v => k = 0 → v = bb) (MS r z.cI D (nI k) sn hs len T fv fn fx) (AMo r) 0 0) (hw0 : w0[0]? = some (r.1, .inr (3, fs0))) (hM0 : ∀ (k : Nat) (q : Nat × va_E), w0[k]? = some q → AMo r q.1)
    (hg : k = 0 → g' = bb.toInt64) (hC : C0 H) (hM : va_P D vwCl w0 H) (hO : va_P D vwCl (wO oa cJ g) H) (hS : va_S A s.heap H locs) (hl : lv_has ls 9 (q_lvL z r oa b i)) (hcell : cells + 1 ≤ 601024) (hslot : slots + 6 ≤ 7293034)
    (kk : ∀ (H1 : Heap) (locs1 : List Loc) (ls1 : Array Slot), C1 H1 → MS r z.cI D (nI k) sn hs len T fv fn fx H1 → va_P D vwCl (wO oa cJ g') H1 → va_S A s.heap H1 locs1 → lv_has ls1 9 (q_lvL z r oa b i) → W p l e room_1 s m args below meth c H1 locs1 (cells + 1) (slots + 6) Q (F0 m 1449 ls1 [])) :
    W p l e room_1 s m args below meth c H locs cells slots Q (F0 m 911 ls []) := by
  obtain ⟨⟨hx, hb, hml, hts, hown⟩, ⟨hl9, hK, hT⟩, ⟨hX, hbl, hbA, hL⟩, ⟨hAX, hAM, hAo, hXM, hMX, hMo, hoa⟩, hDX, hDR⟩ := hLC
  have hAXo : ∀ q, AXo z oa q → A q := fun q h => h.elim (hAX q) (fun e => by rw [e]; exact hAo)
  refine lv_aload_n hx hb dL_law_911 rfl (lv_at hl 3 rfl) ?_
  refine lv_aload_n hx hb dL_law_912 rfl (lv_at hl 4 rfl) ?_
  refine lv_iload hx hb dL_law_913 (lv_at hl 0 rfl) ?_
  refine lv_iconst (v := nI 1) hx hb dL_law_915 (by decide) ?_
  refine q_addN hx hb (i + 1) rfl dL_law_916 ?_
  refine q_sld hx hb hX hbl hbA hS (j := i + 1) (by omega) hL dL_law_917 ?_
  refine lv_aload_n hx hb dL_law_918 rfl (lv_at hl 4 rfl) ?_
  refine lv_iload hx hb dL_law_919 (lv_at hl 0 rfl) ?_
  refine lv_iconst (v := nI 2) hx hb dL_law_921 (by decide) ?_
  refine q_addN hx hb (i + 2) rfl dL_law_922 ?_
  refine q_sld hx hb hX hbl hbA hS (j := i + 2) (by omega) hL dL_law_923 ?_
  refine lv_aload_n hx hb dL_law_924 rfl (lv_at hl 1 rfl) ?_
  refine q_ciK (BH := fun H => C1 H ∧ va_P D vwCl (wO oa cJ g') H) (vx_runSW (rm := { frames := 8, cells := 1, slots := 6, locals := 126 }) (As := [.ref z.o, .int (xs (i + 1)), .int (xs (i + 2)), .ref oa]) (rest := []) ⟨hx, hb, hml, hown, hts⟩ hXc (vx_cwSW (hh := [(0, 10, 13, 13), (0, 10, 17, 15)]) 4 hts gL_law_L_pot rfl rfl rfl (by decide +kernel) ⟨Nat.le_of_ble_eq_true rfl, Nat.le_of_ble_eq_true rfl⟩) (q_pSH hC hO hK hT hS hAXo) rfl rfl hl.1 rfl (lv_room (Nat.le_of_ble_eq_true rfl)) dL_law_925 ⟨hcell, hslot⟩) (fun _ h => h) hS hAXo (fun x5 H locs e5 hCO hk hS => ?_)
  obtain ⟨hC, hO⟩ := hCO
  have e5 : nI k = x5 := Eq.symm e5
  subst e5
  have hM := hM.keptA hM0 hMX hk
  refine lv_istore (lv' := [(5, .int (nI k)), (4, .int (nI i)), (3, .ref oa), (2, .ref r.1), (1, .ref z.o), (0, .ref b)]) hx hb dL_law_928 hl (by decide) rfl (fun ls hl => ?_)
  refine lv_aload_n hx hb dL_law_930 rfl (lv_at hl 3 rfl) ?_
  refine lv_aload_n hx hb dL_law_931 rfl (lv_at hl 5 rfl) ?_
  refine lv_iload hx hb dL_law_932 (lv_at hl 1 rfl) ?_
  refine lv_iconst (v := nI 1) hx hb dL_law_934 (by decide) ?_
  refine q_addN hx hb (i + 1) rfl dL_law_935 ?_
  refine q_sld hx hb hX hbl hbA hS (j := i + 1) (by omega) hL dL_law_936 ?_
  refine lv_aload_n hx hb dL_law_937 rfl (lv_at hl 5 rfl) ?_
  refine lv_iload hx hb dL_law_938 (lv_at hl 1 rfl) ?_
  refine lv_iconst (v := nI 2) hx hb dL_law_940 (by decide) ?_
  refine q_addN hx hb (i + 2) rfl dL_law_941 ?_
  refine q_sld hx hb hX hbl hbA hS (j := i + 2) (by omega) hL dL_law_942 ?_
  refine q_ciK (BH := MS r z.cI D (nI k) sn hs len T fv fn fx) (va_runV (rm := { frames := 4, cells := 0, slots := 0, locals := 86 }) (As := [.int (xs (i + 1)), .int (xs (i + 2))]) (rest := []) ⟨hx, hb, hml, hown, hts⟩ hMc (cwV 2 hts gL_law_X3_pot rfl rfl rfl (by decide +kernel) ⟨Nat.le_of_ble_eq_true rfl, Nat.le_of_ble_eq_true rfl⟩) (q_pV (ci := 3) (q0 := 0) hM (hK.sub [0] rfl) rfl hw0) rfl rfl hl.1 rfl (lv_room (Nat.le_of_ble_eq_true rfl)) dL_law_943 ⟨hcell, hslot⟩) (fun _ h => h) hS hAM (fun x6 H locs e6 hM hk hS => ?_)
  have e6 : k = 0 → x6 = bb := e6
  have hC := hCk _ _ hC hk
  have hO := wO_kept hO hMo hk
  obtain ⟨sp, wr, le, wh, tz, dg, fa, hM⟩ := hM
  have hDM := q_D2 (ws' := wRo r z.cI (nI k) sn hs len sp wr le wh tz dg T fa fv fn fx) hDR rfl
  refine lv_istore (lv' := [(6, .int x6), (5, .int (nI k)), (4, .int (nI i)), (3, .ref oa), (2, .ref r.1), (1, .ref z.o), (0, .ref b)]) hx hb dL_law_946 hl (by decide) rfl (fun ls hl => ?_)
  refine lv_aload_n hx hb dL_law_948 rfl (lv_at hl 4 rfl) ?_
  refine q_ciK (BH := fun H => va_P D vwCl (wRo r z.cI (nI k) sn hs len sp wr le wh tz dg T fa fv fn fx) H) (va_runV (rm := { frames := 0, cells := 0, slots := 0, locals := 0 }) (As := []) (rest := []) ⟨hx, hb, hml, hown, hts⟩ (m3_thrown l D z.cI r.1 r.2.1 r.2.2.1 r.2.2.2.1 r.2.2.2.2.1 r.2.2.2.2.2 T fa fv fn fx (nI k) (nI sn) (nI hs) (nI len) sp wr le wh (nI tz) dg hDM) (cwV 0 hts gL_law_X3_thrown rfl rfl rfl (by decide +kernel) ⟨Nat.le_of_ble_eq_true rfl, Nat.le_of_ble_eq_true rfl⟩) (q_pV (ci := 3) (q0 := 0) hM (hK.sub [0] rfl) rfl rfl) rfl rfl hl.1 rfl (lv_room (Nat.le_of_ble_eq_true rfl)) dL_law_949 ⟨hcell, hslot⟩) (fun _ h => h) hS hAM (fun x7 H locs e7 hM hk hS => ?_)
  have e7 : nI k = x7 := Eq.symm e7
  subst e7
  have hC := hCk _ _ hC hk
  have hO := wO_kept hO hMo hk
  have hMS : MS r z.cI D (nI k) sn hs len T fv fn fx H := ⟨sp, wr, le, wh, tz, dg, fa, hM⟩
  refine lv_iload hx hb dL_law_952 (lv_at hl 1 rfl) ?_
  refine lv_icmp_eq (tgt := 959) hx hb dL_law_954 (by decide) (fun _ => ?_) (fun c => absurd rfl c)
  refine lv_iload hx hb dL_law_959 (lv_at hl 1 rfl) ?_
  refine lv_if_ne (tgt := 976) hx hb dL_law_961 (by decide) (fun c1 => ?_) (fun c1 => ?_)
  ·
    refine lv_goto (tgt := 1449) hx hb dL_law_976 (by decide) ?_
    exact kk _ _ _ hC hMS hO hS (lv_sub hl [2, 3, 4, 5, 6] rfl)
  ·
    refine lv_aload_n hx hb dL_law_964 rfl (lv_at hl 3 rfl) ?_
    refine lv_iconst (v := nI 0) hx hb dL_law_965 (by decide) ?_
    refine q_lld0 hx hb hK hO 2 rfl dL_law_966 ?_
    refine lv_iload hx hb dL_law_967 (lv_at hl 0 rfl) ?_
    refine lv_i2l (v := x6.toInt64) hx hb dL_law_969 rfl ?_
    refine W.lcmp hx hb dL_law_970 ?_
    have hk0 := nI_k0 hk4 c1
    refine lv_if_eq (tgt := 976) hx hb dL_law_971 (by decide) (fun _ => ?_) (fun c => absurd (by rw [hg hk0, e6 hk0]; exact lg_self _) c)
    refine lv_goto (tgt := 1449) hx hb dL_law_976 (by decide) ?_
    exact kk _ _ _ hC hMS hO hS (lv_sub hl [2, 3, 4, 5, 6] rfl)
set_option maxHeartbeats 4000000 in
set_option maxRecDepth 100000 in
theorem lw_told {p : Program} {l : Launch} {e : Env} {s : State} {m : MethodId} {args : Array Value} {below : List Frame} {meth : Method} {c : Code} {H : Heap} {locs : List Loc} {cells slots : Nat} {Q : State → Prop} {ls : Array Slot} {D : va_G} {z : Ad} {r : Mo} {oa : Nat} {cJ : ClassId} {st : Nat → Nat} {A : Nat → Prop} {b L : Nat} {xs : Nat → Int32} (hLC : q_LC p s m c args l D z r oa cJ st A b L xs) {i : Nat} (hi : i + 5 ≤ L) {C0 C1 : Heap → Prop} {g g' : Int64} {k : Nat} {bb : Int32} {w0 : va_W} {fs0 : List Value} {sn hs len : Nat} {T fv fn fx : Nat → Int32} (hk4 : k < 4)
    (hXc : q_H l yL_told wsL_told { frames := 8, cells := 1, slots := 6, locals := 124 } [.ref z.o, .int (xs (i + 1)), .int (xs (i + 2)), .ref oa] st D z oa cJ C0 g k C1 g') (hCk : ∀ (H H1 : Heap), C1 H → (∀ q : Nat, q < H.size → ¬ AMo r q → H1[q]? = H[q]?) → C1 H1)
    (hMc : q_I l yX3_told wsX3_told { frames := 2, cells := 0, slots := 0, locals := 42 } [.ref r.1, .int (xs (i + 1)), .int (xs (i + 2))] (q_bp D w0 [(z.cI, .int)]) (fun v => k = 0 → v = bb) (MS r z.cI D (nI k) sn hs len T fv fn fx) (AMo r) 0 0) (hw0 : w0[0]? = some (r.1, .inr (3, fs0))) (hM0 : ∀ (k : Nat) (q : Nat × va_E), w0[k]? = some q → AMo r q.1)
    (hg : k = 0 → g' = bb.toInt64) (hC : C0 H) (hM : va_P D vwCl w0 H) (hO : va_P D vwCl (wO oa cJ g) H) (hS : va_S A s.heap H locs) (hl : lv_has ls 9 (q_lvL z r oa b i)) (hcell : cells + 1 ≤ 601024) (hslot : slots + 6 ≤ 7293034)
    (kk : ∀ (H1 : Heap) (locs1 : List Loc) (ls1 : Array Slot), C1 H1 → MS r z.cI D (nI k) sn hs len T fv fn fx H1 → va_P D vwCl (wO oa cJ g') H1 → va_S A s.heap H1 locs1 → lv_has ls1 9 (q_lvL z r oa b i) → W p l e room_1 s m args below meth c H1 locs1 (cells + 1) (slots + 6) Q (F0 m 1449 ls1 [])) :
    W p l e room_1 s m args below meth c H locs cells slots Q (F0 m 979 ls []) := by
  obtain ⟨⟨hx, hb, hml, hts, hown⟩, ⟨hl9, hK, hT⟩, ⟨hX, hbl, hbA, hL⟩, ⟨hAX, hAM, hAo, hXM, hMX, hMo, hoa⟩, hDX, hDR⟩ := hLC
  have hAXo : ∀ q, AXo z oa q → A q := fun q h => h.elim (hAX q) (fun e => by rw [e]; exact hAo)
  refine lv_aload_n hx hb dL_law_979 rfl (lv_at hl 3 rfl) ?_
  refine lv_aload_n hx hb dL_law_980 rfl (lv_at hl 4 rfl) ?_
  refine lv_iload hx hb dL_law_981 (lv_at hl 0 rfl) ?_
  refine lv_iconst (v := nI 1) hx hb dL_law_983 (by decide) ?_
  refine q_addN hx hb (i + 1) rfl dL_law_984 ?_
  refine q_sld hx hb hX hbl hbA hS (j := i + 1) (by omega) hL dL_law_985 ?_
  refine lv_aload_n hx hb dL_law_986 rfl (lv_at hl 4 rfl) ?_
  refine lv_iload hx hb dL_law_987 (lv_at hl 0 rfl) ?_
  refine lv_iconst (v := nI 2) hx hb dL_law_989 (by decide) ?_
  refine q_addN hx hb (i + 2) rfl dL_law_990 ?_
  refine q_sld hx hb hX hbl hbA hS (j := i + 2) (by omega) hL dL_law_991 ?_
  refine lv_aload_n hx hb dL_law_992 rfl (lv_at hl 1 rfl) ?_
  refine q_ciK (BH := fun H => C1 H ∧ va_P D vwCl (wO oa cJ g') H) (vx_runSW (rm := { frames := 8, cells := 1, slots := 6, locals := 124 }) (As := [.ref z.o, .int (xs (i + 1)), .int (xs (i + 2)), .ref oa]) (rest := []) ⟨hx, hb, hml, hown, hts⟩ hXc (vx_cwSW (hh := [(0, 10, 13, 13)]) 4 hts gL_law_L_told rfl rfl rfl (by decide +kernel) ⟨Nat.le_of_ble_eq_true rfl, Nat.le_of_ble_eq_true rfl⟩) (q_pSH hC hO hK hT hS hAXo) rfl rfl hl.1 rfl (lv_room (Nat.le_of_ble_eq_true rfl)) dL_law_993 ⟨hcell, hslot⟩) (fun _ h => h) hS hAXo (fun x5 H locs e5 hCO hk hS => ?_)
  obtain ⟨hC, hO⟩ := hCO
  have e5 : nI k = x5 := Eq.symm e5
  subst e5
  have hM := hM.keptA hM0 hMX hk
  refine lv_istore (lv' := [(5, .int (nI k)), (4, .int (nI i)), (3, .ref oa), (2, .ref r.1), (1, .ref z.o), (0, .ref b)]) hx hb dL_law_996 hl (by decide) rfl (fun ls hl => ?_)
  refine lv_aload_n hx hb dL_law_998 rfl (lv_at hl 3 rfl) ?_
  refine lv_aload_n hx hb dL_law_999 rfl (lv_at hl 5 rfl) ?_
  refine lv_iload hx hb dL_law_1000 (lv_at hl 1 rfl) ?_
  refine lv_iconst (v := nI 1) hx hb dL_law_1002 (by decide) ?_
  refine q_addN hx hb (i + 1) rfl dL_law_1003 ?_
  refine q_sld hx hb hX hbl hbA hS (j := i + 1) (by omega) hL dL_law_1004 ?_
  refine lv_aload_n hx hb dL_law_1005 rfl (lv_at hl 5 rfl) ?_
  refine lv_iload hx hb dL_law_1006 (lv_at hl 1 rfl) ?_
  refine lv_iconst (v := nI 2) hx hb dL_law_1008 (by decide) ?_
  refine q_addN hx hb (i + 2) rfl dL_law_1009 ?_
  refine q_sld hx hb hX hbl hbA hS (j := i + 2) (by omega) hL dL_law_1010 ?_
  refine q_ciK (BH := MS r z.cI D (nI k) sn hs len T fv fn fx) (va_runV (rm := { frames := 2, cells := 0, slots := 0, locals := 42 }) (As := [.int (xs (i + 1)), .int (xs (i + 2))]) (rest := []) ⟨hx, hb, hml, hown, hts⟩ hMc (cwV 2 hts gL_law_X3_told rfl rfl rfl (by decide +kernel) ⟨Nat.le_of_ble_eq_true rfl, Nat.le_of_ble_eq_true rfl⟩) (q_pV (ci := 3) (q0 := 0) hM (hK.sub [0] rfl) rfl hw0) rfl rfl hl.1 rfl (lv_room (Nat.le_of_ble_eq_true rfl)) dL_law_1011 ⟨hcell, hslot⟩) (fun _ h => h) hS hAM (fun x6 H locs e6 hM hk hS => ?_)
  have e6 : k = 0 → x6 = bb := e6
  have hC := hCk _ _ hC hk
  have hO := wO_kept hO hMo hk
  obtain ⟨sp, wr, le, wh, tz, dg, fa, hM⟩ := hM
  have hDM := q_D2 (ws' := wRo r z.cI (nI k) sn hs len sp wr le wh tz dg T fa fv fn fx) hDR rfl
  refine lv_istore (lv' := [(6, .int x6), (5, .int (nI k)), (4, .int (nI i)), (3, .ref oa), (2, .ref r.1), (1, .ref z.o), (0, .ref b)]) hx hb dL_law_1014 hl (by decide) rfl (fun ls hl => ?_)
  refine lv_aload_n hx hb dL_law_1016 rfl (lv_at hl 4 rfl) ?_
  refine q_ciK (BH := fun H => va_P D vwCl (wRo r z.cI (nI k) sn hs len sp wr le wh tz dg T fa fv fn fx) H) (va_runV (rm := { frames := 0, cells := 0, slots := 0, locals := 0 }) (As := []) (rest := []) ⟨hx, hb, hml, hown, hts⟩ (m3_thrown l D z.cI r.1 r.2.1 r.2.2.1 r.2.2.2.1 r.2.2.2.2.1 r.2.2.2.2.2 T fa fv fn fx (nI k) (nI sn) (nI hs) (nI len) sp wr le wh (nI tz) dg hDM) (cwV 0 hts gL_law_X3_thrown rfl rfl rfl (by decide +kernel) ⟨Nat.le_of_ble_eq_true rfl, Nat.le_of_ble_eq_true rfl⟩) (q_pV (ci := 3) (q0 := 0) hM (hK.sub [0] rfl) rfl rfl) rfl rfl hl.1 rfl (lv_room (Nat.le_of_ble_eq_true rfl)) dL_law_1017 ⟨hcell, hslot⟩) (fun _ h => h) hS hAM (fun x7 H locs e7 hM hk hS => ?_)
  have e7 : nI k = x7 := Eq.symm e7
  subst e7
  have hC := hCk _ _ hC hk
  have hO := wO_kept hO hMo hk
  have hMS : MS r z.cI D (nI k) sn hs len T fv fn fx H := ⟨sp, wr, le, wh, tz, dg, fa, hM⟩
  refine lv_iload hx hb dL_law_1020 (lv_at hl 1 rfl) ?_
  refine lv_icmp_eq (tgt := 1027) hx hb dL_law_1022 (by decide) (fun _ => ?_) (fun c => absurd rfl c)
  refine lv_iload hx hb dL_law_1027 (lv_at hl 1 rfl) ?_
  refine lv_if_ne (tgt := 1044) hx hb dL_law_1029 (by decide) (fun c1 => ?_) (fun c1 => ?_)
  ·
    refine lv_goto (tgt := 1449) hx hb dL_law_1044 (by decide) ?_
    exact kk _ _ _ hC hMS hO hS (lv_sub hl [2, 3, 4, 5, 6] rfl)
  ·
    refine lv_aload_n hx hb dL_law_1032 rfl (lv_at hl 3 rfl) ?_
    refine lv_iconst (v := nI 0) hx hb dL_law_1033 (by decide) ?_
    refine q_lld0 hx hb hK hO 2 rfl dL_law_1034 ?_
    refine lv_iload hx hb dL_law_1035 (lv_at hl 0 rfl) ?_
    refine lv_i2l (v := x6.toInt64) hx hb dL_law_1037 rfl ?_
    refine W.lcmp hx hb dL_law_1038 ?_
    have hk0 := nI_k0 hk4 c1
    refine lv_if_eq (tgt := 1044) hx hb dL_law_1039 (by decide) (fun _ => ?_) (fun c => absurd (by rw [hg hk0, e6 hk0]; exact lg_self _) c)
    refine lv_goto (tgt := 1449) hx hb dL_law_1044 (by decide) ?_
    exact kk _ _ _ hC hMS hO hS (lv_sub hl [2, 3, 4, 5, 6] rfl)
set_option maxHeartbeats 4000000 in
set_option maxRecDepth 100000 in
theorem lw_tale {p : Program} {l : Launch} {e : Env} {s : State} {m : MethodId} {args : Array Value} {below : List Frame} {meth : Method} {c : Code} {H : Heap} {locs : List Loc} {cells slots : Nat} {Q : State → Prop} {ls : Array Slot} {D : va_G} {z : Ad} {r : Mo} {oa : Nat} {cJ : ClassId} {st : Nat → Nat} {A : Nat → Prop} {b L : Nat} {xs : Nat → Int32} (hLC : q_LC p s m c args l D z r oa cJ st A b L xs) {i : Nat} (hi : i + 5 ≤ L) {C0 C1 : Heap → Prop} {g g' : Int64} {k : Nat} {bb : Int32} {w0 : va_W} {fs0 : List Value} {sn hs len : Nat} {T fv fn fx : Nat → Int32} (hk4 : k < 4)
    (hXc : q_H l yL_tale wsL_tale { frames := 8, cells := 1, slots := 6, locals := 127 } [.ref z.o, .int (xs (i + 1)), .int (xs (i + 2)), .ref oa] st D z oa cJ C0 g k C1 g') (hCk : ∀ (H H1 : Heap), C1 H → (∀ q : Nat, q < H.size → ¬ AMo r q → H1[q]? = H[q]?) → C1 H1)
    (hMc : q_I l yX3_tale wsX3_tale { frames := 1, cells := 0, slots := 0, locals := 22 } [.ref r.1, .int (xs (i + 1)), .int (xs (i + 2))] (q_bp D w0 [(z.cI, .int)]) (fun v => k = 0 → v = bb) (MS r z.cI D (nI k) sn hs len T fv fn fx) (AMo r) 0 0) (hw0 : w0[0]? = some (r.1, .inr (3, fs0))) (hM0 : ∀ (k : Nat) (q : Nat × va_E), w0[k]? = some q → AMo r q.1)
    (hg : k = 0 → g' = bb.toInt64) (hC : C0 H) (hM : va_P D vwCl w0 H) (hO : va_P D vwCl (wO oa cJ g) H) (hS : va_S A s.heap H locs) (hl : lv_has ls 9 (q_lvL z r oa b i)) (hcell : cells + 1 ≤ 601024) (hslot : slots + 6 ≤ 7293034)
    (kk : ∀ (H1 : Heap) (locs1 : List Loc) (ls1 : Array Slot), C1 H1 → MS r z.cI D (nI k) sn hs len T fv fn fx H1 → va_P D vwCl (wO oa cJ g') H1 → va_S A s.heap H1 locs1 → lv_has ls1 9 (q_lvL z r oa b i) → W p l e room_1 s m args below meth c H1 locs1 (cells + 1) (slots + 6) Q (F0 m 1449 ls1 [])) :
    W p l e room_1 s m args below meth c H locs cells slots Q (F0 m 1047 ls []) := by
  obtain ⟨⟨hx, hb, hml, hts, hown⟩, ⟨hl9, hK, hT⟩, ⟨hX, hbl, hbA, hL⟩, ⟨hAX, hAM, hAo, hXM, hMX, hMo, hoa⟩, hDX, hDR⟩ := hLC
  have hAXo : ∀ q, AXo z oa q → A q := fun q h => h.elim (hAX q) (fun e => by rw [e]; exact hAo)
  refine lv_aload_n hx hb dL_law_1047 rfl (lv_at hl 3 rfl) ?_
  refine lv_aload_n hx hb dL_law_1048 rfl (lv_at hl 4 rfl) ?_
  refine lv_iload hx hb dL_law_1049 (lv_at hl 0 rfl) ?_
  refine lv_iconst (v := nI 1) hx hb dL_law_1051 (by decide) ?_
  refine q_addN hx hb (i + 1) rfl dL_law_1052 ?_
  refine q_sld hx hb hX hbl hbA hS (j := i + 1) (by omega) hL dL_law_1053 ?_
  refine lv_aload_n hx hb dL_law_1054 rfl (lv_at hl 4 rfl) ?_
  refine lv_iload hx hb dL_law_1055 (lv_at hl 0 rfl) ?_
  refine lv_iconst (v := nI 2) hx hb dL_law_1057 (by decide) ?_
  refine q_addN hx hb (i + 2) rfl dL_law_1058 ?_
  refine q_sld hx hb hX hbl hbA hS (j := i + 2) (by omega) hL dL_law_1059 ?_
  refine lv_aload_n hx hb dL_law_1060 rfl (lv_at hl 1 rfl) ?_
  refine q_ciK (BH := fun H => C1 H ∧ va_P D vwCl (wO oa cJ g') H) (vx_runSW (rm := { frames := 8, cells := 1, slots := 6, locals := 127 }) (As := [.ref z.o, .int (xs (i + 1)), .int (xs (i + 2)), .ref oa]) (rest := []) ⟨hx, hb, hml, hown, hts⟩ hXc (vx_cwSW (hh := [(0, 10, 13, 13), (0, 10, 17, 15)]) 4 hts gL_law_L_tale rfl rfl rfl (by decide +kernel) ⟨Nat.le_of_ble_eq_true rfl, Nat.le_of_ble_eq_true rfl⟩) (q_pSH hC hO hK hT hS hAXo) rfl rfl hl.1 rfl (lv_room (Nat.le_of_ble_eq_true rfl)) dL_law_1061 ⟨hcell, hslot⟩) (fun _ h => h) hS hAXo (fun x5 H locs e5 hCO hk hS => ?_)
  obtain ⟨hC, hO⟩ := hCO
  have e5 : nI k = x5 := Eq.symm e5
  subst e5
  have hM := hM.keptA hM0 hMX hk
  refine lv_istore (lv' := [(5, .int (nI k)), (4, .int (nI i)), (3, .ref oa), (2, .ref r.1), (1, .ref z.o), (0, .ref b)]) hx hb dL_law_1064 hl (by decide) rfl (fun ls hl => ?_)
  refine lv_aload_n hx hb dL_law_1066 rfl (lv_at hl 3 rfl) ?_
  refine lv_aload_n hx hb dL_law_1067 rfl (lv_at hl 5 rfl) ?_
  refine lv_iload hx hb dL_law_1068 (lv_at hl 1 rfl) ?_
  refine lv_iconst (v := nI 1) hx hb dL_law_1070 (by decide) ?_
  refine q_addN hx hb (i + 1) rfl dL_law_1071 ?_
  refine q_sld hx hb hX hbl hbA hS (j := i + 1) (by omega) hL dL_law_1072 ?_
  refine lv_aload_n hx hb dL_law_1073 rfl (lv_at hl 5 rfl) ?_
  refine lv_iload hx hb dL_law_1074 (lv_at hl 1 rfl) ?_
  refine lv_iconst (v := nI 2) hx hb dL_law_1076 (by decide) ?_
  refine q_addN hx hb (i + 2) rfl dL_law_1077 ?_
  refine q_sld hx hb hX hbl hbA hS (j := i + 2) (by omega) hL dL_law_1078 ?_
  refine q_ciK (BH := MS r z.cI D (nI k) sn hs len T fv fn fx) (va_runV (rm := { frames := 1, cells := 0, slots := 0, locals := 22 }) (As := [.int (xs (i + 1)), .int (xs (i + 2))]) (rest := []) ⟨hx, hb, hml, hown, hts⟩ hMc (cwV 2 hts gL_law_X3_tale rfl rfl rfl (by decide +kernel) ⟨Nat.le_of_ble_eq_true rfl, Nat.le_of_ble_eq_true rfl⟩) (q_pV (ci := 3) (q0 := 0) hM (hK.sub [0] rfl) rfl hw0) rfl rfl hl.1 rfl (lv_room (Nat.le_of_ble_eq_true rfl)) dL_law_1079 ⟨hcell, hslot⟩) (fun _ h => h) hS hAM (fun x6 H locs e6 hM hk hS => ?_)
  have e6 : k = 0 → x6 = bb := e6
  have hC := hCk _ _ hC hk
  have hO := wO_kept hO hMo hk
  obtain ⟨sp, wr, le, wh, tz, dg, fa, hM⟩ := hM
  have hDM := q_D2 (ws' := wRo r z.cI (nI k) sn hs len sp wr le wh tz dg T fa fv fn fx) hDR rfl
  refine lv_istore (lv' := [(6, .int x6), (5, .int (nI k)), (4, .int (nI i)), (3, .ref oa), (2, .ref r.1), (1, .ref z.o), (0, .ref b)]) hx hb dL_law_1082 hl (by decide) rfl (fun ls hl => ?_)
  refine lv_aload_n hx hb dL_law_1084 rfl (lv_at hl 4 rfl) ?_
  refine q_ciK (BH := fun H => va_P D vwCl (wRo r z.cI (nI k) sn hs len sp wr le wh tz dg T fa fv fn fx) H) (va_runV (rm := { frames := 0, cells := 0, slots := 0, locals := 0 }) (As := []) (rest := []) ⟨hx, hb, hml, hown, hts⟩ (m3_thrown l D z.cI r.1 r.2.1 r.2.2.1 r.2.2.2.1 r.2.2.2.2.1 r.2.2.2.2.2 T fa fv fn fx (nI k) (nI sn) (nI hs) (nI len) sp wr le wh (nI tz) dg hDM) (cwV 0 hts gL_law_X3_thrown rfl rfl rfl (by decide +kernel) ⟨Nat.le_of_ble_eq_true rfl, Nat.le_of_ble_eq_true rfl⟩) (q_pV (ci := 3) (q0 := 0) hM (hK.sub [0] rfl) rfl rfl) rfl rfl hl.1 rfl (lv_room (Nat.le_of_ble_eq_true rfl)) dL_law_1085 ⟨hcell, hslot⟩) (fun _ h => h) hS hAM (fun x7 H locs e7 hM hk hS => ?_)
  have e7 : nI k = x7 := Eq.symm e7
  subst e7
  have hC := hCk _ _ hC hk
  have hO := wO_kept hO hMo hk
  have hMS : MS r z.cI D (nI k) sn hs len T fv fn fx H := ⟨sp, wr, le, wh, tz, dg, fa, hM⟩
  refine lv_iload hx hb dL_law_1088 (lv_at hl 1 rfl) ?_
  refine lv_icmp_eq (tgt := 1095) hx hb dL_law_1090 (by decide) (fun _ => ?_) (fun c => absurd rfl c)
  refine lv_iload hx hb dL_law_1095 (lv_at hl 1 rfl) ?_
  refine lv_if_ne (tgt := 1112) hx hb dL_law_1097 (by decide) (fun c1 => ?_) (fun c1 => ?_)
  ·
    refine lv_goto (tgt := 1449) hx hb dL_law_1112 (by decide) ?_
    exact kk _ _ _ hC hMS hO hS (lv_sub hl [2, 3, 4, 5, 6] rfl)
  ·
    refine lv_aload_n hx hb dL_law_1100 rfl (lv_at hl 3 rfl) ?_
    refine lv_iconst (v := nI 0) hx hb dL_law_1101 (by decide) ?_
    refine q_lld0 hx hb hK hO 2 rfl dL_law_1102 ?_
    refine lv_iload hx hb dL_law_1103 (lv_at hl 0 rfl) ?_
    refine lv_i2l (v := x6.toInt64) hx hb dL_law_1105 rfl ?_
    refine W.lcmp hx hb dL_law_1106 ?_
    have hk0 := nI_k0 hk4 c1
    refine lv_if_eq (tgt := 1112) hx hb dL_law_1107 (by decide) (fun _ => ?_) (fun c => absurd (by rw [hg hk0, e6 hk0]; exact lg_self _) c)
    refine lv_goto (tgt := 1449) hx hb dL_law_1112 (by decide) ?_
    exact kk _ _ _ hC hMS hO hS (lv_sub hl [2, 3, 4, 5, 6] rfl)
set_option maxHeartbeats 4000000 in
set_option maxRecDepth 100000 in
theorem lw_count {p : Program} {l : Launch} {e : Env} {s : State} {m : MethodId} {args : Array Value} {below : List Frame} {meth : Method} {c : Code} {H : Heap} {locs : List Loc} {cells slots : Nat} {Q : State → Prop} {ls : Array Slot} {D : va_G} {z : Ad} {r : Mo} {oa : Nat} {cJ : ClassId} {st : Nat → Nat} {A : Nat → Prop} {b L : Nat} {xs : Nat → Int32} (hLC : q_LC p s m c args l D z r oa cJ st A b L xs) {i : Nat} (hi : i + 5 ≤ L) {C0 C1 : Heap → Prop} {g g' : Int64} {k : Nat} {bb : Int32} {w0 : va_W} {fs0 : List Value} {sn hs len : Nat} {T fv fn fx : Nat → Int32} (hk4 : k < 4)
    (hXc : q_H l yL_count wsL_count { frames := 8, cells := 1, slots := 6, locals := 125 } [.ref z.o, .int (xs (i + 1)), .ref oa] st D z oa cJ C0 g k C1 g') (hCk : ∀ (H H1 : Heap), C1 H → (∀ q : Nat, q < H.size → ¬ AMo r q → H1[q]? = H[q]?) → C1 H1)
    (hMc : q_I l yX3_count wsX3_count { frames := 3, cells := 0, slots := 0, locals := 65 } [.ref r.1, .int (xs (i + 1))] (q_bp D w0 [(z.cI, .int)]) (fun v => k = 0 → v = bb) (MS r z.cI D (nI k) sn hs len T fv fn fx) (AMo r) 0 0) (hw0 : w0[0]? = some (r.1, .inr (3, fs0))) (hM0 : ∀ (k : Nat) (q : Nat × va_E), w0[k]? = some q → AMo r q.1)
    (hg : k = 0 → g' = bb.toInt64) (hC : C0 H) (hM : va_P D vwCl w0 H) (hO : va_P D vwCl (wO oa cJ g) H) (hS : va_S A s.heap H locs) (hl : lv_has ls 9 (q_lvL z r oa b i)) (hcell : cells + 1 ≤ 601024) (hslot : slots + 6 ≤ 7293034)
    (kk : ∀ (H1 : Heap) (locs1 : List Loc) (ls1 : Array Slot), C1 H1 → MS r z.cI D (nI k) sn hs len T fv fn fx H1 → va_P D vwCl (wO oa cJ g') H1 → va_S A s.heap H1 locs1 → lv_has ls1 9 (q_lvL z r oa b i) → W p l e room_1 s m args below meth c H1 locs1 (cells + 1) (slots + 6) Q (F0 m 1449 ls1 [])) :
    W p l e room_1 s m args below meth c H locs cells slots Q (F0 m 1115 ls []) := by
  obtain ⟨⟨hx, hb, hml, hts, hown⟩, ⟨hl9, hK, hT⟩, ⟨hX, hbl, hbA, hL⟩, ⟨hAX, hAM, hAo, hXM, hMX, hMo, hoa⟩, hDX, hDR⟩ := hLC
  have hAXo : ∀ q, AXo z oa q → A q := fun q h => h.elim (hAX q) (fun e => by rw [e]; exact hAo)
  refine lv_aload_n hx hb dL_law_1115 rfl (lv_at hl 3 rfl) ?_
  refine lv_aload_n hx hb dL_law_1116 rfl (lv_at hl 4 rfl) ?_
  refine lv_iload hx hb dL_law_1117 (lv_at hl 0 rfl) ?_
  refine lv_iconst (v := nI 1) hx hb dL_law_1119 (by decide) ?_
  refine q_addN hx hb (i + 1) rfl dL_law_1120 ?_
  refine q_sld hx hb hX hbl hbA hS (j := i + 1) (by omega) hL dL_law_1121 ?_
  refine lv_aload_n hx hb dL_law_1122 rfl (lv_at hl 1 rfl) ?_
  refine q_ciK (BH := fun H => C1 H ∧ va_P D vwCl (wO oa cJ g') H) (vx_runSW (rm := { frames := 8, cells := 1, slots := 6, locals := 125 }) (As := [.ref z.o, .int (xs (i + 1)), .ref oa]) (rest := []) ⟨hx, hb, hml, hown, hts⟩ hXc (vx_cwSW (hh := [(0, 9, 12, 15)]) 3 hts gL_law_L_count rfl rfl rfl (by decide +kernel) ⟨Nat.le_of_ble_eq_true rfl, Nat.le_of_ble_eq_true rfl⟩) (q_pSH hC hO hK hT hS hAXo) rfl rfl hl.1 rfl (lv_room (Nat.le_of_ble_eq_true rfl)) dL_law_1123 ⟨hcell, hslot⟩) (fun _ h => h) hS hAXo (fun x5 H locs e5 hCO hk hS => ?_)
  obtain ⟨hC, hO⟩ := hCO
  have e5 : nI k = x5 := Eq.symm e5
  subst e5
  have hM := hM.keptA hM0 hMX hk
  refine lv_istore (lv' := [(5, .int (nI k)), (4, .int (nI i)), (3, .ref oa), (2, .ref r.1), (1, .ref z.o), (0, .ref b)]) hx hb dL_law_1126 hl (by decide) rfl (fun ls hl => ?_)
  refine lv_aload_n hx hb dL_law_1128 rfl (lv_at hl 3 rfl) ?_
  refine lv_aload_n hx hb dL_law_1129 rfl (lv_at hl 5 rfl) ?_
  refine lv_iload hx hb dL_law_1130 (lv_at hl 1 rfl) ?_
  refine lv_iconst (v := nI 1) hx hb dL_law_1132 (by decide) ?_
  refine q_addN hx hb (i + 1) rfl dL_law_1133 ?_
  refine q_sld hx hb hX hbl hbA hS (j := i + 1) (by omega) hL dL_law_1134 ?_
  refine q_ciK (BH := MS r z.cI D (nI k) sn hs len T fv fn fx) (va_runV (rm := { frames := 3, cells := 0, slots := 0, locals := 65 }) (As := [.int (xs (i + 1))]) (rest := []) ⟨hx, hb, hml, hown, hts⟩ hMc (cwV 1 hts gL_law_X3_count rfl rfl rfl (by decide +kernel) ⟨Nat.le_of_ble_eq_true rfl, Nat.le_of_ble_eq_true rfl⟩) (q_pV (ci := 3) (q0 := 0) hM (hK.sub [0] rfl) rfl hw0) rfl rfl hl.1 rfl (lv_room (Nat.le_of_ble_eq_true rfl)) dL_law_1135 ⟨hcell, hslot⟩) (fun _ h => h) hS hAM (fun x6 H locs e6 hM hk hS => ?_)
  have e6 : k = 0 → x6 = bb := e6
  have hC := hCk _ _ hC hk
  have hO := wO_kept hO hMo hk
  obtain ⟨sp, wr, le, wh, tz, dg, fa, hM⟩ := hM
  have hDM := q_D2 (ws' := wRo r z.cI (nI k) sn hs len sp wr le wh tz dg T fa fv fn fx) hDR rfl
  refine lv_istore (lv' := [(6, .int x6), (5, .int (nI k)), (4, .int (nI i)), (3, .ref oa), (2, .ref r.1), (1, .ref z.o), (0, .ref b)]) hx hb dL_law_1138 hl (by decide) rfl (fun ls hl => ?_)
  refine lv_aload_n hx hb dL_law_1140 rfl (lv_at hl 4 rfl) ?_
  refine q_ciK (BH := fun H => va_P D vwCl (wRo r z.cI (nI k) sn hs len sp wr le wh tz dg T fa fv fn fx) H) (va_runV (rm := { frames := 0, cells := 0, slots := 0, locals := 0 }) (As := []) (rest := []) ⟨hx, hb, hml, hown, hts⟩ (m3_thrown l D z.cI r.1 r.2.1 r.2.2.1 r.2.2.2.1 r.2.2.2.2.1 r.2.2.2.2.2 T fa fv fn fx (nI k) (nI sn) (nI hs) (nI len) sp wr le wh (nI tz) dg hDM) (cwV 0 hts gL_law_X3_thrown rfl rfl rfl (by decide +kernel) ⟨Nat.le_of_ble_eq_true rfl, Nat.le_of_ble_eq_true rfl⟩) (q_pV (ci := 3) (q0 := 0) hM (hK.sub [0] rfl) rfl rfl) rfl rfl hl.1 rfl (lv_room (Nat.le_of_ble_eq_true rfl)) dL_law_1141 ⟨hcell, hslot⟩) (fun _ h => h) hS hAM (fun x7 H locs e7 hM hk hS => ?_)
  have e7 : nI k = x7 := Eq.symm e7
  subst e7
  have hC := hCk _ _ hC hk
  have hO := wO_kept hO hMo hk
  have hMS : MS r z.cI D (nI k) sn hs len T fv fn fx H := ⟨sp, wr, le, wh, tz, dg, fa, hM⟩
  refine lv_iload hx hb dL_law_1144 (lv_at hl 1 rfl) ?_
  refine lv_icmp_eq (tgt := 1151) hx hb dL_law_1146 (by decide) (fun _ => ?_) (fun c => absurd rfl c)
  refine lv_iload hx hb dL_law_1151 (lv_at hl 1 rfl) ?_
  refine lv_if_ne (tgt := 1168) hx hb dL_law_1153 (by decide) (fun c1 => ?_) (fun c1 => ?_)
  ·
    refine lv_goto (tgt := 1449) hx hb dL_law_1168 (by decide) ?_
    exact kk _ _ _ hC hMS hO hS (lv_sub hl [2, 3, 4, 5, 6] rfl)
  ·
    refine lv_aload_n hx hb dL_law_1156 rfl (lv_at hl 3 rfl) ?_
    refine lv_iconst (v := nI 0) hx hb dL_law_1157 (by decide) ?_
    refine q_lld0 hx hb hK hO 2 rfl dL_law_1158 ?_
    refine lv_iload hx hb dL_law_1159 (lv_at hl 0 rfl) ?_
    refine lv_i2l (v := x6.toInt64) hx hb dL_law_1161 rfl ?_
    refine W.lcmp hx hb dL_law_1162 ?_
    have hk0 := nI_k0 hk4 c1
    refine lv_if_eq (tgt := 1168) hx hb dL_law_1163 (by decide) (fun _ => ?_) (fun c => absurd (by rw [hg hk0, e6 hk0]; exact lg_self _) c)
    refine lv_goto (tgt := 1449) hx hb dL_law_1168 (by decide) ?_
    exact kk _ _ _ hC hMS hO hS (lv_sub hl [2, 3, 4, 5, 6] rfl)
set_option maxHeartbeats 4000000 in
set_option maxRecDepth 100000 in
theorem lw_ifPoured {p : Program} {l : Launch} {e : Env} {s : State} {m : MethodId} {args : Array Value} {below : List Frame} {meth : Method} {c : Code} {H : Heap} {locs : List Loc} {cells slots : Nat} {Q : State → Prop} {ls : Array Slot} {D : va_G} {z : Ad} {r : Mo} {oa : Nat} {cJ : ClassId} {st : Nat → Nat} {A : Nat → Prop} {b L : Nat} {xs : Nat → Int32} (hLC : q_LC p s m c args l D z r oa cJ st A b L xs) {i : Nat} (hi : i + 5 ≤ L) {C0 C1 : Heap → Prop} {g g' : Int64} {k : Nat} {bb : Int32} {w0 : va_W} {fs0 : List Value} {sn hs len : Nat} {T fv fn fx : Nat → Int32} (hk4 : k < 4)
    (hXc : q_H l yL_ifPoured wsL_ifPoured { frames := 8, cells := 1, slots := 6, locals := 126 } [.ref z.o, .int (xs (i + 1)), .int (xs (i + 2)), .ref oa] st D z oa cJ C0 g k C1 g') (hCk : ∀ (H H1 : Heap), C1 H → (∀ q : Nat, q < H.size → ¬ AMo r q → H1[q]? = H[q]?) → C1 H1)
    (hMc : q_I l yX3_ifPoured wsX3_ifPoured { frames := 6, cells := 0, slots := 0, locals := 132 } [.ref r.1, .int (xs (i + 1)), .int (xs (i + 2))] (q_bp D w0 [(z.cI, .int)]) (fun v => k = 0 → v = bb) (MS r z.cI D (nI k) sn hs len T fv fn fx) (AMo r) 0 0) (hw0 : w0[0]? = some (r.1, .inr (3, fs0))) (hM0 : ∀ (k : Nat) (q : Nat × va_E), w0[k]? = some q → AMo r q.1)
    (hg : k = 0 → g' = bb.toInt64) (hC : C0 H) (hM : va_P D vwCl w0 H) (hO : va_P D vwCl (wO oa cJ g) H) (hS : va_S A s.heap H locs) (hl : lv_has ls 9 (q_lvL z r oa b i)) (hcell : cells + 1 ≤ 601024) (hslot : slots + 6 ≤ 7293034)
    (kk : ∀ (H1 : Heap) (locs1 : List Loc) (ls1 : Array Slot), C1 H1 → MS r z.cI D (nI k) sn hs len T fv fn fx H1 → va_P D vwCl (wO oa cJ g') H1 → va_S A s.heap H1 locs1 → lv_has ls1 9 (q_lvL z r oa b i) → W p l e room_1 s m args below meth c H1 locs1 (cells + 1) (slots + 6) Q (F0 m 1449 ls1 [])) :
    W p l e room_1 s m args below meth c H locs cells slots Q (F0 m 1171 ls []) := by
  obtain ⟨⟨hx, hb, hml, hts, hown⟩, ⟨hl9, hK, hT⟩, ⟨hX, hbl, hbA, hL⟩, ⟨hAX, hAM, hAo, hXM, hMX, hMo, hoa⟩, hDX, hDR⟩ := hLC
  have hAXo : ∀ q, AXo z oa q → A q := fun q h => h.elim (hAX q) (fun e => by rw [e]; exact hAo)
  refine lv_aload_n hx hb dL_law_1171 rfl (lv_at hl 3 rfl) ?_
  refine lv_aload_n hx hb dL_law_1172 rfl (lv_at hl 4 rfl) ?_
  refine lv_iload hx hb dL_law_1173 (lv_at hl 0 rfl) ?_
  refine lv_iconst (v := nI 1) hx hb dL_law_1175 (by decide) ?_
  refine q_addN hx hb (i + 1) rfl dL_law_1176 ?_
  refine q_sld hx hb hX hbl hbA hS (j := i + 1) (by omega) hL dL_law_1177 ?_
  refine lv_aload_n hx hb dL_law_1178 rfl (lv_at hl 4 rfl) ?_
  refine lv_iload hx hb dL_law_1179 (lv_at hl 0 rfl) ?_
  refine lv_iconst (v := nI 2) hx hb dL_law_1181 (by decide) ?_
  refine q_addN hx hb (i + 2) rfl dL_law_1182 ?_
  refine q_sld hx hb hX hbl hbA hS (j := i + 2) (by omega) hL dL_law_1183 ?_
  refine lv_aload_n hx hb dL_law_1184 rfl (lv_at hl 1 rfl) ?_
  refine q_ciK (BH := fun H => C1 H ∧ va_P D vwCl (wO oa cJ g') H) (vx_runSW (rm := { frames := 8, cells := 1, slots := 6, locals := 126 }) (As := [.ref z.o, .int (xs (i + 1)), .int (xs (i + 2)), .ref oa]) (rest := []) ⟨hx, hb, hml, hown, hts⟩ hXc (vx_cwSW (hh := [(0, 10, 13, 13), (0, 10, 17, 15)]) 4 hts gL_law_L_ifPoured rfl rfl rfl (by decide +kernel) ⟨Nat.le_of_ble_eq_true rfl, Nat.le_of_ble_eq_true rfl⟩) (q_pSH hC hO hK hT hS hAXo) rfl rfl hl.1 rfl (lv_room (Nat.le_of_ble_eq_true rfl)) dL_law_1185 ⟨hcell, hslot⟩) (fun _ h => h) hS hAXo (fun x5 H locs e5 hCO hk hS => ?_)
  obtain ⟨hC, hO⟩ := hCO
  have e5 : nI k = x5 := Eq.symm e5
  subst e5
  have hM := hM.keptA hM0 hMX hk
  refine lv_istore (lv' := [(5, .int (nI k)), (4, .int (nI i)), (3, .ref oa), (2, .ref r.1), (1, .ref z.o), (0, .ref b)]) hx hb dL_law_1188 hl (by decide) rfl (fun ls hl => ?_)
  refine lv_aload_n hx hb dL_law_1190 rfl (lv_at hl 3 rfl) ?_
  refine lv_aload_n hx hb dL_law_1191 rfl (lv_at hl 5 rfl) ?_
  refine lv_iload hx hb dL_law_1192 (lv_at hl 1 rfl) ?_
  refine lv_iconst (v := nI 1) hx hb dL_law_1194 (by decide) ?_
  refine q_addN hx hb (i + 1) rfl dL_law_1195 ?_
  refine q_sld hx hb hX hbl hbA hS (j := i + 1) (by omega) hL dL_law_1196 ?_
  refine lv_aload_n hx hb dL_law_1197 rfl (lv_at hl 5 rfl) ?_
  refine lv_iload hx hb dL_law_1198 (lv_at hl 1 rfl) ?_
  refine lv_iconst (v := nI 2) hx hb dL_law_1200 (by decide) ?_
  refine q_addN hx hb (i + 2) rfl dL_law_1201 ?_
  refine q_sld hx hb hX hbl hbA hS (j := i + 2) (by omega) hL dL_law_1202 ?_
  refine q_ciK (BH := MS r z.cI D (nI k) sn hs len T fv fn fx) (va_runV (rm := { frames := 6, cells := 0, slots := 0, locals := 132 }) (As := [.int (xs (i + 1)), .int (xs (i + 2))]) (rest := []) ⟨hx, hb, hml, hown, hts⟩ hMc (cwV 2 hts gL_law_X3_ifPoured rfl rfl rfl (by decide +kernel) ⟨Nat.le_of_ble_eq_true rfl, Nat.le_of_ble_eq_true rfl⟩) (q_pV (ci := 3) (q0 := 0) hM (hK.sub [0] rfl) rfl hw0) rfl rfl hl.1 rfl (lv_room (Nat.le_of_ble_eq_true rfl)) dL_law_1203 ⟨hcell, hslot⟩) (fun _ h => h) hS hAM (fun x6 H locs e6 hM hk hS => ?_)
  have e6 : k = 0 → x6 = bb := e6
  have hC := hCk _ _ hC hk
  have hO := wO_kept hO hMo hk
  obtain ⟨sp, wr, le, wh, tz, dg, fa, hM⟩ := hM
  have hDM := q_D2 (ws' := wRo r z.cI (nI k) sn hs len sp wr le wh tz dg T fa fv fn fx) hDR rfl
  refine lv_istore (lv' := [(6, .int x6), (5, .int (nI k)), (4, .int (nI i)), (3, .ref oa), (2, .ref r.1), (1, .ref z.o), (0, .ref b)]) hx hb dL_law_1206 hl (by decide) rfl (fun ls hl => ?_)
  refine lv_aload_n hx hb dL_law_1208 rfl (lv_at hl 4 rfl) ?_
  refine q_ciK (BH := fun H => va_P D vwCl (wRo r z.cI (nI k) sn hs len sp wr le wh tz dg T fa fv fn fx) H) (va_runV (rm := { frames := 0, cells := 0, slots := 0, locals := 0 }) (As := []) (rest := []) ⟨hx, hb, hml, hown, hts⟩ (m3_thrown l D z.cI r.1 r.2.1 r.2.2.1 r.2.2.2.1 r.2.2.2.2.1 r.2.2.2.2.2 T fa fv fn fx (nI k) (nI sn) (nI hs) (nI len) sp wr le wh (nI tz) dg hDM) (cwV 0 hts gL_law_X3_thrown rfl rfl rfl (by decide +kernel) ⟨Nat.le_of_ble_eq_true rfl, Nat.le_of_ble_eq_true rfl⟩) (q_pV (ci := 3) (q0 := 0) hM (hK.sub [0] rfl) rfl rfl) rfl rfl hl.1 rfl (lv_room (Nat.le_of_ble_eq_true rfl)) dL_law_1209 ⟨hcell, hslot⟩) (fun _ h => h) hS hAM (fun x7 H locs e7 hM hk hS => ?_)
  have e7 : nI k = x7 := Eq.symm e7
  subst e7
  have hC := hCk _ _ hC hk
  have hO := wO_kept hO hMo hk
  have hMS : MS r z.cI D (nI k) sn hs len T fv fn fx H := ⟨sp, wr, le, wh, tz, dg, fa, hM⟩
  refine lv_iload hx hb dL_law_1212 (lv_at hl 1 rfl) ?_
  refine lv_icmp_eq (tgt := 1219) hx hb dL_law_1214 (by decide) (fun _ => ?_) (fun c => absurd rfl c)
  refine lv_iload hx hb dL_law_1219 (lv_at hl 1 rfl) ?_
  refine lv_if_ne (tgt := 1236) hx hb dL_law_1221 (by decide) (fun c1 => ?_) (fun c1 => ?_)
  ·
    refine lv_goto (tgt := 1449) hx hb dL_law_1236 (by decide) ?_
    exact kk _ _ _ hC hMS hO hS (lv_sub hl [2, 3, 4, 5, 6] rfl)
  ·
    refine lv_aload_n hx hb dL_law_1224 rfl (lv_at hl 3 rfl) ?_
    refine lv_iconst (v := nI 0) hx hb dL_law_1225 (by decide) ?_
    refine q_lld0 hx hb hK hO 2 rfl dL_law_1226 ?_
    refine lv_iload hx hb dL_law_1227 (lv_at hl 0 rfl) ?_
    refine lv_i2l (v := x6.toInt64) hx hb dL_law_1229 rfl ?_
    refine W.lcmp hx hb dL_law_1230 ?_
    have hk0 := nI_k0 hk4 c1
    refine lv_if_eq (tgt := 1236) hx hb dL_law_1231 (by decide) (fun _ => ?_) (fun c => absurd (by rw [hg hk0, e6 hk0]; exact lg_self _) c)
    refine lv_goto (tgt := 1449) hx hb dL_law_1236 (by decide) ?_
    exact kk _ _ _ hC hMS hO hS (lv_sub hl [2, 3, 4, 5, 6] rfl)
set_option maxHeartbeats 4000000 in
set_option maxRecDepth 100000 in
theorem lw_emptyIn {p : Program} {l : Launch} {e : Env} {s : State} {m : MethodId} {args : Array Value} {below : List Frame} {meth : Method} {c : Code} {H : Heap} {locs : List Loc} {cells slots : Nat} {Q : State → Prop} {ls : Array Slot} {D : va_G} {z : Ad} {r : Mo} {oa : Nat} {cJ : ClassId} {st : Nat → Nat} {A : Nat → Prop} {b L : Nat} {xs : Nat → Int32} (hLC : q_LC p s m c args l D z r oa cJ st A b L xs) {i : Nat} (hi : i + 5 ≤ L) {C0 C1 : Heap → Prop} {g g' : Int64} {k : Nat} {bb : Int32} {w0 : va_W} {fs0 : List Value} {sn hs len : Nat} {T fv fn fx : Nat → Int32} (hk4 : k < 4)
    (hXc : q_H l yL_emptyIn wsL_emptyIn { frames := 8, cells := 1, slots := 6, locals := 140 } [.ref z.o, .int (xs (i + 1)), .ref oa] st D z oa cJ C0 g k C1 g') (hCk : ∀ (H H1 : Heap), C1 H → (∀ q : Nat, q < H.size → ¬ AMo r q → H1[q]? = H[q]?) → C1 H1)
    (hMc : q_I l yX3_emptyIn wsX3_emptyIn { frames := 8, cells := 0, slots := 0, locals := 184 } [.ref r.1, .int (xs (i + 1))] (q_bp D w0 [(z.cI, .int)]) (fun v => k = 0 → v = bb) (MS r z.cI D (nI k) sn hs len T fv fn fx) (AMo r) 0 0) (hw0 : w0[0]? = some (r.1, .inr (3, fs0))) (hM0 : ∀ (k : Nat) (q : Nat × va_E), w0[k]? = some q → AMo r q.1)
    (hg : k = 0 → g' = bb.toInt64) (hC : C0 H) (hM : va_P D vwCl w0 H) (hO : va_P D vwCl (wO oa cJ g) H) (hS : va_S A s.heap H locs) (hl : lv_has ls 9 (q_lvL z r oa b i)) (hcell : cells + 1 ≤ 601024) (hslot : slots + 6 ≤ 7293034)
    (kk : ∀ (H1 : Heap) (locs1 : List Loc) (ls1 : Array Slot), C1 H1 → MS r z.cI D (nI k) sn hs len T fv fn fx H1 → va_P D vwCl (wO oa cJ g') H1 → va_S A s.heap H1 locs1 → lv_has ls1 9 (q_lvL z r oa b i) → W p l e room_1 s m args below meth c H1 locs1 (cells + 1) (slots + 6) Q (F0 m 1449 ls1 [])) :
    W p l e room_1 s m args below meth c H locs cells slots Q (F0 m 1239 ls []) := by
  obtain ⟨⟨hx, hb, hml, hts, hown⟩, ⟨hl9, hK, hT⟩, ⟨hX, hbl, hbA, hL⟩, ⟨hAX, hAM, hAo, hXM, hMX, hMo, hoa⟩, hDX, hDR⟩ := hLC
  have hAXo : ∀ q, AXo z oa q → A q := fun q h => h.elim (hAX q) (fun e => by rw [e]; exact hAo)
  refine lv_aload_n hx hb dL_law_1239 rfl (lv_at hl 3 rfl) ?_
  refine lv_aload_n hx hb dL_law_1240 rfl (lv_at hl 4 rfl) ?_
  refine lv_iload hx hb dL_law_1241 (lv_at hl 0 rfl) ?_
  refine lv_iconst (v := nI 1) hx hb dL_law_1243 (by decide) ?_
  refine q_addN hx hb (i + 1) rfl dL_law_1244 ?_
  refine q_sld hx hb hX hbl hbA hS (j := i + 1) (by omega) hL dL_law_1245 ?_
  refine lv_aload_n hx hb dL_law_1246 rfl (lv_at hl 1 rfl) ?_
  refine q_ciK (BH := fun H => C1 H ∧ va_P D vwCl (wO oa cJ g') H) (vx_runSW (rm := { frames := 8, cells := 1, slots := 6, locals := 140 }) (As := [.ref z.o, .int (xs (i + 1)), .ref oa]) (rest := []) ⟨hx, hb, hml, hown, hts⟩ hXc (vx_cwSW (hh := [(0, 9, 12, 13)]) 3 hts gL_law_L_emptyIn rfl rfl rfl (by decide +kernel) ⟨Nat.le_of_ble_eq_true rfl, Nat.le_of_ble_eq_true rfl⟩) (q_pSH hC hO hK hT hS hAXo) rfl rfl hl.1 rfl (lv_room (Nat.le_of_ble_eq_true rfl)) dL_law_1247 ⟨hcell, hslot⟩) (fun _ h => h) hS hAXo (fun x5 H locs e5 hCO hk hS => ?_)
  obtain ⟨hC, hO⟩ := hCO
  have e5 : nI k = x5 := Eq.symm e5
  subst e5
  have hM := hM.keptA hM0 hMX hk
  refine lv_istore (lv' := [(5, .int (nI k)), (4, .int (nI i)), (3, .ref oa), (2, .ref r.1), (1, .ref z.o), (0, .ref b)]) hx hb dL_law_1250 hl (by decide) rfl (fun ls hl => ?_)
  refine lv_aload_n hx hb dL_law_1252 rfl (lv_at hl 3 rfl) ?_
  refine lv_aload_n hx hb dL_law_1253 rfl (lv_at hl 5 rfl) ?_
  refine lv_iload hx hb dL_law_1254 (lv_at hl 1 rfl) ?_
  refine lv_iconst (v := nI 1) hx hb dL_law_1256 (by decide) ?_
  refine q_addN hx hb (i + 1) rfl dL_law_1257 ?_
  refine q_sld hx hb hX hbl hbA hS (j := i + 1) (by omega) hL dL_law_1258 ?_
  refine q_ciK (BH := MS r z.cI D (nI k) sn hs len T fv fn fx) (va_runV (rm := { frames := 8, cells := 0, slots := 0, locals := 184 }) (As := [.int (xs (i + 1))]) (rest := []) ⟨hx, hb, hml, hown, hts⟩ hMc (cwV 1 hts gL_law_X3_emptyIn rfl rfl rfl (by decide +kernel) ⟨Nat.le_of_ble_eq_true rfl, Nat.le_of_ble_eq_true rfl⟩) (q_pV (ci := 3) (q0 := 0) hM (hK.sub [0] rfl) rfl hw0) rfl rfl hl.1 rfl (lv_room (Nat.le_of_ble_eq_true rfl)) dL_law_1259 ⟨hcell, hslot⟩) (fun _ h => h) hS hAM (fun x6 H locs e6 hM hk hS => ?_)
  have e6 : k = 0 → x6 = bb := e6
  have hC := hCk _ _ hC hk
  have hO := wO_kept hO hMo hk
  obtain ⟨sp, wr, le, wh, tz, dg, fa, hM⟩ := hM
  have hDM := q_D2 (ws' := wRo r z.cI (nI k) sn hs len sp wr le wh tz dg T fa fv fn fx) hDR rfl
  refine lv_istore (lv' := [(6, .int x6), (5, .int (nI k)), (4, .int (nI i)), (3, .ref oa), (2, .ref r.1), (1, .ref z.o), (0, .ref b)]) hx hb dL_law_1262 hl (by decide) rfl (fun ls hl => ?_)
  refine lv_aload_n hx hb dL_law_1264 rfl (lv_at hl 4 rfl) ?_
  refine q_ciK (BH := fun H => va_P D vwCl (wRo r z.cI (nI k) sn hs len sp wr le wh tz dg T fa fv fn fx) H) (va_runV (rm := { frames := 0, cells := 0, slots := 0, locals := 0 }) (As := []) (rest := []) ⟨hx, hb, hml, hown, hts⟩ (m3_thrown l D z.cI r.1 r.2.1 r.2.2.1 r.2.2.2.1 r.2.2.2.2.1 r.2.2.2.2.2 T fa fv fn fx (nI k) (nI sn) (nI hs) (nI len) sp wr le wh (nI tz) dg hDM) (cwV 0 hts gL_law_X3_thrown rfl rfl rfl (by decide +kernel) ⟨Nat.le_of_ble_eq_true rfl, Nat.le_of_ble_eq_true rfl⟩) (q_pV (ci := 3) (q0 := 0) hM (hK.sub [0] rfl) rfl rfl) rfl rfl hl.1 rfl (lv_room (Nat.le_of_ble_eq_true rfl)) dL_law_1265 ⟨hcell, hslot⟩) (fun _ h => h) hS hAM (fun x7 H locs e7 hM hk hS => ?_)
  have e7 : nI k = x7 := Eq.symm e7
  subst e7
  have hC := hCk _ _ hC hk
  have hO := wO_kept hO hMo hk
  have hMS : MS r z.cI D (nI k) sn hs len T fv fn fx H := ⟨sp, wr, le, wh, tz, dg, fa, hM⟩
  refine lv_iload hx hb dL_law_1268 (lv_at hl 1 rfl) ?_
  refine lv_icmp_eq (tgt := 1275) hx hb dL_law_1270 (by decide) (fun _ => ?_) (fun c => absurd rfl c)
  refine lv_iload hx hb dL_law_1275 (lv_at hl 1 rfl) ?_
  refine lv_if_ne (tgt := 1292) hx hb dL_law_1277 (by decide) (fun c1 => ?_) (fun c1 => ?_)
  ·
    refine lv_goto (tgt := 1449) hx hb dL_law_1292 (by decide) ?_
    exact kk _ _ _ hC hMS hO hS (lv_sub hl [2, 3, 4, 5, 6] rfl)
  ·
    refine lv_aload_n hx hb dL_law_1280 rfl (lv_at hl 3 rfl) ?_
    refine lv_iconst (v := nI 0) hx hb dL_law_1281 (by decide) ?_
    refine q_lld0 hx hb hK hO 2 rfl dL_law_1282 ?_
    refine lv_iload hx hb dL_law_1283 (lv_at hl 0 rfl) ?_
    refine lv_i2l (v := x6.toInt64) hx hb dL_law_1285 rfl ?_
    refine W.lcmp hx hb dL_law_1286 ?_
    have hk0 := nI_k0 hk4 c1
    refine lv_if_eq (tgt := 1292) hx hb dL_law_1287 (by decide) (fun _ => ?_) (fun c => absurd (by rw [hg hk0, e6 hk0]; exact lg_self _) c)
    refine lv_goto (tgt := 1449) hx hb dL_law_1292 (by decide) ?_
    exact kk _ _ _ hC hMS hO hS (lv_sub hl [2, 3, 4, 5, 6] rfl)
set_option maxHeartbeats 4000000 in
set_option maxRecDepth 100000 in
theorem lw_bestGuest {p : Program} {l : Launch} {e : Env} {s : State} {m : MethodId} {args : Array Value} {below : List Frame} {meth : Method} {c : Code} {H : Heap} {locs : List Loc} {cells slots : Nat} {Q : State → Prop} {ls : Array Slot} {D : va_G} {z : Ad} {r : Mo} {oa : Nat} {cJ : ClassId} {st : Nat → Nat} {A : Nat → Prop} {b L : Nat} {xs : Nat → Int32} (hLC : q_LC p s m c args l D z r oa cJ st A b L xs) {i : Nat} (hi : i + 5 ≤ L) {C0 C1 : Heap → Prop} {g g' : Int64} {k : Nat} {bb : Int32} {w0 : va_W} {fs0 : List Value} {sn hs len : Nat} {T fv fn fx : Nat → Int32} (hk4 : k < 4)
    (hXc : q_H l yL_bestGuest wsL_bestGuest { frames := 8, cells := 1, slots := 6, locals := 127 } [.ref z.o, .int (xs (i + 1)), .ref oa] st D z oa cJ C0 g k C1 g') (hCk : ∀ (H H1 : Heap), C1 H → (∀ q : Nat, q < H.size → ¬ AMo r q → H1[q]? = H[q]?) → C1 H1)
    (hMc : q_I l yX3_bestGuest wsX3_bestGuest { frames := 6, cells := 0, slots := 0, locals := 136 } [.ref r.1, .int (xs (i + 1))] (q_bp D w0 [(z.cI, .int)]) (fun v => k = 0 → v = bb) (MS r z.cI D (nI k) sn hs len T fv fn fx) (AMo r) 0 0) (hw0 : w0[0]? = some (r.1, .inr (3, fs0))) (hM0 : ∀ (k : Nat) (q : Nat × va_E), w0[k]? = some q → AMo r q.1)
    (hg : k = 0 → g' = bb.toInt64) (hC : C0 H) (hM : va_P D vwCl w0 H) (hO : va_P D vwCl (wO oa cJ g) H) (hS : va_S A s.heap H locs) (hl : lv_has ls 9 (q_lvL z r oa b i)) (hcell : cells + 1 ≤ 601024) (hslot : slots + 6 ≤ 7293034)
    (kk : ∀ (H1 : Heap) (locs1 : List Loc) (ls1 : Array Slot), C1 H1 → MS r z.cI D (nI k) sn hs len T fv fn fx H1 → va_P D vwCl (wO oa cJ g') H1 → va_S A s.heap H1 locs1 → lv_has ls1 9 (q_lvL z r oa b i) → W p l e room_1 s m args below meth c H1 locs1 (cells + 1) (slots + 6) Q (F0 m 1449 ls1 [])) :
    W p l e room_1 s m args below meth c H locs cells slots Q (F0 m 1295 ls []) := by
  obtain ⟨⟨hx, hb, hml, hts, hown⟩, ⟨hl9, hK, hT⟩, ⟨hX, hbl, hbA, hL⟩, ⟨hAX, hAM, hAo, hXM, hMX, hMo, hoa⟩, hDX, hDR⟩ := hLC
  have hAXo : ∀ q, AXo z oa q → A q := fun q h => h.elim (hAX q) (fun e => by rw [e]; exact hAo)
  refine lv_aload_n hx hb dL_law_1295 rfl (lv_at hl 3 rfl) ?_
  refine lv_aload_n hx hb dL_law_1296 rfl (lv_at hl 4 rfl) ?_
  refine lv_iload hx hb dL_law_1297 (lv_at hl 0 rfl) ?_
  refine lv_iconst (v := nI 1) hx hb dL_law_1299 (by decide) ?_
  refine q_addN hx hb (i + 1) rfl dL_law_1300 ?_
  refine q_sld hx hb hX hbl hbA hS (j := i + 1) (by omega) hL dL_law_1301 ?_
  refine lv_aload_n hx hb dL_law_1302 rfl (lv_at hl 1 rfl) ?_
  refine q_ciK (BH := fun H => C1 H ∧ va_P D vwCl (wO oa cJ g') H) (vx_runSW (rm := { frames := 8, cells := 1, slots := 6, locals := 127 }) (As := [.ref z.o, .int (xs (i + 1)), .ref oa]) (rest := []) ⟨hx, hb, hml, hown, hts⟩ hXc (vx_cwSW (hh := [(0, 9, 12, 13)]) 3 hts gL_law_L_bestGuest rfl rfl rfl (by decide +kernel) ⟨Nat.le_of_ble_eq_true rfl, Nat.le_of_ble_eq_true rfl⟩) (q_pSH hC hO hK hT hS hAXo) rfl rfl hl.1 rfl (lv_room (Nat.le_of_ble_eq_true rfl)) dL_law_1303 ⟨hcell, hslot⟩) (fun _ h => h) hS hAXo (fun x5 H locs e5 hCO hk hS => ?_)
  obtain ⟨hC, hO⟩ := hCO
  have e5 : nI k = x5 := Eq.symm e5
  subst e5
  have hM := hM.keptA hM0 hMX hk
  refine lv_istore (lv' := [(5, .int (nI k)), (4, .int (nI i)), (3, .ref oa), (2, .ref r.1), (1, .ref z.o), (0, .ref b)]) hx hb dL_law_1306 hl (by decide) rfl (fun ls hl => ?_)
  refine lv_aload_n hx hb dL_law_1308 rfl (lv_at hl 3 rfl) ?_
  refine lv_aload_n hx hb dL_law_1309 rfl (lv_at hl 5 rfl) ?_
  refine lv_iload hx hb dL_law_1310 (lv_at hl 1 rfl) ?_
  refine lv_iconst (v := nI 1) hx hb dL_law_1312 (by decide) ?_
  refine q_addN hx hb (i + 1) rfl dL_law_1313 ?_
  refine q_sld hx hb hX hbl hbA hS (j := i + 1) (by omega) hL dL_law_1314 ?_
  refine q_ciK (BH := MS r z.cI D (nI k) sn hs len T fv fn fx) (va_runV (rm := { frames := 6, cells := 0, slots := 0, locals := 136 }) (As := [.int (xs (i + 1))]) (rest := []) ⟨hx, hb, hml, hown, hts⟩ hMc (cwV 1 hts gL_law_X3_bestGuest rfl rfl rfl (by decide +kernel) ⟨Nat.le_of_ble_eq_true rfl, Nat.le_of_ble_eq_true rfl⟩) (q_pV (ci := 3) (q0 := 0) hM (hK.sub [0] rfl) rfl hw0) rfl rfl hl.1 rfl (lv_room (Nat.le_of_ble_eq_true rfl)) dL_law_1315 ⟨hcell, hslot⟩) (fun _ h => h) hS hAM (fun x6 H locs e6 hM hk hS => ?_)
  have e6 : k = 0 → x6 = bb := e6
  have hC := hCk _ _ hC hk
  have hO := wO_kept hO hMo hk
  obtain ⟨sp, wr, le, wh, tz, dg, fa, hM⟩ := hM
  have hDM := q_D2 (ws' := wRo r z.cI (nI k) sn hs len sp wr le wh tz dg T fa fv fn fx) hDR rfl
  refine lv_istore (lv' := [(6, .int x6), (5, .int (nI k)), (4, .int (nI i)), (3, .ref oa), (2, .ref r.1), (1, .ref z.o), (0, .ref b)]) hx hb dL_law_1318 hl (by decide) rfl (fun ls hl => ?_)
  refine lv_aload_n hx hb dL_law_1320 rfl (lv_at hl 4 rfl) ?_
  refine q_ciK (BH := fun H => va_P D vwCl (wRo r z.cI (nI k) sn hs len sp wr le wh tz dg T fa fv fn fx) H) (va_runV (rm := { frames := 0, cells := 0, slots := 0, locals := 0 }) (As := []) (rest := []) ⟨hx, hb, hml, hown, hts⟩ (m3_thrown l D z.cI r.1 r.2.1 r.2.2.1 r.2.2.2.1 r.2.2.2.2.1 r.2.2.2.2.2 T fa fv fn fx (nI k) (nI sn) (nI hs) (nI len) sp wr le wh (nI tz) dg hDM) (cwV 0 hts gL_law_X3_thrown rfl rfl rfl (by decide +kernel) ⟨Nat.le_of_ble_eq_true rfl, Nat.le_of_ble_eq_true rfl⟩) (q_pV (ci := 3) (q0 := 0) hM (hK.sub [0] rfl) rfl rfl) rfl rfl hl.1 rfl (lv_room (Nat.le_of_ble_eq_true rfl)) dL_law_1321 ⟨hcell, hslot⟩) (fun _ h => h) hS hAM (fun x7 H locs e7 hM hk hS => ?_)
  have e7 : nI k = x7 := Eq.symm e7
  subst e7
  have hC := hCk _ _ hC hk
  have hO := wO_kept hO hMo hk
  have hMS : MS r z.cI D (nI k) sn hs len T fv fn fx H := ⟨sp, wr, le, wh, tz, dg, fa, hM⟩
  refine lv_iload hx hb dL_law_1324 (lv_at hl 1 rfl) ?_
  refine lv_icmp_eq (tgt := 1331) hx hb dL_law_1326 (by decide) (fun _ => ?_) (fun c => absurd rfl c)
  refine lv_iload hx hb dL_law_1331 (lv_at hl 1 rfl) ?_
  refine lv_if_ne (tgt := 1348) hx hb dL_law_1333 (by decide) (fun c1 => ?_) (fun c1 => ?_)
  ·
    refine lv_goto (tgt := 1449) hx hb dL_law_1348 (by decide) ?_
    exact kk _ _ _ hC hMS hO hS (lv_sub hl [2, 3, 4, 5, 6] rfl)
  ·
    refine lv_aload_n hx hb dL_law_1336 rfl (lv_at hl 3 rfl) ?_
    refine lv_iconst (v := nI 0) hx hb dL_law_1337 (by decide) ?_
    refine q_lld0 hx hb hK hO 2 rfl dL_law_1338 ?_
    refine lv_iload hx hb dL_law_1339 (lv_at hl 0 rfl) ?_
    refine lv_i2l (v := x6.toInt64) hx hb dL_law_1341 rfl ?_
    refine W.lcmp hx hb dL_law_1342 ?_
    have hk0 := nI_k0 hk4 c1
    refine lv_if_eq (tgt := 1348) hx hb dL_law_1343 (by decide) (fun _ => ?_) (fun c => absurd (by rw [hg hk0, e6 hk0]; exact lg_self _) c)
    refine lv_goto (tgt := 1449) hx hb dL_law_1348 (by decide) ?_
    exact kk _ _ _ hC hMS hO hS (lv_sub hl [2, 3, 4, 5, 6] rfl)
set_option maxHeartbeats 4000000 in
set_option maxRecDepth 100000 in
theorem lw_clearBuffer {p : Program} {l : Launch} {e : Env} {s : State} {m : MethodId} {args : Array Value} {below : List Frame} {meth : Method} {c : Code} {H : Heap} {locs : List Loc} {cells slots : Nat} {Q : State → Prop} {ls : Array Slot} {D : va_G} {z : Ad} {r : Mo} {oa : Nat} {cJ : ClassId} {st : Nat → Nat} {A : Nat → Prop} {b L : Nat} {xs : Nat → Int32} (hLC : q_LC p s m c args l D z r oa cJ st A b L xs) {i : Nat} (hi : i + 5 ≤ L) {C1 M1 : Heap → Prop} {g : Int64} {bb : Int32} {wx w0 : va_W} {fx0 fs0 : List Value}
    (hXc : q_I l yX2_clearBuffer wsX2_clearBuffer { frames := 0, cells := 0, slots := 0, locals := 0 } [.ref z.o] (q_bp D wx (tyX z)) (fun v => v = bb) C1 (AX z) 0 0) (hwx : wx[0]? = some (z.o, .inr (2, fx0))) (hCk : ∀ (H H1 : Heap), C1 H → (∀ q : Nat, q < H.size → ¬ AMo r q → H1[q]? = H[q]?) → C1 H1)
    (hMc : q_I l yX3_clearBuffer wsX3_clearBuffer { frames := 0, cells := 0, slots := 0, locals := 0 } [.ref r.1] (q_bp D w0 [(z.cI, .int)]) (fun v => v = bb) M1 (AMo r) 0 0) (hw0 : w0[0]? = some (r.1, .inr (3, fs0))) (hM0 : ∀ (k : Nat) (q : Nat × va_E), w0[k]? = some q → AMo r q.1)
    (hP : va_P D vwCl wx H) (hM : va_P D vwCl w0 H) (hO : va_P D vwCl (wO oa cJ g) H) (hS : va_S A s.heap H locs) (hl : lv_has ls 9 (q_lvL z r oa b i)) (hcell : cells + 1 ≤ 601024) (hslot : slots + 6 ≤ 7293034)
    (kk : ∀ (H1 : Heap) (locs1 : List Loc) (ls1 : Array Slot), C1 H1 → M1 H1 → va_P D vwCl (wO oa cJ g) H1 → va_S A s.heap H1 locs1 → lv_has ls1 9 (q_lvL z r oa b i) → W p l e room_1 s m args below meth c H1 locs1 (cells + 1) (slots + 6) Q (F0 m 1449 ls1 [])) :
    W p l e room_1 s m args below meth c H locs cells slots Q (F0 m 672 ls []) := by
  obtain ⟨⟨hx, hb, hml, hts, hown⟩, ⟨hl9, hK, hT⟩, ⟨hX, hbl, hbA, hL⟩, ⟨hAX, hAM, hAo, hXM, hMX, hMo, hoa⟩, hDX, hDR⟩ := hLC
  have hAXo : ∀ q, AXo z oa q → A q := fun q h => h.elim (hAX q) (fun e => by rw [e]; exact hAo)
  refine lv_aload_n hx hb dL_law_672 rfl (lv_at hl 3 rfl) ?_
  refine q_ciK (BH := C1) (va_runV (rm := { frames := 0, cells := 0, slots := 0, locals := 0 }) (As := []) (rest := []) ⟨hx, hb, hml, hown, hts⟩ hXc (cwV 0 hts gL_law_X2_clearBuffer rfl rfl rfl (by decide +kernel) ⟨Nat.le_of_ble_eq_true rfl, Nat.le_of_ble_eq_true rfl⟩) (q_pV (ci := 2) (q0 := 0) hP (hK.sub [0, 1] rfl) rfl hwx) rfl rfl hl.1 rfl (lv_room (Nat.le_of_ble_eq_true rfl)) dL_law_673 ⟨Nat.le_of_succ_le hcell, Nat.le_trans (Nat.le_add_right _ 6) hslot⟩) (fun _ h => h) hS hAX (fun x5 H locs e5 hC hk hS => ?_)
  have hM := hM.keptA hM0 (fun q h1 h2 => hXM q h2 h1) hk
  have hO := wO_kept hO hoa hk
  refine lv_aload_n hx hb dL_law_676 rfl (lv_at hl 2 rfl) ?_
  refine q_ciK (BH := M1) (va_runV (rm := { frames := 0, cells := 0, slots := 0, locals := 0 }) (As := []) (rest := [.int x5]) ⟨hx, hb, hml, hown, hts⟩ hMc (cwV 0 hts gL_law_X3_clearBuffer rfl rfl rfl (by decide +kernel) ⟨Nat.le_of_ble_eq_true rfl, Nat.le_of_ble_eq_true rfl⟩) (q_pV (ci := 3) (q0 := 0) hM (hK.sub [0] rfl) rfl hw0) rfl rfl hl.1 rfl (lv_room (Nat.le_of_ble_eq_true rfl)) dL_law_677 ⟨Nat.le_of_succ_le hcell, Nat.le_trans (Nat.le_add_right _ 6) hslot⟩) (fun _ h => h) hS hAM (fun x6 H locs e6 hM hk hS => ?_)
  have hC := hCk _ _ hC hk
  have hO := wO_kept hO hMo hk
  refine lv_icmp_eq (tgt := 1449) hx hb dL_law_680 (by decide) (fun _ => ?_) (fun c => absurd (e5.trans e6.symm) c)
  refine W.widen (k := cells + 1) (n := slots + 6) (Nat.le_add_right _ 1) (Nat.le_add_right _ 6) ?_
  exact kk _ _ _ hC hM hO hS hl
set_option maxHeartbeats 4000000 in
set_option maxRecDepth 100000 in
theorem lw_firstError {p : Program} {l : Launch} {e : Env} {s : State} {m : MethodId} {args : Array Value} {below : List Frame} {meth : Method} {c : Code} {H : Heap} {locs : List Loc} {cells slots : Nat} {Q : State → Prop} {ls : Array Slot} {D : va_G} {z : Ad} {r : Mo} {oa : Nat} {cJ : ClassId} {st : Nat → Nat} {A : Nat → Prop} {b L : Nat} {xs : Nat → Int32} (hLC : q_LC p s m c args l D z r oa cJ st A b L xs) {i : Nat} (hi : i + 5 ≤ L) {C1 M1 : Heap → Prop} {g : Int64} {bb : Int32} {wx w0 : va_W} {fx0 fs0 : List Value}
    (hXc : q_I l yX2_firstError wsX2_firstError { frames := 4, cells := 0, slots := 0, locals := 86 } [.ref z.o] (q_bp D wx (tyX z)) (fun v => v = bb) C1 (AX z) 0 0) (hwx : wx[0]? = some (z.o, .inr (2, fx0))) (hCk : ∀ (H H1 : Heap), C1 H → (∀ q : Nat, q < H.size → ¬ AMo r q → H1[q]? = H[q]?) → C1 H1)
    (hMc : q_I l yX3_firstError wsX3_firstError { frames := 9, cells := 0, slots := 0, locals := 204 } [.ref r.1] (q_bp D w0 [(z.cI, .int)]) (fun v => v = bb) M1 (AMo r) 0 0) (hw0 : w0[0]? = some (r.1, .inr (3, fs0))) (hM0 : ∀ (k : Nat) (q : Nat × va_E), w0[k]? = some q → AMo r q.1)
    (hP : va_P D vwCl wx H) (hM : va_P D vwCl w0 H) (hO : va_P D vwCl (wO oa cJ g) H) (hS : va_S A s.heap H locs) (hl : lv_has ls 9 (q_lvL z r oa b i)) (hcell : cells + 1 ≤ 601024) (hslot : slots + 6 ≤ 7293034)
    (kk : ∀ (H1 : Heap) (locs1 : List Loc) (ls1 : Array Slot), C1 H1 → M1 H1 → va_P D vwCl (wO oa cJ g) H1 → va_S A s.heap H1 locs1 → lv_has ls1 9 (q_lvL z r oa b i) → W p l e room_1 s m args below meth c H1 locs1 (cells + 1) (slots + 6) Q (F0 m 1449 ls1 [])) :
    W p l e room_1 s m args below meth c H locs cells slots Q (F0 m 685 ls []) := by
  obtain ⟨⟨hx, hb, hml, hts, hown⟩, ⟨hl9, hK, hT⟩, ⟨hX, hbl, hbA, hL⟩, ⟨hAX, hAM, hAo, hXM, hMX, hMo, hoa⟩, hDX, hDR⟩ := hLC
  have hAXo : ∀ q, AXo z oa q → A q := fun q h => h.elim (hAX q) (fun e => by rw [e]; exact hAo)
  refine lv_aload_n hx hb dL_law_685 rfl (lv_at hl 3 rfl) ?_
  refine q_ciK (BH := C1) (va_runV (rm := { frames := 4, cells := 0, slots := 0, locals := 86 }) (As := []) (rest := []) ⟨hx, hb, hml, hown, hts⟩ hXc (cwV 0 hts gL_law_X2_firstError rfl rfl rfl (by decide +kernel) ⟨Nat.le_of_ble_eq_true rfl, Nat.le_of_ble_eq_true rfl⟩) (q_pV (ci := 2) (q0 := 0) hP (hK.sub [0, 1] rfl) rfl hwx) rfl rfl hl.1 rfl (lv_room (Nat.le_of_ble_eq_true rfl)) dL_law_686 ⟨Nat.le_of_succ_le hcell, Nat.le_trans (Nat.le_add_right _ 6) hslot⟩) (fun _ h => h) hS hAX (fun x5 H locs e5 hC hk hS => ?_)
  have hM := hM.keptA hM0 (fun q h1 h2 => hXM q h2 h1) hk
  have hO := wO_kept hO hoa hk
  refine lv_aload_n hx hb dL_law_689 rfl (lv_at hl 2 rfl) ?_
  refine q_ciK (BH := M1) (va_runV (rm := { frames := 9, cells := 0, slots := 0, locals := 204 }) (As := []) (rest := [.int x5]) ⟨hx, hb, hml, hown, hts⟩ hMc (cwV 0 hts gL_law_X3_firstError rfl rfl rfl (by decide +kernel) ⟨Nat.le_of_ble_eq_true rfl, Nat.le_of_ble_eq_true rfl⟩) (q_pV (ci := 3) (q0 := 0) hM (hK.sub [0] rfl) rfl hw0) rfl rfl hl.1 rfl (lv_room (Nat.le_of_ble_eq_true rfl)) dL_law_690 ⟨Nat.le_of_succ_le hcell, Nat.le_trans (Nat.le_add_right _ 6) hslot⟩) (fun _ h => h) hS hAM (fun x6 H locs e6 hM hk hS => ?_)
  have hC := hCk _ _ hC hk
  have hO := wO_kept hO hMo hk
  refine lv_icmp_eq (tgt := 1449) hx hb dL_law_693 (by decide) (fun _ => ?_) (fun c => absurd (e5.trans e6.symm) c)
  refine W.widen (k := cells + 1) (n := slots + 6) (Nat.le_add_right _ 1) (Nat.le_add_right _ 6) ?_
  exact kk _ _ _ hC hM hO hS hl
set_option maxHeartbeats 4000000 in
set_option maxRecDepth 100000 in
theorem lw_keep {p : Program} {l : Launch} {e : Env} {s : State} {m : MethodId} {args : Array Value} {below : List Frame} {meth : Method} {c : Code} {H : Heap} {locs : List Loc} {cells slots : Nat} {Q : State → Prop} {ls : Array Slot} {D : va_G} {z : Ad} {r : Mo} {oa : Nat} {cJ : ClassId} {st : Nat → Nat} {A : Nat → Prop} {b L : Nat} {xs : Nat → Int32} (hLC : q_LC p s m c args l D z r oa cJ st A b L xs) {i : Nat} (hi : i + 5 ≤ L) {C1 M1 : Heap → Prop} {g : Int64} {bb : Int32} {wx w0 : va_W} {fx0 fs0 : List Value}
    (hXc : q_I l yX2_keep wsX2_keep { frames := 2, cells := 0, slots := 0, locals := 81 } [.ref z.o] (q_bp D wx (tyX z)) (fun v => v = bb) C1 (AX z) 0 0) (hwx : wx[0]? = some (z.o, .inr (2, fx0))) (hCk : ∀ (H H1 : Heap), C1 H → (∀ q : Nat, q < H.size → ¬ AMo r q → H1[q]? = H[q]?) → C1 H1)
    (hMc : q_I l yX3_keep wsX3_keep { frames := 2, cells := 0, slots := 0, locals := 41 } [.ref r.1] (q_bp D w0 [(z.cI, .int)]) (fun v => v = bb) M1 (AMo r) 0 0) (hw0 : w0[0]? = some (r.1, .inr (3, fs0))) (hM0 : ∀ (k : Nat) (q : Nat × va_E), w0[k]? = some q → AMo r q.1)
    (hP : va_P D vwCl wx H) (hM : va_P D vwCl w0 H) (hO : va_P D vwCl (wO oa cJ g) H) (hS : va_S A s.heap H locs) (hl : lv_has ls 9 (q_lvL z r oa b i)) (hcell : cells + 1 ≤ 601024) (hslot : slots + 6 ≤ 7293034)
    (kk : ∀ (H1 : Heap) (locs1 : List Loc) (ls1 : Array Slot), C1 H1 → M1 H1 → va_P D vwCl (wO oa cJ g) H1 → va_S A s.heap H1 locs1 → lv_has ls1 9 (q_lvL z r oa b i) → W p l e room_1 s m args below meth c H1 locs1 (cells + 1) (slots + 6) Q (F0 m 1449 ls1 [])) :
    W p l e room_1 s m args below meth c H locs cells slots Q (F0 m 742 ls []) := by
  obtain ⟨⟨hx, hb, hml, hts, hown⟩, ⟨hl9, hK, hT⟩, ⟨hX, hbl, hbA, hL⟩, ⟨hAX, hAM, hAo, hXM, hMX, hMo, hoa⟩, hDX, hDR⟩ := hLC
  have hAXo : ∀ q, AXo z oa q → A q := fun q h => h.elim (hAX q) (fun e => by rw [e]; exact hAo)
  refine lv_aload_n hx hb dL_law_742 rfl (lv_at hl 3 rfl) ?_
  refine q_ciK (BH := C1) (va_runV (rm := { frames := 2, cells := 0, slots := 0, locals := 81 }) (As := []) (rest := []) ⟨hx, hb, hml, hown, hts⟩ hXc (cwV 0 hts gL_law_X2_keep rfl rfl rfl (by decide +kernel) ⟨Nat.le_of_ble_eq_true rfl, Nat.le_of_ble_eq_true rfl⟩) (q_pV (ci := 2) (q0 := 0) hP (hK.sub [0, 1] rfl) rfl hwx) rfl rfl hl.1 rfl (lv_room (Nat.le_of_ble_eq_true rfl)) dL_law_743 ⟨Nat.le_of_succ_le hcell, Nat.le_trans (Nat.le_add_right _ 6) hslot⟩) (fun _ h => h) hS hAX (fun x5 H locs e5 hC hk hS => ?_)
  have hM := hM.keptA hM0 (fun q h1 h2 => hXM q h2 h1) hk
  have hO := wO_kept hO hoa hk
  refine lv_aload_n hx hb dL_law_746 rfl (lv_at hl 2 rfl) ?_
  refine q_ciK (BH := M1) (va_runV (rm := { frames := 2, cells := 0, slots := 0, locals := 41 }) (As := []) (rest := [.int x5]) ⟨hx, hb, hml, hown, hts⟩ hMc (cwV 0 hts gL_law_X3_keep rfl rfl rfl (by decide +kernel) ⟨Nat.le_of_ble_eq_true rfl, Nat.le_of_ble_eq_true rfl⟩) (q_pV (ci := 3) (q0 := 0) hM (hK.sub [0] rfl) rfl hw0) rfl rfl hl.1 rfl (lv_room (Nat.le_of_ble_eq_true rfl)) dL_law_747 ⟨Nat.le_of_succ_le hcell, Nat.le_trans (Nat.le_add_right _ 6) hslot⟩) (fun _ h => h) hS hAM (fun x6 H locs e6 hM hk hS => ?_)
  have hC := hCk _ _ hC hk
  have hO := wO_kept hO hMo hk
  refine lv_icmp_eq (tgt := 1449) hx hb dL_law_750 (by decide) (fun _ => ?_) (fun c => absurd (e5.trans e6.symm) c)
  refine W.widen (k := cells + 1) (n := slots + 6) (Nat.le_add_right _ 1) (Nat.le_add_right _ 6) ?_
  exact kk _ _ _ hC hM hO hS hl
set_option maxHeartbeats 4000000 in
set_option maxRecDepth 100000 in
theorem lw_spiltShare {p : Program} {l : Launch} {e : Env} {s : State} {m : MethodId} {args : Array Value} {below : List Frame} {meth : Method} {c : Code} {H : Heap} {locs : List Loc} {cells slots : Nat} {Q : State → Prop} {ls : Array Slot} {D : va_G} {z : Ad} {r : Mo} {oa : Nat} {cJ : ClassId} {st : Nat → Nat} {A : Nat → Prop} {b L : Nat} {xs : Nat → Int32} (hLC : q_LC p s m c args l D z r oa cJ st A b L xs) {i : Nat} (hi : i + 5 ≤ L) {M1 : Heap → Prop} {g : Int64} {v : UInt64} {wx w0 : va_W} {fx0 fs0 : List Value} 
    (hXc : q_Db l yX2_spiltShare wsX2_spiltShare { frames := 2, cells := 0, slots := 0, locals := 45 } [.ref z.o] (q_bp D wx (tyX z)) (fun x => x = v) (fun H => True) (fun _ => False) 0 0) (hwx : wx[0]? = some (z.o, .inr (2, fx0))) (hX0 : ∀ (k : Nat) (q : Nat × va_E), wx[k]? = some q → AX z q.1)
    (hMc : q_Db l yX3_spiltShare wsX3_spiltShare { frames := 3, cells := 0, slots := 0, locals := 65 } [.ref r.1] (q_bp D w0 [(z.cI, .int)]) (fun x => x = v) M1 (AMo r) 0 0) (hw0 : w0[0]? = some (r.1, .inr (3, fs0))) (hM0 : ∀ (k : Nat) (q : Nat × va_E), w0[k]? = some q → AMo r q.1)
    (hP : va_P D vwCl wx H) (hM : va_P D vwCl w0 H) (hO : va_P D vwCl (wO oa cJ g) H) (hS : va_S A s.heap H locs) (hl : lv_has ls 9 (q_lvL z r oa b i)) (hcell : cells + 1 ≤ 601024) (hslot : slots + 6 ≤ 7293034)
    (kk : ∀ (H1 : Heap) (locs1 : List Loc) (ls1 : Array Slot), va_P D vwCl wx H1 → M1 H1 → va_P D vwCl (wO oa cJ g) H1 → va_S A s.heap H1 locs1 → lv_has ls1 9 (q_lvL z r oa b i) → W p l e room_1 s m args below meth c H1 locs1 (cells + 1) (slots + 6) Q (F0 m 1449 ls1 [])) :
    W p l e room_1 s m args below meth c H locs cells slots Q (F0 m 1351 ls []) := by
  obtain ⟨⟨hx, hb, hml, hts, hown⟩, ⟨hl9, hK, hT⟩, ⟨hX, hbl, hbA, hL⟩, ⟨hAX, hAM, hAo, hXM, hMX, hMo, hoa⟩, hDX, hDR⟩ := hLC
  have hAXo : ∀ q, AXo z oa q → A q := fun q h => h.elim (hAX q) (fun e => by rw [e]; exact hAo)
  refine lv_aload_n hx hb dL_law_1351 rfl (lv_at hl 3 rfl) ?_
  refine va_calld (va_runV (rm := { frames := 2, cells := 0, slots := 0, locals := 45 }) (As := []) (rest := []) ⟨hx, hb, hml, hown, hts⟩ hXc (cwV 0 hts gL_law_X2_spiltShare rfl rfl rfl (by decide +kernel) ⟨Nat.le_of_ble_eq_true rfl, Nat.le_of_ble_eq_true rfl⟩) (q_pV (ci := 2) (q0 := 0) hP (hK.sub [0, 1] rfl) rfl hwx) rfl rfl hl.1 rfl (lv_room (Nat.le_of_ble_eq_true rfl)) dL_law_1352 ⟨Nat.le_of_succ_le hcell, Nat.le_trans (Nat.le_add_right _ 6) hslot⟩) hS (fun q _ h => (fun q h => h.elim) q h) (fun q h => h.elim) (fun x5 _ t H1 locs ht _ e5 hC _ hk hS => ?_)
  rw [ht] at hC
  have e5 : v = x5 := Eq.symm e5
  subst e5
  have hM := hM.keptA hM0 (fun q _ h2 => h2) hk
  have hO := wO_kept hO (fun h => h) hk
  have hC := hP.kept fun k q h => hk q.1 (hP k q h).lt (fun z => z)
  refine lv_dstore (lv' := [(5, .double v), (4, .int (nI i)), (3, .ref oa), (2, .ref r.1), (1, .ref z.o), (0, .ref b)]) hx hb dL_law_1355 hl (by decide) rfl (fun ls hl => ?_)
  refine lv_aload_n hx hb dL_law_1357 rfl (lv_at hl 3 rfl) ?_
  refine va_calld (va_runV (rm := { frames := 3, cells := 0, slots := 0, locals := 65 }) (As := []) (rest := []) ⟨hx, hb, hml, hown, hts⟩ hMc (cwV 0 hts gL_law_X3_spiltShare rfl rfl rfl (by decide +kernel) ⟨Nat.le_of_ble_eq_true rfl, Nat.le_of_ble_eq_true rfl⟩) (q_pV (ci := 3) (q0 := 0) hM (hK.sub [0] rfl) rfl hw0) rfl rfl hl.1 rfl (lv_room (Nat.le_of_ble_eq_true rfl)) dL_law_1358 ⟨Nat.le_of_succ_le hcell, Nat.le_trans (Nat.le_add_right _ 6) hslot⟩) hS (fun q _ h => hAM q h) hAM (fun x6 _ t H locs ht _ e6 hM _ hk hS => ?_)
  rw [ht] at hM
  have e6 : v = x6 := Eq.symm e6
  subst e6
  have hC := hC.keptA hX0 hXM hk
  have hO := wO_kept hO hMo hk
  refine lv_dstore (lv' := [(7, .double v), (5, .double v), (4, .int (nI i)), (3, .ref oa), (2, .ref r.1), (1, .ref z.o), (0, .ref b)]) hx hb dL_law_1361 hl (by decide) rfl (fun ls hl => ?_)
  refine lv_dload hx hb dL_law_1363 (lv_at hl 1 rfl) ?_
  refine lv_dload hx hb dL_law_1365 (lv_at hl 0 rfl) ?_
  refine lv_dcmp hx hb dL_law_1367 ?_
  refine lv_if_eq (tgt := 1389) hx hb dL_law_1368 (by decide) (fun c1 => ?_) (fun c1 => ?_)
  ·
    refine lv_goto (tgt := 1449) hx hb dL_law_1389 (by decide) ?_
    refine W.widen (k := cells + 1) (n := slots + 6) (Nat.le_add_right _ 1) (Nat.le_add_right _ 6) ?_
    exact kk _ _ _ hC hM hO hS (lv_sub hl [2, 3, 4, 5, 6] rfl)
  ·
    refine lv_dload hx hb dL_law_1371 (lv_at hl 1 rfl) ?_
    refine lv_dload hx hb dL_law_1373 (lv_at hl 1 rfl) ?_
    refine lv_dcmp hx hb dL_law_1375 ?_
    refine lv_if_eq (tgt := 1387) hx hb dL_law_1376 (by decide) (fun c2 => absurd c2 c1) (fun c2 => ?_)
    refine lv_dload hx hb dL_law_1379 (lv_at hl 0 rfl) ?_
    refine lv_dload hx hb dL_law_1381 (lv_at hl 0 rfl) ?_
    refine lv_dcmp hx hb dL_law_1383 ?_
    refine lv_if_ne (tgt := 1389) hx hb dL_law_1384 (by decide) (fun _ => ?_) (fun c3 => absurd c3 c1)
    refine lv_goto (tgt := 1449) hx hb dL_law_1389 (by decide) ?_
    refine W.widen (k := cells + 1) (n := slots + 6) (Nat.le_add_right _ 1) (Nat.le_add_right _ 6) ?_
    exact kk _ _ _ hC hM hO hS (lv_sub hl [2, 3, 4, 5, 6] rfl)
set_option maxHeartbeats 4000000 in
set_option maxRecDepth 100000 in
theorem lw_meanTrust {p : Program} {l : Launch} {e : Env} {s : State} {m : MethodId} {args : Array Value} {below : List Frame} {meth : Method} {c : Code} {H : Heap} {locs : List Loc} {cells slots : Nat} {Q : State → Prop} {ls : Array Slot} {D : va_G} {z : Ad} {r : Mo} {oa : Nat} {cJ : ClassId} {st : Nat → Nat} {A : Nat → Prop} {b L : Nat} {xs : Nat → Int32} (hLC : q_LC p s m c args l D z r oa cJ st A b L xs) {i : Nat} (hi : i + 5 ≤ L) {M1 : Heap → Prop} {g : Int64} {v : UInt32} {wx w0 : va_W} {fx0 fs0 : List Value} (hv : vf_n64 (FP.f2d v)) 
    (hXc : q_Fl l yX2_meanTrust wsX2_meanTrust { frames := 2, cells := 0, slots := 0, locals := 45 } [.ref z.o] (q_bp D wx (tyX z)) (fun x => x = v) (fun H => True) (fun _ => False) 0 0) (hwx : wx[0]? = some (z.o, .inr (2, fx0))) (hX0 : ∀ (k : Nat) (q : Nat × va_E), wx[k]? = some q → AX z q.1)
    (hMc : q_Fl l yX3_meanTrust wsX3_meanTrust { frames := 3, cells := 0, slots := 0, locals := 64 } [.ref r.1] (q_bp D w0 [(z.cI, .int)]) (fun x => x = v) M1 (AMo r) 0 0) (hw0 : w0[0]? = some (r.1, .inr (3, fs0))) (hM0 : ∀ (k : Nat) (q : Nat × va_E), w0[k]? = some q → AMo r q.1)
    (hP : va_P D vwCl wx H) (hM : va_P D vwCl w0 H) (hO : va_P D vwCl (wO oa cJ g) H) (hS : va_S A s.heap H locs) (hl : lv_has ls 9 (q_lvL z r oa b i)) (hcell : cells + 1 ≤ 601024) (hslot : slots + 6 ≤ 7293034)
    (kk : ∀ (H1 : Heap) (locs1 : List Loc) (ls1 : Array Slot), va_P D vwCl wx H1 → M1 H1 → va_P D vwCl (wO oa cJ g) H1 → va_S A s.heap H1 locs1 → lv_has ls1 9 (q_lvL z r oa b i) → W p l e room_1 s m args below meth c H1 locs1 (cells + 1) (slots + 6) Q (F0 m 1449 ls1 [])) :
    W p l e room_1 s m args below meth c H locs cells slots Q (F0 m 1392 ls []) := by
  obtain ⟨⟨hx, hb, hml, hts, hown⟩, ⟨hl9, hK, hT⟩, ⟨hX, hbl, hbA, hL⟩, ⟨hAX, hAM, hAo, hXM, hMX, hMo, hoa⟩, hDX, hDR⟩ := hLC
  have hAXo : ∀ q, AXo z oa q → A q := fun q h => h.elim (hAX q) (fun e => by rw [e]; exact hAo)
  refine lv_aload_n hx hb dL_law_1392 rfl (lv_at hl 3 rfl) ?_
  refine va_callf (va_runV (rm := { frames := 2, cells := 0, slots := 0, locals := 45 }) (As := []) (rest := []) ⟨hx, hb, hml, hown, hts⟩ hXc (cwV 0 hts gL_law_X2_meanTrust rfl rfl rfl (by decide +kernel) ⟨Nat.le_of_ble_eq_true rfl, Nat.le_of_ble_eq_true rfl⟩) (q_pV (ci := 2) (q0 := 0) hP (hK.sub [0, 1] rfl) rfl hwx) rfl rfl hl.1 rfl (lv_room (Nat.le_of_ble_eq_true rfl)) dL_law_1393 ⟨Nat.le_of_succ_le hcell, Nat.le_trans (Nat.le_add_right _ 6) hslot⟩) hS (fun q _ h => (fun q h => h.elim) q h) (fun q h => h.elim) (fun x5 _ t H1 locs ht _ e5 hC _ hk hS => ?_)
  rw [ht] at hC
  have e5 : v = x5 := Eq.symm e5
  subst e5
  have hM := hM.keptA hM0 (fun q _ h2 => h2) hk
  have hO := wO_kept hO (fun h => h) hk
  have hC := hP.kept fun k q h => hk q.1 (hP k q h).lt (fun z => z)
  refine lv_f2d hx hb dL_law_1396 hv ?_
  refine lv_dstore (lv' := [(5, .double (FP.f2d v)), (4, .int (nI i)), (3, .ref oa), (2, .ref r.1), (1, .ref z.o), (0, .ref b)]) hx hb dL_law_1397 hl (by decide) rfl (fun ls hl => ?_)
  refine lv_aload_n hx hb dL_law_1399 rfl (lv_at hl 3 rfl) ?_
  refine va_callf (va_runV (rm := { frames := 3, cells := 0, slots := 0, locals := 64 }) (As := []) (rest := []) ⟨hx, hb, hml, hown, hts⟩ hMc (cwV 0 hts gL_law_X3_meanTrust rfl rfl rfl (by decide +kernel) ⟨Nat.le_of_ble_eq_true rfl, Nat.le_of_ble_eq_true rfl⟩) (q_pV (ci := 3) (q0 := 0) hM (hK.sub [0] rfl) rfl hw0) rfl rfl hl.1 rfl (lv_room (Nat.le_of_ble_eq_true rfl)) dL_law_1400 ⟨Nat.le_of_succ_le hcell, Nat.le_trans (Nat.le_add_right _ 6) hslot⟩) hS (fun q _ h => hAM q h) hAM (fun x6 _ t H locs ht _ e6 hM _ hk hS => ?_)
  rw [ht] at hM
  have e6 : v = x6 := Eq.symm e6
  subst e6
  have hC := hC.keptA hX0 hXM hk
  have hO := wO_kept hO hMo hk
  refine lv_f2d hx hb dL_law_1403 hv ?_
  refine lv_dstore (lv' := [(7, .double (FP.f2d v)), (5, .double (FP.f2d v)), (4, .int (nI i)), (3, .ref oa), (2, .ref r.1), (1, .ref z.o), (0, .ref b)]) hx hb dL_law_1404 hl (by decide) rfl (fun ls hl => ?_)
  refine lv_dload hx hb dL_law_1406 (lv_at hl 1 rfl) ?_
  refine lv_dload hx hb dL_law_1408 (lv_at hl 0 rfl) ?_
  refine lv_dcmp hx hb dL_law_1410 ?_
  refine lv_if_eq (tgt := 1432) hx hb dL_law_1411 (by decide) (fun c1 => ?_) (fun c1 => ?_)
  ·
    refine lv_goto (tgt := 1449) hx hb dL_law_1432 (by decide) ?_
    refine W.widen (k := cells + 1) (n := slots + 6) (Nat.le_add_right _ 1) (Nat.le_add_right _ 6) ?_
    exact kk _ _ _ hC hM hO hS (lv_sub hl [2, 3, 4, 5, 6] rfl)
  ·
    refine lv_dload hx hb dL_law_1414 (lv_at hl 1 rfl) ?_
    refine lv_dload hx hb dL_law_1416 (lv_at hl 1 rfl) ?_
    refine lv_dcmp hx hb dL_law_1418 ?_
    refine lv_if_eq (tgt := 1430) hx hb dL_law_1419 (by decide) (fun c2 => absurd c2 c1) (fun c2 => ?_)
    refine lv_dload hx hb dL_law_1422 (lv_at hl 0 rfl) ?_
    refine lv_dload hx hb dL_law_1424 (lv_at hl 0 rfl) ?_
    refine lv_dcmp hx hb dL_law_1426 ?_
    refine lv_if_ne (tgt := 1432) hx hb dL_law_1427 (by decide) (fun _ => ?_) (fun c3 => absurd c3 c1)
    refine lv_goto (tgt := 1449) hx hb dL_law_1432 (by decide) ?_
    refine W.widen (k := cells + 1) (n := slots + 6) (Nat.le_add_right _ 1) (Nat.le_add_right _ 6) ?_
    exact kk _ _ _ hC hM hO hS (lv_sub hl [2, 3, 4, 5, 6] rfl)
set_option maxHeartbeats 4000000 in
set_option maxRecDepth 100000 in
theorem lw_digest {p : Program} {l : Launch} {e : Env} {s : State} {m : MethodId} {args : Array Value} {below : List Frame} {meth : Method} {c : Code} {H : Heap} {locs : List Loc} {cells slots : Nat} {Q : State → Prop} {ls : Array Slot} {D : va_G} {z : Ad} {r : Mo} {oa : Nat} {cJ : ClassId} {st : Nat → Nat} {A : Nat → Prop} {b L : Nat} {xs : Nat → Int32} (hLC : q_LC p s m c args l D z r oa cJ st A b L xs) {i : Nat} (hi : i + 5 ≤ L) {C1 : Heap → Prop} {M1 : Heap → Prop} {g : Int64} {v : Int64} {wx w0 : va_W} {fx0 fs0 : List Value} 
    (hXc : q_Lg l yX2_digest wsX2_digest { frames := 6, cells := 0, slots := 0, locals := 140 } [.ref z.o] (q_bp D wx (tyX z)) (fun x => x = v) C1 (AX z) 0 0) (hwx : wx[0]? = some (z.o, .inr (2, fx0))) (hCk : ∀ (H H1 : Heap), C1 H → (∀ q : Nat, q < H.size → ¬ AMo r q → H1[q]? = H[q]?) → C1 H1)
    (hMc : q_Lg l yX3_digest wsX3_digest { frames := 9, cells := 0, slots := 0, locals := 206 } [.ref r.1] (q_bp D w0 [(z.cI, .int)]) (fun x => x = v) M1 (AMo r) 0 0) (hw0 : w0[0]? = some (r.1, .inr (3, fs0))) (hM0 : ∀ (k : Nat) (q : Nat × va_E), w0[k]? = some q → AMo r q.1)
    (hP : va_P D vwCl wx H) (hM : va_P D vwCl w0 H) (hO : va_P D vwCl (wO oa cJ g) H) (hS : va_S A s.heap H locs) (hl : lv_has ls 9 (q_lvL z r oa b i)) (hcell : cells + 1 ≤ 601024) (hslot : slots + 6 ≤ 7293034)
    (kk : ∀ (H1 : Heap) (locs1 : List Loc) (ls1 : Array Slot), C1 H1 → M1 H1 → va_P D vwCl (wO oa cJ g) H1 → va_S A s.heap H1 locs1 → lv_has ls1 9 (q_lvL z r oa b i) → W p l e room_1 s m args below meth c H1 locs1 (cells + 1) (slots + 6) Q (F0 m 1449 ls1 [])) :
    W p l e room_1 s m args below meth c H locs cells slots Q (F0 m 1435 ls []) := by
  obtain ⟨⟨hx, hb, hml, hts, hown⟩, ⟨hl9, hK, hT⟩, ⟨hX, hbl, hbA, hL⟩, ⟨hAX, hAM, hAo, hXM, hMX, hMo, hoa⟩, hDX, hDR⟩ := hLC
  have hAXo : ∀ q, AXo z oa q → A q := fun q h => h.elim (hAX q) (fun e => by rw [e]; exact hAo)
  refine lv_aload_n hx hb dL_law_1435 rfl (lv_at hl 3 rfl) ?_
  refine va_calll (va_runV (rm := { frames := 6, cells := 0, slots := 0, locals := 140 }) (As := []) (rest := []) ⟨hx, hb, hml, hown, hts⟩ hXc (cwV 0 hts gL_law_X2_digest rfl rfl rfl (by decide +kernel) ⟨Nat.le_of_ble_eq_true rfl, Nat.le_of_ble_eq_true rfl⟩) (q_pV (ci := 2) (q0 := 0) hP (hK.sub [0, 1] rfl) rfl hwx) rfl rfl hl.1 rfl (lv_room (Nat.le_of_ble_eq_true rfl)) dL_law_1436 ⟨Nat.le_of_succ_le hcell, Nat.le_trans (Nat.le_add_right _ 6) hslot⟩) hS (fun q _ h => hAX q h) hAX (fun x5 _ t H1 locs ht _ e5 hC _ hk hS => ?_)
  rw [ht] at hC
  have e5 : v = x5 := Eq.symm e5
  subst e5
  have hM := hM.keptA hM0 (fun q h1 h2 => hXM q h2 h1) hk
  have hO := wO_kept hO hoa hk
  refine lv_aload_n hx hb dL_law_1439 rfl (lv_at hl 2 rfl) ?_
  refine va_calll (va_runV (rm := { frames := 9, cells := 0, slots := 0, locals := 206 }) (As := []) (rest := [.long v]) ⟨hx, hb, hml, hown, hts⟩ hMc (cwV 0 hts gL_law_X3_digest rfl rfl rfl (by decide +kernel) ⟨Nat.le_of_ble_eq_true rfl, Nat.le_of_ble_eq_true rfl⟩) (q_pV (ci := 3) (q0 := 0) hM (hK.sub [0] rfl) rfl hw0) rfl rfl hl.1 rfl (lv_room (Nat.le_of_ble_eq_true rfl)) dL_law_1440 ⟨Nat.le_of_succ_le hcell, Nat.le_trans (Nat.le_add_right _ 6) hslot⟩) hS (fun q _ h => hAM q h) hAM (fun x6 _ t H locs ht _ e6 hM _ hk hS => ?_)
  rw [ht] at hM
  have e6 : v = x6 := Eq.symm e6
  subst e6
  have hC := hCk _ _ hC hk
  have hO := wO_kept hO hMo hk
  refine W.lcmp hx hb dL_law_1443 ?_
  refine lv_if_eq (tgt := 1449) hx hb dL_law_1444 (by decide) (fun _ => ?_) (fun c => absurd (lg_self _) c)
  refine W.widen (k := cells + 1) (n := slots + 6) (Nat.le_add_right _ 1) (Nat.le_add_right _ 6) ?_
  exact kk _ _ _ hC hM hO hS (lv_sub hl [0, 1, 2, 3, 4] rfl)
