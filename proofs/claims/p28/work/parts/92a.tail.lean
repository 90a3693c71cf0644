set_option maxHeartbeats 4000000 in
set_option maxRecDepth 100000 in
theorem lw_tail {p : Program} {l : Launch} {e : Env} {s : State} {m : MethodId} {args : Array Value} {below : List Frame} {meth : Method} {c : Code} {H : Heap} {locs : List Loc} {cells slots : Nat} {Q : State → Prop} {ls : Array Slot} {D : va_G} {z y : Ad} {oa : Nat} {st : Nat → Nat} {A : Nat → Prop} {b L : Nat} {xs : Nat → Int32} (hLC : k_LC p s m c args l D z y oa st A b L xs) {i : Nat} (hi : i < 56) {B : Nat} (hB : B < 1000000) {T : Nat → Int32} (hJ : Jv B T) {sn sm : Nat} (hsn : sn ≤ 6) {g v : Int32} (hz : OS z D sn T H) (hy : OS y D sm T H) (hO : va_P D vwCl (wI oa z.cI g) H) (hS : va_S A s.heap H locs) (hl : lv_has ls 10 [(5, .int v), (4, .int (nI i)), (3, .ref oa), (2, .ref y.o), (1, .ref z.o), (0, .ref b)]) (hcell : cells + 1 ≤ 600104) (hslot : slots + 6 ≤ 7301314)
    (kk : ∀ (H1 : Heap) (locs1 : List Loc) (sn1 : Nat) (g1 : Int32), sn1 ≤ 6 → OS z D sn1 T H1 → OS y D sm T H1 → va_P D vwCl (wI oa z.cI g1) H1 → va_S A s.heap H1 locs1 → lv_has ls 10 (k_lv z y oa b i) → W p l e room_1 s m args below meth c H1 locs1 (cells + 1) (slots + 6) Q (F0 m 271 ls [])) :
    W p l e room_1 s m args below meth c H locs cells slots Q (F0 m 206 ls []) := by
  obtain ⟨⟨hx, hb, hml, hts, hown⟩, ⟨hl9, hK, hT, eI, eS⟩, ⟨hX, hbl, hbA, hL⟩, ⟨hAz, hAy, hAo, hzy, hzo, hyo⟩, hDz, hDy⟩ := id hLC
  have hl0 : lv_has ls 10 (k_lv z y oa b i) := (lv_sub hl [1, 2, 3, 4, 5] rfl)
  have hI := hJ.1
  have hB8 : 8 * B < 2147483648 := by omega
  have hB2 : B + 33600 < 2000000000 := by omega
  have hc0 : cells ≤ 600104 := by omega
  have hs0 : slots ≤ 7301314 := by omega
  refine lv_iload hx hb dL_law_206 (lv_at hl 1 rfl) ?_
  refine lv_iconst (v := nI 3) hx hb dL_law_208 (by decide) ?_
  refine q_remN hx hb (i % 3) rfl (by omega) (by omega) (by omega) dL_law_209 ?_
  refine lv_iconst (v := nI 2) hx hb dL_law_210 (by decide) ?_
  refine q_neN (tgt := 271) hx hb (by omega) (by omega) dL_law_211 (by decide) (fun _ => ?_) (fun _ => ?_)
  · refine W.widen (k := cells + 1) (n := slots + 6) (Nat.le_add_right _ 1) (Nat.le_add_right _ 6) ?_
    exact kk _ _ sn g hsn hz hy hO hS hl0
  refine lv_aload_n hx hb dL_law_214 rfl (lv_at hl 4 rfl) ?_
  refine c_sums hLC hl dL_law_215 hJ hB8 hz hS hc0 hs0 (fun H locs hk hS => ?_)
  have hz := hz.kp hk
  have hy := hy.kp hk
  have hO := k_kp hO hk
  refine lv_if_eq (tgt := 269) hx hb dL_law_218 (by decide) (fun c => absurd c (by decide)) (fun _ => ?_)
  refine lv_aload_n hx hb dL_law_221 rfl (lv_at hl 4 rfl) ?_
  refine lv_iload hx hb dL_law_222 (lv_at hl 0 rfl) ?_
  refine lv_bipush (v := nI 6) hx hb dL_law_224 (by decide) ?_
  refine lv_ishr hx hb dL_law_226 ?_
  refine lv_iconst (v := nI 3) hx hb dL_law_227 (by decide) ?_
  refine c_low hLC hl dL_law_228 hO hS hc0 hs0 (fun H locs hk hS => ?_)
  have hz := hz.kp hk
  have hy := hy.kp hk
  have hO := k_kp hO hk
  obtain ⟨n, hn, en⟩ := lw_3 (v >>> (nI 6 &&& 31))
  refine k_top en ?_
  refine lv_aload_n hx hb dL_law_231 rfl (lv_at hl 2 rfl) ?_
  refine c_pour hLC hl dL_law_232 hI hB2 hsn hn hz hO hS hcell hslot (fun H locs sn1 g1 hsn1 hz hO hk hS => ?_)
  have hy := hy.kept (fun q h1 h2 => h2.elim (fun h3 => hzy q h3 h1) (fun h3 => hyo (h3 ▸ h1))) hk
  refine lv_if_eq (tgt := 269) hx hb dL_law_235 (by decide) (fun c => absurd c (by decide)) (fun _ => ?_)
  refine lv_aload_n hx hb dL_law_238 rfl (lv_at hl 4 rfl) ?_
  refine lv_iload hx hb dL_law_239 (lv_at hl 0 rfl) ?_
  refine lv_bipush (v := nI 8) hx hb dL_law_241 (by decide) ?_
  refine lv_ishr hx hb dL_law_243 ?_
  refine lv_iconst (v := nI 3) hx hb dL_law_244 (by decide) ?_
  refine c_low hLC hl dL_law_245 hO hS hcell hslot (fun H locs hk hS => ?_)
  have hz := hz.kp hk
  have hy := hy.kp hk
  have hO := k_kp hO hk
  obtain ⟨n2, hn2, en2⟩ := lw_3 (v >>> (nI 8 &&& 31))
  refine k_top en2 ?_
  refine lv_iload hx hb dL_law_248 (lv_at hl 0 rfl) ?_
  refine lv_bipush (v := nI 7) hx hb dL_law_250 (by decide) ?_
  refine lv_ishr hx hb dL_law_252 ?_
  refine lv_iconst (v := nI 1) hx hb dL_law_253 (by decide) ?_
  refine lv_iand hx hb dL_law_254 ?_
  obtain ⟨n3, hn3, en3⟩ := an_1 (v >>> (nI 7 &&& 31))
  refine k_top en3 ?_
  refine c_hand hLC hl dL_law_255 hI hB2 hsn1 hn2 hn3 hz hS hcell hslot (fun H locs sn2 hsn2 hz hk hS => ?_)
  have hy := hy.kept (fun q h1 h2 => hzy q h2 h1) hk
  have hO := wI_kept hO hzo hk
  refine lv_if_eq (tgt := 269) hx hb dL_law_258 (by decide) (fun c => absurd c (by decide)) (fun _ => ?_)
  refine lv_aload_n hx hb dL_law_261 rfl (lv_at hl 4 rfl) ?_
  refine lv_aload_n hx hb dL_law_262 rfl (lv_at hl 3 rfl) ?_
  refine c_alike hLC hl dL_law_263 hI hB8 hz hy hO hS hcell hslot (fun H locs hz hy hO hS => ?_)
  refine lv_if_ne (tgt := 271) hx hb dL_law_266 (by decide) (fun _ => ?_) (fun c => absurd c (by decide))
  exact kk _ _ sn2 g1 hsn2 hz hy hO hS hl0
