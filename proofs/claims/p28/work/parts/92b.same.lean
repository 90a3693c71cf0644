set_option maxHeartbeats 4000000 in
set_option maxRecDepth 100000 in
theorem lw_same {p : Program} {l : Launch} {e : Env} {s : State} {m : MethodId} {args : Array Value} {below : List Frame} {meth : Method} {c : Code} {H : Heap} {locs : List Loc} {cells slots : Nat} {Q : State → Prop} {ls : Array Slot} {D : va_G} {z y : Ad} {oa : Nat} {st : Nat → Nat} {A : Nat → Prop} {b L : Nat} {xs : Nat → Int32} (hLC : k_LC p s m c args l D z y oa st A b L xs) {i k : Nat} (hk4 : k < 4) {B : Nat} (hB : B < 1000000) {T T1 : Nat → Int32} (hI : Inv B T1) {sn sm : Nat} {g v told : Int32} {C1 : Heap → Prop} {O1 : Int32 → Prop} (hz : OS z D sn T1 H) (hy : OS y D sm T H) (hO : va_P D vwCl (wI oa z.cI g) H) (hS : va_S A s.heap H locs) (hl : lv_has ls 10 [(8, .int told), (7, .int (nI k)), (5, .int v), (4, .int (nI i)), (3, .ref oa), (2, .ref y.o), (1, .ref z.o), (0, .ref b)]) (hcell : cells + 1 ≤ 600104) (hslot : slots + 6 ≤ 7301314)
    (hC0 : k_H l yL_act wsL_act { frames := 9, cells := 1, slots := 6, locals := 164 } [.ref y.o, .int v, .ref oa] st D y oa (OS y D sm T) g (nI k) C1 O1) (hC1 : ∀ H : Heap, C1 H → ∃ s2, s2 ≤ 6 ∧ OS y D s2 T1 H) (hg : ∀ g', O1 g' → k = 0 → g' = told)
    (kk : ∀ (H1 : Heap) (locs1 : List Loc) (s2 : Nat) (g1 : Int32), s2 ≤ 6 → OS z D sn T1 H1 → OS y D s2 T1 H1 → va_P D vwCl (wI oa z.cI g1) H1 → va_S A s.heap H1 locs1 → lv_has ls 10 [(5, .int v), (4, .int (nI i)), (3, .ref oa), (2, .ref y.o), (1, .ref z.o), (0, .ref b)] → W p l e room_1 s m args below meth c H1 locs1 (cells + 1) (slots + 6) Q (F0 m 206 ls [])) :
    W p l e room_1 s m args below meth c H locs cells slots Q (F0 m 171 ls []) := by
  obtain ⟨⟨hx, hb, hml, hts, hown⟩, ⟨hl9, hK, hT, eI, eS⟩, ⟨hX, hbl, hbA, hL⟩, ⟨hAz, hAy, hAo, hzy, hzo, hyo⟩, hDz, hDy⟩ := id hLC
  have hl0 : lv_has ls 10 [(5, .int v), (4, .int (nI i)), (3, .ref oa), (2, .ref y.o), (1, .ref z.o), (0, .ref b)] := (lv_sub hl [2, 3, 4, 5, 6, 7] rfl)
  have hKy : va_K D vwCl (tyX y) s := by show va_K D vwCl [(y.cI, FieldType.int), (y.cS, FieldType.object RX1)] s; rw [eI, eS]; exact hK
  have hO : va_P D vwCl (wI oa y.cI g) H := by rw [eI]; exact hO
  refine lv_aload_n hx hb dL_law_171 rfl (lv_at hl 5 rfl) ?_
  refine lv_iload hx hb dL_law_172 (lv_at hl 2 rfl) ?_
  refine lv_aload_n hx hb dL_law_174 rfl (lv_at hl 4 rfl) ?_
  refine c_act hLC (w := y) hAy hKy hl dL_law_175 hC0 hy hO hS hcell hslot (fun H locs g1 hC hg1 hO hk hS => ?_)
  have hz := hz.kept (fun q h1 h2 => h2.elim (fun h3 => hzy q h1 h3) (fun h3 => hzo (h3 ▸ h1))) hk
  obtain ⟨s2, hs2, hy⟩ := hC1 _ hC
  rw [eI] at hO
  refine lv_iload hx hb dL_law_178 (lv_at hl 1 rfl) ?_
  refine lv_icmp_ne (tgt := 204) hx hb dL_law_180 (by decide) (fun c => absurd c (fun c2 => c2 rfl)) (fun _ => ?_)
  have J196 : W p l e room_1 s m args below meth c H locs (cells + 1) (slots + 6) Q (F0 m 196 ls []) := by
    refine lv_aload_n hx hb dL_law_196 rfl (lv_at hl 6 rfl) ?_
    refine lv_aload_n hx hb dL_law_197 rfl (lv_at hl 5 rfl) ?_
    refine c_alike hLC hl dL_law_198 hI (by omega) hz hy hO hS hcell hslot (fun H locs hz hy hO hS => ?_)
    refine lv_if_ne (tgt := 206) hx hb dL_law_201 (by decide) (fun _ => ?_) (fun c => absurd c (by decide))
    exact kk _ _ s2 g1 hs2 hz hy hO hS hl0
  refine lv_iload hx hb dL_law_183 (lv_at hl 1 rfl) ?_
  refine lv_if_ne (tgt := 196) hx hb dL_law_185 (by decide) (fun _ => J196) (fun c => ?_)
  have hk0 : k = 0 := nI_k0 hk4 (by first | exact c | exact Decidable.of_not_not c)
  have eg := hg g1 hg1 hk0
  subst eg
  refine lv_aload_n hx hb dL_law_188 rfl (lv_at hl 4 rfl) ?_
  refine lv_iconst (v := nI 0) hx hb dL_law_189 (by decide) ?_
  refine k_ld0 hx hb hK hO 0 rfl dL_law_190 ?_
  refine lv_iload hx hb dL_law_191 (lv_at hl 0 rfl) ?_
  refine lv_icmp_ne (tgt := 204) hx hb dL_law_193 (by decide) (fun c => absurd c (fun c2 => c2 rfl)) (fun _ => ?_)
  exact J196
