set_option maxHeartbeats 4000000 in
set_option maxRecDepth 100000 in
theorem lw_midn {p : Program} {l : Launch} {e : Env} {s : State} {m : MethodId} {args : Array Value} {below : List Frame} {meth : Method} {c : Code} {H : Heap} {locs : List Loc} {cells slots : Nat} {Q : State → Prop} {ls : Array Slot} {D : va_G} {z y : Ad} {oa : Nat} {st : Nat → Nat} {A : Nat → Prop} {b L : Nat} {xs : Nat → Int32} (hLC : k_LC p s m c args l D z y oa st A b L xs) {i : Nat} {v : Int32} {B : Nat} (hB : B < 1000000) {T T1 : Nat → Int32} (hJ : Jv B T) {x : Int32} {k : Nat} (hk4 : k < 4) (hact : ∀ (z : Ad) (hoa : ¬ AX z oa) (hDX : va_D (fun _ => True) (wX z 0 0 0 f00 f00 f00 (fun _ => f00) 0 (0, 0, 0, 0) (fun _ => 0))) (g : Int32) (sn : Nat) (hsn : sn ≤ 6), k_H l yL_act wsL_act { frames := 9, cells := 1, slots := 6, locals := 164 } [.ref z.o, .int v, .ref oa] st D z oa (OS z D sn T) g (nI k) (CE k z D sn T T1) (OE k x)) (hkn : ¬ k = 0) {sn sm : Nat} (hsn : sn ≤ 6) {g : Int32} (hz : OS z D sn T H) (hy : OS y D sm T H) (hO : va_P D vwCl (wI oa z.cI g) H) (hS : va_S A s.heap H locs) (hl : lv_has ls 10 [(6, .int (nI sn)), (5, .int v), (4, .int (nI i)), (3, .ref oa), (2, .ref y.o), (1, .ref z.o), (0, .ref b)]) (hcell : cells + 2 ≤ 600104) (hslot : slots + 12 ≤ 7301314)
    (kk : ∀ (H1 : Heap) (locs1 : List Loc) (ls1 : Array Slot) (sn1 : Nat) (g1 told : Int32), sn1 ≤ 6 → OS z D sn1 T H1 → OS y D sm T H1 → va_P D vwCl (wI oa z.cI g1) H1 → (k = 0 → told = x) → va_S A s.heap H1 locs1 → lv_has ls1 10 [(8, .int told), (7, .int (nI k)), (5, .int v), (4, .int (nI i)), (3, .ref oa), (2, .ref y.o), (1, .ref z.o), (0, .ref b)] → W p l e room_1 s m args below meth c H1 locs1 (cells + 2) (slots + 12) Q (F0 m 171 ls1 [])) :
    W p l e room_1 s m args below meth c H locs cells slots Q (F0 m 64 ls []) := by
  obtain ⟨⟨hx, hb, hml, hts, hown⟩, ⟨hl9, hK, hT, eI, eS⟩, ⟨hX, hbl, hbA, hL⟩, ⟨hAz, hAy, hAo, hzy, hzo, hyo⟩, hDz, hDy⟩ := id hLC
  have hc1 : cells + 1 ≤ 600104 := by omega
  have hs1 : slots + 6 ≤ 7301314 := by omega
  refine lv_aload_n hx hb dL_law_64 rfl (lv_at hl 5 rfl) ?_
  refine lv_iload hx hb dL_law_65 (lv_at hl 1 rfl) ?_
  refine lv_aload_n hx hb dL_law_67 rfl (lv_at hl 3 rfl) ?_
  refine c_act hLC (w := z) hAz hK hl dL_law_68 (hact z hzo hDz g sn hsn) hz hO hS hc1 hs1 (fun H locs g1 hC hg1 hO hk hS => ?_)
  have hy := hy.kept (fun q h1 h2 => h2.elim (fun h3 => hzy q h3 h1) (fun h3 => hyo (h3 ▸ h1))) hk
  have hz : OS z D sn T H := by
    cases k with
    | zero => exact absurd rfl hkn
    | succ k => exact hC
  refine lv_istore (lv' := [(7, .int (nI k)), (6, .int (nI sn)), (5, .int v), (4, .int (nI i)), (3, .ref oa), (2, .ref y.o), (1, .ref z.o), (0, .ref b)]) hx hb dL_law_71 hl (by decide) rfl (fun ls hl => ?_)
  refine lv_aload_n hx hb dL_law_73 rfl (lv_at hl 4 rfl) ?_
  refine lv_iconst (v := nI 0) hx hb dL_law_74 (by decide) ?_
  refine k_ld0 hx hb hK hO 0 rfl dL_law_75 ?_
  refine lv_istore (lv' := [(8, .int g1), (7, .int (nI k)), (6, .int (nI sn)), (5, .int v), (4, .int (nI i)), (3, .ref oa), (2, .ref y.o), (1, .ref z.o), (0, .ref b)]) hx hb dL_law_76 hl (by decide) rfl (fun ls hl => ?_)
  refine lv_iload hx hb dL_law_78 (lv_at hl 1 rfl) ?_
  have hkz : ¬ nI k = 0 := fun c => hkn (nI_k0 hk4 c)
  refine lv_if_eq (tgt := 104) hx hb dL_law_80 (by decide) (fun c => absurd c hkz) (fun _ => ?_)
  refine lv_aload_n hx hb dL_law_83 rfl (lv_at hl 7 rfl) ?_
  refine lv_aload_n hx hb dL_law_84 rfl (lv_at hl 6 rfl) ?_
  refine c_alike hLC hl dL_law_85 hJ.1 (by omega) hz hy hO hS hc1 hs1 (fun H locs hz hy hO hS => ?_)
  refine lv_if_eq (tgt := 102) hx hb dL_law_88 (by decide) (fun c => absurd c (by decide)) (fun _ => ?_)
  refine lv_aload_n hx hb dL_law_91 rfl (lv_at hl 7 rfl) ?_
  refine lv_bipush (v := nI 9) hx hb dL_law_92 (by decide) ?_
  refine c_count hLC hl dL_law_94 hz hS hc1 hs1 (fun H locs hk hS => ?_)
  have hz := hz.kp hk
  have hy := hy.kp hk
  have hO := k_kp hO hk
  refine lv_iload hx hb dL_law_97 (lv_at hl 2 rfl) ?_
  refine lv_icmp_eq (tgt := 104) hx hb dL_law_99 (by decide) (fun _ => ?_) (fun c => absurd rfl c)
  refine lv_iload hx hb dL_law_104 (lv_at hl 1 rfl) ?_
  refine lv_if_ne (tgt := 171) hx hb dL_law_106 (by decide) (fun _ => ?_) (fun c => absurd (by first | exact c | exact Decidable.of_not_not c) hkz)
  refine W.widen (k := cells + 2) (n := slots + 12) (by omega) (by omega) ?_
  exact kk _ _ _ sn g1 g1 hsn hz hy hO (fun h => absurd h hkn) hS (lv_sub hl [0, 1, 3, 4, 5, 6, 7, 8] rfl)
set_option maxHeartbeats 4000000 in
set_option maxRecDepth 100000 in
theorem lw_midz {p : Program} {l : Launch} {e : Env} {s : State} {m : MethodId} {args : Array Value} {below : List Frame} {meth : Method} {c : Code} {H : Heap} {locs : List Loc} {cells slots : Nat} {Q : State → Prop} {ls : Array Slot} {D : va_G} {z y : Ad} {oa : Nat} {st : Nat → Nat} {A : Nat → Prop} {b L : Nat} {xs : Nat → Int32} (hLC : k_LC p s m c args l D z y oa st A b L xs) {i : Nat} {v : Int32} {B : Nat} (hB : B < 1000000) {T T1 : Nat → Int32} (hJ : Jv B T) {x : Int32} {k : Nat} (hk4 : k < 4) (hact : ∀ (z : Ad) (hoa : ¬ AX z oa) (hDX : va_D (fun _ => True) (wX z 0 0 0 f00 f00 f00 (fun _ => f00) 0 (0, 0, 0, 0) (fun _ => 0))) (g : Int32) (sn : Nat) (hsn : sn ≤ 6), k_H l yL_act wsL_act { frames := 9, cells := 1, slots := 6, locals := 164 } [.ref z.o, .int v, .ref oa] st D z oa (OS z D sn T) g (nI k) (CE k z D sn T T1) (OE k x)) (hk0 : k = 0) {sn sm : Nat} (hsn : sn ≤ 6) {g : Int32} (hz : OS z D sn T H) (hy : OS y D sm T H) (hO : va_P D vwCl (wI oa z.cI g) H) (hS : va_S A s.heap H locs) (hl : lv_has ls 10 [(6, .int (nI sn)), (5, .int v), (4, .int (nI i)), (3, .ref oa), (2, .ref y.o), (1, .ref z.o), (0, .ref b)]) (hcell : cells + 2 ≤ 600104) (hslot : slots + 12 ≤ 7301314)
    (kk : ∀ (H1 : Heap) (locs1 : List Loc) (ls1 : Array Slot) (sn1 : Nat) (g1 told : Int32), sn1 ≤ 6 → OS z D sn1 T1 H1 → OS y D sm T H1 → va_P D vwCl (wI oa z.cI g1) H1 → (k = 0 → told = x) → va_S A s.heap H1 locs1 → lv_has ls1 10 [(8, .int told), (7, .int (nI k)), (5, .int v), (4, .int (nI i)), (3, .ref oa), (2, .ref y.o), (1, .ref z.o), (0, .ref b)] → W p l e room_1 s m args below meth c H1 locs1 (cells + 2) (slots + 12) Q (F0 m 171 ls1 [])) :
    W p l e room_1 s m args below meth c H locs cells slots Q (F0 m 64 ls []) := by
  subst hk0
  obtain ⟨⟨hx, hb, hml, hts, hown⟩, ⟨hl9, hK, hT, eI, eS⟩, ⟨hX, hbl, hbA, hL⟩, ⟨hAz, hAy, hAo, hzy, hzo, hyo⟩, hDz, hDy⟩ := id hLC
  have hc1 : cells + 1 ≤ 600104 := by omega
  have hs1 : slots + 6 ≤ 7301314 := by omega
  have hpn := pn_lt hsn
  refine lv_aload_n hx hb dL_law_64 rfl (lv_at hl 5 rfl) ?_
  refine lv_iload hx hb dL_law_65 (lv_at hl 1 rfl) ?_
  refine lv_aload_n hx hb dL_law_67 rfl (lv_at hl 3 rfl) ?_
  refine c_act hLC (w := z) hAz hK hl dL_law_68 (hact z hzo hDz g sn hsn) hz hO hS hc1 hs1 (fun H locs g1 hC hg1 hO hk hS => ?_)
  have hy := hy.kept (fun q h1 h2 => h2.elim (fun h3 => hzy q h3 h1) (fun h3 => hyo (h3 ▸ h1))) hk
  have hz : OU z D (pn sn) T T1 H := hC
  have hg1 : g1 = x := hg1 rfl
  subst hg1
  refine lv_istore (lv' := [(7, .int (nI 0)), (6, .int (nI sn)), (5, .int v), (4, .int (nI i)), (3, .ref oa), (2, .ref y.o), (1, .ref z.o), (0, .ref b)]) hx hb dL_law_71 hl (by decide) rfl (fun ls hl => ?_)
  refine lv_aload_n hx hb dL_law_73 rfl (lv_at hl 4 rfl) ?_
  refine lv_iconst (v := nI 0) hx hb dL_law_74 (by decide) ?_
  refine k_ld0 hx hb hK hO 0 rfl dL_law_75 ?_
  refine lv_istore (lv' := [(8, .int g1), (7, .int (nI 0)), (6, .int (nI sn)), (5, .int v), (4, .int (nI i)), (3, .ref oa), (2, .ref y.o), (1, .ref z.o), (0, .ref b)]) hx hb dL_law_76 hl (by decide) rfl (fun ls hl => ?_)
  refine lv_iload hx hb dL_law_78 (lv_at hl 1 rfl) ?_
  refine lv_if_eq (tgt := 104) hx hb dL_law_80 (by decide) (fun _ => ?_) (fun c => absurd rfl c)
  refine lv_iload hx hb dL_law_104 (lv_at hl 1 rfl) ?_
  refine lv_if_ne (tgt := 171) hx hb dL_law_106 (by decide) (fun c => absurd rfl c) (fun _ => ?_)
  refine lv_iload hx hb dL_law_109 (lv_at hl 3 rfl) ?_
  refine lv_bipush (v := nI 9) hx hb dL_law_111 (by decide) ?_
  refine lv_ishr hx hb dL_law_113 ?_
  refine lv_iconst (v := nI 1) hx hb dL_law_114 (by decide) ?_
  refine lv_iand hx hb dL_law_115 ?_
  refine lv_if_ne (tgt := 171) hx hb dL_law_116 (by decide) (fun _ => ?_) (fun _ => ?_)
  · refine W.widen (k := cells + 2) (n := slots + 12) (by omega) (by omega) ?_
    exact kk _ _ _ (1 + pn sn) g1 g1 (by omega) hz.os hy hO (fun _ => rfl) hS (lv_sub hl [0, 1, 3, 4, 5, 6, 7, 8] rfl)
  refine lv_aload_n hx hb dL_law_119 rfl (lv_at hl 7 rfl) ?_
  refine c_undo hLC hl dL_law_120 hpn hz hS hc1 hs1 (fun H locs hz hk hS => ?_)
  have hy := hy.kept (fun q h1 h2 => hzy q h2 h1) hk
  have hO := wI_kept hO hzo hk
  refine lv_istore (lv' := [(9, .int (nI (pn sn))), (8, .int g1), (7, .int (nI 0)), (6, .int (nI sn)), (5, .int v), (4, .int (nI i)), (3, .ref oa), (2, .ref y.o), (1, .ref z.o), (0, .ref b)]) hx hb dL_law_123 hl (by decide) rfl (fun ls hl => ?_)
  refine lv_iload hx hb dL_law_125 (lv_at hl 0 rfl) ?_
  have J140 : ∀ q : Nat, q = pn sn → W p l e room_1 s m args below meth c H locs (cells + 1) (slots + 6) Q (F0 m 140 ls [.int (nI q), .int (nI (pn sn))]) := by
    intro q eq
    subst eq
    refine lv_icmp_ne (tgt := 169) hx hb dL_law_140 (by decide) (fun c => absurd rfl c) (fun _ => ?_)
    refine lv_aload_n hx hb dL_law_143 rfl (lv_at hl 8 rfl) ?_
    refine lv_aload_n hx hb dL_law_144 rfl (lv_at hl 7 rfl) ?_
    refine c_alike hLC hl dL_law_145 hJ.1 (by omega) hz hy hO hS hc1 hs1 (fun H locs hz hy hO hS => ?_)
    refine lv_if_eq (tgt := 169) hx hb dL_law_148 (by decide) (fun c => absurd c (by decide)) (fun _ => ?_)
    refine lv_aload_n hx hb dL_law_151 rfl (lv_at hl 8 rfl) ?_
    refine lv_iload hx hb dL_law_152 (lv_at hl 4 rfl) ?_
    refine lv_aload_n hx hb dL_law_154 rfl (lv_at hl 6 rfl) ?_
    refine c_act hLC (w := z) hAz hK hl dL_law_155 (hact z hzo hDz g1 (pn sn) (Nat.le_of_lt hpn)) hz hO hS (by omega) (by omega) (fun H locs g2 hC hg2 hO hk hS => ?_)
    have hy := hy.kept (fun q h1 h2 => h2.elim (fun h3 => hzy q h3 h1) (fun h3 => hyo (h3 ▸ h1))) hk
    have hz : OU z D (pn (pn sn)) T T1 H := hC
    have hg2 : g2 = g1 := hg2 rfl
    rw [hg2] at hO
    refine lv_if_ne (tgt := 169) hx hb dL_law_158 (by decide) (fun c => absurd rfl c) (fun _ => ?_)
    refine lv_aload_n hx hb dL_law_161 rfl (lv_at hl 6 rfl) ?_
    refine lv_iconst (v := nI 0) hx hb dL_law_162 (by decide) ?_
    refine k_ld0 hx hb hK hO 0 rfl dL_law_163 ?_
    refine lv_iload hx hb dL_law_164 (lv_at hl 1 rfl) ?_
    refine lv_icmp_eq (tgt := 171) hx hb dL_law_166 (by decide) (fun _ => ?_) (fun c => absurd rfl c)
    have hpn2 := pn_lt (Nat.le_of_lt hpn)
    refine W.widen (k := cells + 2) (n := slots + 12) (by omega) (by omega) ?_
    exact kk _ _ _ (1 + pn (pn sn)) g1 g1 (by omega) hz.os hy hO (fun _ => rfl) hS (lv_sub hl [1, 2, 4, 5, 6, 7, 8, 9] rfl)
  refine lv_iload hx hb dL_law_127 (lv_at hl 3 rfl) ?_
  refine lv_bipush (v := nI 6) hx hb dL_law_129 (by decide) ?_
  refine q_neN (tgt := 138) hx hb (by omega) (by omega) dL_law_131 (by decide) (fun c => ?_) (fun c => ?_)
  ·
    refine lv_iload hx hb dL_law_138 (lv_at hl 3 rfl) ?_
    exact J140 sn (by unfold pn; rw [if_neg c])
  ·
    refine lv_iconst (v := nI 5) hx hb dL_law_134 (by decide) ?_
    refine lv_goto (tgt := 140) hx hb dL_law_135 (by decide) ?_
    exact J140 5 (by unfold pn; rw [if_pos c])
