set_option maxHeartbeats 8000000 in
set_option maxRecDepth 100000 in
theorem whole_start {p : Program} {e : Env} {s : State} {m : MethodId} {below : List Frame} {meth : Method} {c : Code} (l : Launch) (hflags : l.flags = flags0) {b L : Nat} {xs : Nat → Int32} (hL : L ≤ 260) (C0 : lw_At p s m meth c b L xs) : W p l e room_1 s m #[Value.ref b] below meth c s.heap [] 0 0 (lw_Z below #[Value.ref b] s) (entryFrame m ([Value.ref b] : List Value).toArray 10) := by
  obtain ⟨hx, hb, hr, hml, hown, htbl, hX, hbl, hlocks, hgv⟩ := C0
  have hl9 : l.stackTraces = false := by unfold Launch.stackTraces; rw [hflags]; decide +kernel
  have hb : c.code = cL_law := hb
  have hown : s.vm.findClass RL = some m.cls := hown
  have hts : ∀ w ∈ wsL_law, w.before #[Value.ref b] s = true := fun w h => htbl w (wsL_law_in w h)
  have hfl := flat_of_before _ hgv
  have hi0 : ∀ w ∈ wsX00, w ∈ lw_tbl := wsL_law_iX00
  have hi1 : ∀ w ∈ wsX10, w ∈ lw_tbl := wsL_law_iX10
  have hi2 : ∀ w ∈ wsX20, w ∈ lw_tbl := wsL_law_iX20
  obtain ⟨c0, i0, k0⟩ := u_known (C := RX0) (T := TX0) (N := 6) htbl hi0 (htbl (.instantiable RX0 6) (by decide +kernel))
  obtain ⟨c1, i1, k1⟩ := u_known (C := RX1) (T := TX1) (N := 1) htbl hi1 (htbl (.instantiable RX1 1) (by decide +kernel))
  obtain ⟨c2, i2, k2⟩ := u_known (C := RX2) (T := TX2) (N := 8) htbl hi2 (htbl (.instantiable RX2 8) (by decide +kernel))
  obtain ⟨cI, hcI, hcI2⟩ := q_arrI (htbl (.arrayClass .int) (by decide +kernel))
  obtain ⟨cS, hcS, hcS2⟩ := q_arrS (htbl (.arrayOver (.object RX1)) (by decide +kernel))
  have hAO : va_AO RX1 s := va_AO.of (htbl (.arrayOver (.object RX1)) (by decide +kernel))
  have hNw : va_Nw (.methodLinkNest RX2 28 yX0_init RX2) s := va_Nw.of rfl (htbl _ (by decide +kernel))
  obtain ⟨D, hDd⟩ : ∃ D : va_G, D = ((fun c => match c with | 0 => c0 | 1 => c1 | _ => c2), (fun c => match c with | 0 => i0 | 1 => i1 | _ => i2)) := ⟨_, rfl⟩
  have hK : va_K D vwCl [(cI, .int), (cS, .object RX1)] s := by
    subst hDd
    refine ⟨fun c q hq => ?_, fun k q hq => ?_⟩
    · match c, hq with
      | 0, hq => cases hq; exact k0
      | 1, hq => cases hq; exact k1
      | 2, hq => cases hq; exact k2
      | c + 3, hq => simp at hq
    · match k, hq with
      | 0, hq => cases hq; exact ⟨hcI, hcI2⟩
      | 1, hq => cases hq; exact ⟨hcS, hcS2⟩
      | k + 2, hq => simp at hq
  have hcur : s.vm.findClass RX2 = some c2 := k2.2.1
  obtain ⟨st, hst⟩ := q_stE (s := s) (fun i tx hi => q_str hcur (htbl (.stringRef RX2 i tx) (q_strsIn i tx hi)))
  obtain ⟨A, hAd⟩ : ∃ A : Nat → Prop, A = (fun q => s.heap.size ≤ q) := ⟨_, rfl⟩
  have hA : ∀ q : Nat, s.heap.size ≤ q → A q := fun q h => by rw [hAd]; exact h
  have hA0 : ∀ q : Nat, q < s.heap.size → ¬ A q := fun q h => by rw [hAd]; exact Nat.not_le.mpr h
  have hbA : ¬ A b := hA0 b hbl
  have hini := htbl (.initialized Bundle.tN) (by decide +kernel)
  have hT : q_ty A st s := ⟨⟨vx_Zqof (htbl (.laysStatic Bundle.tN "UNASSIGNED_STACK" Bundle.steD) (by decide +kernel)) hini (hfl _ (by decide +kernel)) hA0, vx_Zqof (htbl (.laysStatic Bundle.tN "SUPPRESSED_SENTINEL" Bundle.listD) (by decide +kernel)) hini (hfl _ (by decide +kernel)) hA0, hst,
    va_Nw.of rfl (htbl _ (by decide +kernel)), va_Nw.of rfl (htbl _ (by decide +kernel)), va_Nw.of rfl (htbl _ (by decide +kernel)), va_Nw.of rfl (htbl _ (by decide +kernel)), va_Nw.of rfl (htbl _ (by decide +kernel)), va_Nw.of rfl (htbl _ (by decide +kernel))⟩,
    va_Nc.of (hfl (.not (.castable xA.cls xI.cls)) (by decide +kernel)), va_Nc.of (hfl (.not (.castable xS.cls xI.cls)) (by decide +kernel)), va_Nc.of (hfl (.not (.castable xS.cls xA.cls)) (by decide +kernel))⟩
  have hS : va_S A s.heap s.heap [] := va_S.rf
  have hP : va_P D vwCl [] s.heap := fun k q hq => by simp at hq
  have hD : va_D A [] := ⟨fun i j p q hp => by simp at hp, fun k q hq => by simp at hq⟩
  rw [lg_entry_eq]
  have hl := lv_entry ([.ref b]) (n := 10) (Nat.le_of_ble_eq_true rfl)
  generalize (lg_sl ([.ref b]) ++ List.replicate (10 - (lg_sl ([.ref b])).length) Slot.unset).toArray = ls at hl ⊢
  have hl : lv_has ls 10 [(0, .ref b)] := hl
  refine va_new (D := D) (ci := 2) (fs := [.null, .null, .null, .null, .null, .int (nI 0), .int (nI 0), .int (nI 0)]) (C := RX2) (T := TX2) (N := 8) hx hb htbl hi2 tyX2 tyX2_ok hown (hts (.classLink RL 9 RX2) (by decide +kernel)) (htbl (.instantiable RX2 8) (by decide +kernel)) (hts (.initialized RX2) (by decide +kernel)) hK hP hD hS hA rfl (fun j hj => by rcases (show j = 0 ∨ j = 1 ∨ j = 2 ∨ j = 3 ∨ j = 4 ∨ j = 5 ∨ j = 6 ∨ j = 7 by omega) with rfl | rfl | rfl | rfl | rfl | rfl | rfl | rfl <;> rfl) (Nat.le_of_ble_eq_true rfl) (Nat.le_of_ble_eq_true rfl) dL_law_0 (fun x0 H hP hD hS => ?_)
  have hP : va_P D vwCl [(x0, .inr (2, [.null, .null, .null, .null, .null, .int (nI 0), .int (nI 0), .int (nI 0)]))] H := hP
  have hD : va_D A [(x0, .inr (2, [.null, .null, .null, .null, .null, .int (nI 0), .int (nI 0), .int (nI 0)]))] := hD
  refine lv_dup hx hb dL_law_3 rfl ?_
  have hFc := va_free (wc := [(x0, .inr (2, [.null, .null, .null, .null, .null, .int (nI 0), .int (nI 0), .int (nI 0)]))]) hD hS hA [0] rfl
  refine va_callv (va_runI (rm := { frames := 3, cells := 21, slots := 1323, locals := 60 }) (As := []) (rest := [.ref x0]) ⟨hx, hb, hml, hown, hts⟩ (m2_init l D cI cS x0 H.size) (cwI 0 hts gL_law_X2_init rfl rfl rfl (hts (.initialized RX2) (by decide +kernel)) (hts (.methodLink RL 90 yX2_init) (by decide +kernel)) (hts (.instanceMethod yX2_init) (by decide +kernel)) rfl (by decide +kernel) ⟨Nat.le_of_ble_eq_true rfl, Nat.le_of_ble_eq_true rfl⟩) (q_pC2 hP hK hD hAO hNw) rfl rfl hl.1 rfl (lv_room (Nat.le_of_ble_eq_true rfl)) dL_law_4 ⟨Nat.le_of_ble_eq_true rfl, Nat.le_of_ble_eq_true rfl⟩) hS (fun q _ h => hFc q h) hFc (fun u t H locs ht hvm h5 hB hz1 hk1 hS => ?_)
  obtain ⟨z, rfl, rfl, rfl, rfl⟩ := h5
  obtain ⟨hP1, hD1⟩ := hB
  rw [ht] at hP1
  obtain ⟨hP, hD⟩ := va_join (wr := []) (w1 := wX z 0 0 0 f00 f00 f00 (fun _ => f00) 0 (0, 0, 0, 0) (fun _ => 0)) hP hD [0] [] rfl rfl (by decide) (by decide) hk1 hFc hP1 hD1
  have hP : va_P D vwCl (wX z 0 0 0 f00 f00 f00 (fun _ => f00) 0 (0, 0, 0, 0) (fun _ => 0)) H := hP
  have hD : va_D A (wX z 0 0 0 f00 f00 f00 (fun _ => f00) 0 (0, 0, 0, 0) (fun _ => 0)) := hD
  refine lv_astore_n (lv' := [(1, .ref z.o), (0, .ref b)]) hx hb dL_law_7 rfl hl (by decide) rfl (fun ls hl => ?_)
  refine va_new (D := D) (ci := 2) (fs := [.null, .null, .null, .null, .null, .int (nI 0), .int (nI 0), .int (nI 0)]) (C := RX2) (T := TX2) (N := 8) hx hb htbl hi2 tyX2 tyX2_ok hown (hts (.classLink RL 9 RX2) (by decide +kernel)) (htbl (.instantiable RX2 8) (by decide +kernel)) (hts (.initialized RX2) (by decide +kernel)) hK hP hD hS hA rfl (fun j hj => by rcases (show j = 0 ∨ j = 1 ∨ j = 2 ∨ j = 3 ∨ j = 4 ∨ j = 5 ∨ j = 6 ∨ j = 7 by omega) with rfl | rfl | rfl | rfl | rfl | rfl | rfl | rfl <;> rfl) (Nat.le_of_ble_eq_true rfl) (Nat.le_of_ble_eq_true rfl) dL_law_8 (fun x3 H hP hD hS => ?_)
  refine lv_dup hx hb dL_law_11 rfl ?_
  have hPc := hP.sub (ws' := [(x3, .inr (2, [.null, .null, .null, .null, .null, .int (nI 0), .int (nI 0), .int (nI 0)]))]) [22] rfl
  have hDc := hD.sub (ws' := [(x3, .inr (2, [.null, .null, .null, .null, .null, .int (nI 0), .int (nI 0), .int (nI 0)]))]) [22] (by decide) rfl
  have hFc := va_free (wc := [(x3, .inr (2, [.null, .null, .null, .null, .null, .int (nI 0), .int (nI 0), .int (nI 0)]))]) hD hS hA [22] rfl
  refine va_callv (va_runI (rm := { frames := 3, cells := 21, slots := 1323, locals := 60 }) (As := []) (rest := [.ref x3]) ⟨hx, hb, hml, hown, hts⟩ (m2_init l D z.cI z.cS x3 H.size) (cwI 0 hts gL_law_X2_init rfl rfl rfl (hts (.initialized RX2) (by decide +kernel)) (hts (.methodLink RL 90 yX2_init) (by decide +kernel)) (hts (.instanceMethod yX2_init) (by decide +kernel)) rfl (by decide +kernel) ⟨Nat.le_of_ble_eq_true rfl, Nat.le_of_ble_eq_true rfl⟩) (q_pC2 hPc hK hDc hAO hNw) rfl rfl hl.1 rfl (lv_room (Nat.le_of_ble_eq_true rfl)) dL_law_12 ⟨Nat.le_of_ble_eq_true rfl, Nat.le_of_ble_eq_true rfl⟩) hS (fun q _ h => hFc q h) hFc (fun u t H locs ht hvm h5 hB hz1 hk1 hS => ?_)
  obtain ⟨y, ey, eI, eS, eu⟩ := h5
  subst ey
  subst eu
  obtain ⟨hP1, hD1⟩ := hB
  rw [ht] at hP1
  obtain ⟨hP, hD⟩ := va_join (wr := wX z 0 0 0 f00 f00 f00 (fun _ => f00) 0 (0, 0, 0, 0) (fun _ => 0)) (w1 := wX y 0 0 0 f00 f00 f00 (fun _ => f00) 0 (0, 0, 0, 0) (fun _ => 0)) hP hD [22] [0, 1, 2, 3, 4, 5, 6, 7, 8, 9, 10, 11, 12, 13, 14, 15, 16, 17, 18, 19, 20, 21] rfl rfl (by decide) (by decide) hk1 hFc hP1 hD1
  refine lv_astore_n (lv' := [(2, .ref y.o), (1, .ref z.o), (0, .ref b)]) hx hb dL_law_15 rfl hl (by decide) rfl (fun ls hl => ?_)
  refine lv_iconst (v := nI 1) hx hb dL_law_16 (by decide) ?_
  refine q_newa hx hb (htbl (.arrayClass .int) (by decide +kernel)) hK 0 rfl hP hD hS hA (n := nI 1) (N := 1) (by decide) (nI_clamp (Nat.le_of_ble_eq_true rfl)) (Nat.le_of_ble_eq_true rfl) (Nat.le_of_ble_eq_true rfl) (Nat.le_of_ble_eq_true rfl) dL_law_17 (fun oa H hP hD hS => ?_)
  refine lv_astore_n (lv' := [(3, .ref oa), (2, .ref y.o), (1, .ref z.o), (0, .ref b)]) hx hb dL_law_19 rfl hl (by decide) rfl (fun ls hl => ?_)
  refine lv_iconst (v := nI 0) hx hb dL_law_20 (by decide) ?_
  refine lv_istore (lv' := k_lv z y oa b 0) hx hb dL_law_21 hl (by decide) rfl (fun ls hl => ?_)
  have hP0 : va_P D vwCl (((wX z 0 0 0 f00 f00 f00 (fun _ => f00) 0 (0, 0, 0, 0) (fun _ => 0)) ++ (wX y 0 0 0 f00 f00 f00 (fun _ => f00) 0 (0, 0, 0, 0) (fun _ => 0))) ++ wI oa z.cI (nI 0)) H := hP
  have hD0 : va_D A (((wX z 0 0 0 f00 f00 f00 (fun _ => f00) 0 (0, 0, 0, 0) (fun _ => 0)) ++ (wX y 0 0 0 f00 f00 f00 (fun _ => f00) 0 (0, 0, 0, 0) (fun _ => 0))) ++ wI oa z.cI (nI 0)) := hD
  have hD1 : va_D A ((wX z 0 0 0 f00 f00 f00 (fun _ => f00) 0 (0, 0, 0, 0) (fun _ => 0)) ++ ((wX y 0 0 0 f00 f00 f00 (fun _ => f00) 0 (0, 0, 0, 0) (fun _ => 0)) ++ wI oa z.cI (nI 0))) := by rw [← List.append_assoc]; exact hD0
  have hPZ : va_P D vwCl (wX z 0 0 0 f00 f00 f00 (fun _ => f00) 0 (0, 0, 0, 0) (fun _ => 0)) H := hP0.sub [0, 1, 2, 3, 4, 5, 6, 7, 8, 9, 10, 11, 12, 13, 14, 15, 16, 17, 18, 19, 20, 21] rfl
  have hPY : va_P D vwCl (wX y 0 0 0 f00 f00 f00 (fun _ => f00) 0 (0, 0, 0, 0) (fun _ => 0)) H := hP0.sub [22, 23, 24, 25, 26, 27, 28, 29, 30, 31, 32, 33, 34, 35, 36, 37, 38, 39, 40, 41, 42, 43] rfl
  have hPO : va_P D vwCl (wI oa z.cI (nI 0)) H := hP0.sub [44] rfl
  have hDZ : va_D A (wX z 0 0 0 f00 f00 f00 (fun _ => f00) 0 (0, 0, 0, 0) (fun _ => 0)) := hD0.sub [0, 1, 2, 3, 4, 5, 6, 7, 8, 9, 10, 11, 12, 13, 14, 15, 16, 17, 18, 19, 20, 21] (by decide) rfl
  have hDY : va_D A (wX y 0 0 0 f00 f00 f00 (fun _ => f00) 0 (0, 0, 0, 0) (fun _ => 0)) := hD0.sub [22, 23, 24, 25, 26, 27, 28, 29, 30, 31, 32, 33, 34, 35, 36, 37, 38, 39, 40, 41, 42, 43] (by decide) rfl
  have hoA : A oa := hD0.2 44 _ rfl
  have ofX : ∀ (w : Ad) (q : Nat), AX w q → ∃ (k : Nat) (e : va_E), (wX w 0 0 0 f00 f00 f00 (fun _ => f00) 0 (0, 0, 0, 0) (fun _ => 0))[k]? = some (q, e) := fun w q h => AX_of (ol := 0) (sn := 0) (hs := 0) (T := f00) (S := f00) (Y := f00) (G := fun _ => f00) (len := 0) (P := (0, 0, 0, 0)) (ch := fun _ => 0) h
  have dZY : ∀ q, AX z q → ¬ AX y q := fun q h1 h2 => by
    obtain ⟨k, ex, hk⟩ := ofX z q h1
    obtain ⟨k2, ex2, hk2⟩ := ofX y q h2
    exact q_dis (w2 := (wX y 0 0 0 f00 f00 f00 (fun _ => f00) 0 (0, 0, 0, 0) (fun _ => 0)) ++ wI oa z.cI (nI 0)) hD1 hk (k2 := k2) (q2 := (q, ex2)) (by rw [List.getElem?_append_left (List.getElem?_eq_some_iff.mp hk2).1]; exact hk2) rfl
  have dZo : ¬ AX z oa := fun h1 => by
    obtain ⟨k, ex, hk⟩ := ofX z oa h1
    exact q_dis (w2 := (wX y 0 0 0 f00 f00 f00 (fun _ => f00) 0 (0, 0, 0, 0) (fun _ => 0)) ++ wI oa z.cI (nI 0)) hD1 hk (k2 := 22) (q2 := (oa, .inl (z.cI, 1, .inl (fun _ => nI 0)))) rfl rfl
  have dYo : ¬ AX y oa := fun h1 => by
    obtain ⟨k2, ex2, hk2⟩ := ofX y oa h1
    exact q_dis hD0 (k1 := 22 + k2) (q1 := (oa, ex2)) (k2 := 0) (q2 := (oa, .inl (z.cI, 1, .inl (fun _ => nI 0)))) (by rw [List.getElem?_append_right (show (wX z 0 0 0 f00 f00 f00 (fun _ => f00) 0 (0, 0, 0, 0) (fun _ => 0)).length ≤ 22 + k2 from Nat.le_add_right 22 k2)]; rw [show 22 + k2 - (wX z 0 0 0 f00 f00 f00 (fun _ => f00) 0 (0, 0, 0, 0) (fun _ => 0)).length = k2 from Nat.add_sub_cancel_left 22 k2]; exact hk2) rfl rfl
  have hAZ : ∀ q, AX z q → A q := fun q h1 => by
    obtain ⟨k, ex, hk⟩ := ofX z q h1
    exact hDZ.2 k _ hk
  have hAY : ∀ q, AX y q → A q := fun q h1 => by
    obtain ⟨k, ex, hk⟩ := ofX y q h1
    exact hDY.2 k _ hk
  have hLC : k_LC p s m c #[Value.ref b] l D z y oa st A b L xs :=
    ⟨⟨hx, hb, hml, hts, hown⟩, ⟨hl9, hK, hT, eI, eS⟩, ⟨hX, hbl, hbA, hL⟩, ⟨hAZ, hAY, hoA, dZY, dZo, dYo⟩, hDZ.weaken (fun _ _ _ _ => trivial), hDY.weaken (fun _ _ _ _ => trivial)⟩
  refine law_loop hLC ?_ 56 0 _ _ 0 0 f00 (nI 0) _ _ _ (by omega) (Nat.le_of_ble_eq_true rfl) (Nat.le_of_ble_eq_true rfl) (by omega) (by omega) js_f00 ⟨0, _, _, _, _, _, by omega, hPZ⟩ ⟨0, _, _, _, _, _, by omega, hPY⟩ hPO hS hl
  intro H locs ls cells slots hS hc hs
  refine va_forget (fun q hq => by have h := hS.2.2 q hq; rw [hAd] at h; exact h) ?_
  refine W.widen hc hs ?_
  exact lw_ret (d0 := s.drawn) (Drawn.sameBut.refl s.drawn lw_cs) hx hb hr hlocks dL_law_281
