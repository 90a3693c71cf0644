theorem sw_31 (x : Int32) : ∃ w, w < 32 ∧ x &&& nI 31 = nI w := by
  refine ⟨(x &&& nI 31).toBitVec.toNat, ?_, ?_⟩
  · rw [Int32.toBitVec_and, BitVec.toNat_and]
    exact Nat.lt_of_le_of_lt Nat.and_le_right (by decide)
  · show x &&& nI 31 = Int32.ofNat _
    apply Int32.toBitVec_inj.mp
    simp
theorem li_neg {L i : Nat} (h : L < 5) (hi : i < 2 ^ 31) : nI L - nI 5 < nI i := by
  have e5 : (nI 5).toInt = 5 := rfl
  have eL : (nI L).toInt = (L : Int) := t_nI (by omega)
  rw [t_lt, t_sub (by rw [eL, e5]; omega) (by rw [eL, e5]; omega), eL, e5, t_nI hi]
  omega
set_option maxHeartbeats 8000000 in
set_option maxRecDepth 100000 in
theorem law_loop {p : Program} {l : Launch} {e : Env} {s : State} {m : MethodId} {args : Array Value} {below : List Frame} {meth : Method} {c : Code} {Q : State → Prop} {D : va_G} {z : Ad} {r : Mo} {oa : Nat} {cJ : ClassId} {st : Nat → Nat} {A : Nat → Prop} {b L : Nat} {xs : Nat → Int32} (hLC : q_LC p s m c args l D z r oa cJ st A b L xs)
    (hend : ∀ (H : Heap) (locs : List Loc) (ls : Array Slot) (cells slots : Nat), va_S A s.heap H locs → cells ≤ 601024 → slots ≤ 7293034 → W p l e room_1 s m args below meth c H locs cells slots Q (F0 m 1455 ls [])) :
    ∀ (n i cells slots B : Nat) (H : Heap) (locs : List Loc) (ls : Array Slot), L ≤ i + 5 * n → i ≤ L + 5 → cells + n ≤ 601024 → slots + 6 * n ≤ 7293034 → B + 100000 * n ≤ 52000000 → LSt z r oa cJ D B H → va_S A s.heap H locs → lv_has ls 9 (q_lvL z r oa b i) → W p l e room_1 s m args below meth c H locs cells slots Q (F0 m 23 ls []) := by
  obtain ⟨⟨hx, hb, hml, hts, hown⟩, ⟨hl9, hK, hT⟩, ⟨hX, hbl, hbA, hL⟩, ⟨hAX, hAM, hAo, hXM, hMX, hMo, hoa⟩, hDX, hDR⟩ := id hLC
  intro n
  induction n with
  | zero =>
    intro i cells slots B H locs ls h1 h2 h3 h4 h5 hSt hS hl
    refine lv_iload hx hb dL_law_23 (lv_at hl 0 rfl) ?_
    refine lv_aload_n hx hb dL_law_25 rfl (lv_at hl 4 rfl) ?_
    refine va_slen hx hb hX hbl hbA hS dL_law_26 ?_
    refine q_top (show Int32.ofNat L = nI L from rfl) ?_
    refine lv_iconst (v := nI 5) hx hb dL_law_27 (by decide) ?_
    by_cases hL5 : 5 ≤ L
    ·
      refine q_subN hx hb (L - 5) (by omega) dL_law_28 ?_
      refine q_gtN (tgt := 1455) hx hb (by omega) (by omega) dL_law_29 (by decide) (fun _ => ?_) (fun c1 => absurd c1 (by omega))
      exact hend _ _ _ _ _ hS (by omega) (by omega)
    ·
      refine lv_isub hx hb dL_law_28 ?_
      refine lv_icmp_gt (tgt := 1455) hx hb dL_law_29 (by decide) (fun _ => hend _ _ _ _ _ hS (by omega) (by omega)) (fun c1 => absurd (li_neg (by omega) (by omega)) c1)
  | succ n ih =>
    intro i cells slots B H locs ls h1 h2 h3 h4 h5 hSt hS hl
    refine lv_iload hx hb dL_law_23 (lv_at hl 0 rfl) ?_
    refine lv_aload_n hx hb dL_law_25 rfl (lv_at hl 4 rfl) ?_
    refine va_slen hx hb hX hbl hbA hS dL_law_26 ?_
    refine q_top (show Int32.ofNat L = nI L from rfl) ?_
    refine lv_iconst (v := nI 5) hx hb dL_law_27 (by decide) ?_
    by_cases hL5 : 5 ≤ L
    ·
      refine q_subN hx hb (L - 5) (by omega) dL_law_28 ?_
      refine q_gtN (tgt := 1455) hx hb (by omega) (by omega) dL_law_29 (by decide) (fun _ => hend _ _ _ _ _ hS (by omega) (by omega)) (fun c1 => ?_)
      have hi : i + 5 ≤ L := by omega
      have back : ∀ (H1 : Heap) (locs1 : List Loc) (ls1 : Array Slot), LSt z r oa cJ D (B + 100000) H1 → va_S A s.heap H1 locs1 → lv_has ls1 9 (q_lvL z r oa b i) → W p l e room_1 s m args below meth c H1 locs1 (cells + 1) (slots + 6) Q (F0 m 1449 ls1 []) := by
        intro H1 locs1 ls1 hSt1 hS1 hl1
        refine lv_iinc (v := nI (i + 5)) (lv' := q_lvL z r oa b (i + 5)) hx hb dL_law_1449 hl1 (k := 0) rfl (q_inc i 5 (i + 5) rfl) (by decide) rfl (fun ls hl => ?_)
        refine lv_goto (tgt := 23) hx hb dL_law_1452 (by decide) ?_
        exact ih (i + 5) _ _ _ _ _ _ (by omega) (by omega) (by omega) (by omega) (by omega) hSt1 hS1 hl
      refine lv_aload_n hx hb dL_law_32 rfl (lv_at hl 4 rfl) ?_
      refine lv_iload hx hb dL_law_33 (lv_at hl 0 rfl) ?_
      refine q_sld hx hb hX hbl hbA hS (j := i) (by omega) hL dL_law_35 ?_
      refine lv_bipush (v := nI 31) hx hb dL_law_36 (by decide) ?_
      refine lv_iand hx hb dL_law_38 ?_
      obtain ⟨w, hw, ew⟩ := sw_31 (xs i)
      refine q_top ew ?_
      rcases (show w = 0 ∨ w = 1 ∨ w = 2 ∨ w = 3 ∨ w = 4 ∨ w = 5 ∨ w = 6 ∨ w = 7 ∨ w = 8 ∨ w = 9 ∨ w = 10 ∨ w = 11 ∨ w = 12 ∨ w = 13 ∨ w = 14 ∨ w = 15 ∨ w = 16 ∨ w = 17 ∨ w = 18 ∨ w = 19 ∨ w = 20 ∨ w = 21 ∨ w = 22 ∨ w = 23 ∨ w = 24 ∨ 25 ≤ w by omega) with rfl | rfl | rfl | rfl | rfl | rfl | rfl | rfl | rfl | rfl | rfl | rfl | rfl | rfl | rfl | rfl | rfl | rfl | rfl | rfl | rfl | rfl | rfl | rfl | rfl | hw25
      ·
        refine q_ts (off := 113) (tgt := 152) hx hb (by omega) dL_law_39 rfl rfl (by decide) ?_
        exact ls_like hLC hi (by omega) (by omega) hSt hS hl (by omega) (by omega) back
      ·
        refine q_ts (off := 205) (tgt := 244) hx hb (by omega) dL_law_39 rfl rfl (by decide) ?_
        exact ls_cup hLC hi (by omega) (by omega) hSt hS hl (by omega) (by omega) back
      ·
        refine q_ts (off := 273) (tgt := 312) hx hb (by omega) dL_law_39 rfl rfl (by decide) ?_
        exact ls_sip hLC hi (by omega) (by omega) hSt hS hl (by omega) (by omega) back
      ·
        refine q_ts (off := 329) (tgt := 368) hx hb (by omega) dL_law_39 rfl rfl (by decide) ?_
        exact ls_brew hLC hi (by omega) (by omega) hSt hS hl (by omega) (by omega) back
      ·
        refine q_ts (off := 397) (tgt := 436) hx hb (by omega) dL_law_39 rfl rfl (by decide) ?_
        exact ls_pour hLC hi (by omega) (by omega) hSt hS hl (by omega) (by omega) back
      ·
        refine q_ts (off := 453) (tgt := 492) hx hb (by omega) dL_law_39 rfl rfl (by decide) ?_
        exact ls_hand hLC hi (by omega) (by omega) hSt hS hl (by omega) (by omega) back
      ·
        refine q_ts (off := 521) (tgt := 560) hx hb (by omega) dL_law_39 rfl rfl (by decide) ?_
        exact ls_round hLC hi (by omega) (by omega) hSt hS hl (by omega) (by omega) back
      ·
        refine q_ts (off := 577) (tgt := 616) hx hb (by omega) dL_law_39 rfl rfl (by decide) ?_
        exact ls_append hLC hi (by omega) (by omega) hSt hS hl (by omega) (by omega) back
      ·
        refine q_ts (off := 633) (tgt := 672) hx hb (by omega) dL_law_39 rfl rfl (by decide) ?_
        exact ls_clearBuffer hLC hi (by omega) (by omega) hSt hS hl (by omega) (by omega) back
      ·
        refine q_ts (off := 646) (tgt := 685) hx hb (by omega) dL_law_39 rfl rfl (by decide) ?_
        exact ls_firstError hLC hi (by omega) (by omega) hSt hS hl (by omega) (by omega) back
      ·
        refine q_ts (off := 659) (tgt := 698) hx hb (by omega) dL_law_39 rfl rfl (by decide) ?_
        exact ls_run hLC hi (by omega) (by omega) hSt hS hl (by omega) (by omega) back
      ·
        refine q_ts (off := 703) (tgt := 742) hx hb (by omega) dL_law_39 rfl rfl (by decide) ?_
        exact ls_keep hLC hi (by omega) (by omega) hSt hS hl (by omega) (by omega) back
      ·
        refine q_ts (off := 716) (tgt := 755) hx hb (by omega) dL_law_39 rfl rfl (by decide) ?_
        exact ls_goBack hLC hi (by omega) (by omega) hSt hS hl (by omega) (by omega) back
      ·
        refine q_ts (off := 760) (tgt := 799) hx hb (by omega) dL_law_39 rfl rfl (by decide) ?_
        exact ls_undo hLC hi (by omega) (by omega) hSt hS hl (by omega) (by omega) back
      ·
        refine q_ts (off := 804) (tgt := 843) hx hb (by omega) dL_law_39 rfl rfl (by decide) ?_
        exact ls_guest hLC hi (by omega) (by omega) hSt hS hl (by omega) (by omega) back
      ·
        refine q_ts (off := 872) (tgt := 911) hx hb (by omega) dL_law_39 rfl rfl (by decide) ?_
        exact ls_pot hLC hi (by omega) (by omega) hSt hS hl (by omega) (by omega) back
      ·
        refine q_ts (off := 940) (tgt := 979) hx hb (by omega) dL_law_39 rfl rfl (by decide) ?_
        exact ls_told hLC hi (by omega) (by omega) hSt hS hl (by omega) (by omega) back
      ·
        refine q_ts (off := 1008) (tgt := 1047) hx hb (by omega) dL_law_39 rfl rfl (by decide) ?_
        exact ls_tale hLC hi (by omega) (by omega) hSt hS hl (by omega) (by omega) back
      ·
        refine q_ts (off := 1076) (tgt := 1115) hx hb (by omega) dL_law_39 rfl rfl (by decide) ?_
        exact ls_count hLC hi (by omega) (by omega) hSt hS hl (by omega) (by omega) back
      ·
        refine q_ts (off := 1132) (tgt := 1171) hx hb (by omega) dL_law_39 rfl rfl (by decide) ?_
        exact ls_ifPoured hLC hi (by omega) (by omega) hSt hS hl (by omega) (by omega) back
      ·
        refine q_ts (off := 1200) (tgt := 1239) hx hb (by omega) dL_law_39 rfl rfl (by decide) ?_
        exact ls_emptyIn hLC hi (by omega) (by omega) hSt hS hl (by omega) (by omega) back
      ·
        refine q_ts (off := 1256) (tgt := 1295) hx hb (by omega) dL_law_39 rfl rfl (by decide) ?_
        exact ls_bestGuest hLC hi (by omega) (by omega) hSt hS hl (by omega) (by omega) back
      ·
        refine q_ts (off := 1312) (tgt := 1351) hx hb (by omega) dL_law_39 rfl rfl (by decide) ?_
        exact ls_spiltShare hLC hi (by omega) (by omega) hSt hS hl (by omega) (by omega) back
      ·
        refine q_ts (off := 1353) (tgt := 1392) hx hb (by omega) dL_law_39 rfl rfl (by decide) ?_
        exact ls_meanTrust hLC hi (by omega) (by omega) hSt hS hl (by omega) (by omega) back
      ·
        refine q_ts (off := 1396) (tgt := 1435) hx hb (by omega) dL_law_39 rfl rfl (by decide) ?_
        exact ls_digest hLC hi (by omega) (by omega) hSt hS hl (by omega) (by omega) back
      ·
        refine q_ts (off := 1410) (tgt := 1449) hx hb (by omega) dL_law_39 rfl (if_pos (Or.inr (by omega))) (by decide) ?_
        obtain ⟨ol, sn, hs, T, S, G, len, ch, th, fv, fn, fx, g, hR, hC, hM, hO⟩ := hSt
        refine W.widen (k := cells + 1) (n := slots + 6) (by omega) (by omega) ?_
        exact back _ _ _ ⟨_, _, _, _, _, _, _, _, _, _, _, _, _, hR.mono, hC, hM, hO⟩ hS hl
    ·
      refine lv_isub hx hb dL_law_28 ?_
      refine lv_icmp_gt (tgt := 1455) hx hb dL_law_29 (by decide) (fun _ => hend _ _ _ _ _ hS (by omega) (by omega)) (fun c1 => absurd (li_neg (by omega) (by omega)) c1)
