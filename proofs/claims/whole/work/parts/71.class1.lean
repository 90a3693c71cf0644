set_option maxHeartbeats 4000000 in
set_option maxRecDepth 100000 in
theorem m2_bitsOf (l : Launch) (D : va_G) (x : UInt64) (fb : Int32) (bias v : Int64) (hv : cbt x fb bias = some v) : q_Lg l yX2_bitsOf wsX2_bitsOf { frames := 0, cells := 0, slots := 0, locals := 0 } [.double x, .int fb, .long bias] (q_bp D ([]) []) (fun r => r = v) (fun H => True) (fun _ => False) 0 0 := by
  refine q_goL (cc := cX2_bitsOf) (maxL := 11) (lv0 := [(0, .double x), (2, .int fb), (3, .long bias)]) (by decide) rfl (Nat.le_of_ble_eq_true rfl) rfl ?_
  intro p e s m args below meth c Q ls hx hb hml hts hown hP hK hl hret
  have hS : va_S (fun _ => False) s.heap s.heap [] := va_S.rf
  refine lv_dload_n hx hb dX2_bitsOf_0 rfl (lv_at hl 0 rfl) ?_
  refine lv_dconst0 hx hb dX2_bitsOf_1 ?_
  refine lv_dcmp hx hb dX2_bitsOf_2 ?_
  refine lv_if_gt (tgt := 8) hx hb dX2_bitsOf_3 (by decide) (fun c1 => ?_) (fun c1 => ?_)
  ·
    refine lv_dload_n hx hb dX2_bitsOf_8 rfl (lv_at hl 0 rfl) ?_
    refine lv_dstore (lv' := [(5, .double x), (0, .double x), (2, .int fb), (3, .long bias)]) hx hb dX2_bitsOf_9 hl (by decide) rfl (fun ls hl => ?_)
    refine lv_lload_n hx hb dX2_bitsOf_11 rfl (lv_at hl 3 rfl) ?_
    refine lv_lstore (lv' := [(7, .long bias), (5, .double x), (0, .double x), (2, .int fb), (3, .long bias)]) hx hb dX2_bitsOf_12 hl (by decide) rfl (fun ls hl => ?_)
    refine lv_iconst (v := nI 0) hx hb dX2_bitsOf_14 (by decide) ?_
    refine lv_istore (lv' := [(9, .int (nI 0)), (7, .long bias), (5, .double x), (0, .double x), (2, .int fb), (3, .long bias)]) hx hb dX2_bitsOf_15 hl (by decide) rfl (fun ls hl => ?_)
    have LB : ∀ (n i : Nat) (P : Int64) (y : UInt64) (ls : Array Slot), i + n = 1101 → cb2 fb n P y = some v → lv_has ls 11 [(9, .int (nI i)), (7, .long P), (5, .double y), (3, .long bias), (2, .int fb), (0, .double x)] → W p l e { frames := 0, cells := 0, slots := 0, locals := 0 } s m args below meth c s.heap [] 0 0 Q (F0 m 57 ls []) := by
      intro n
      induction n with
      | zero => intro i P y ls hi hE hl; exact (cb2_0 hE).elim
      | succ n ih =>
        intro i P y ls hi hE hl
        refine lv_iload hx hb dX2_bitsOf_57 (lv_at hl 0 rfl) ?_
        refine lv_sipush (v := nI 1100) hx hb dX2_bitsOf_59 (by decide) ?_
        refine q_geN (tgt := 92) hx hb (by omega) (by omega) dX2_bitsOf_62 (by decide) (fun c2 => ?_) (fun c2 => ?_)
        ·
          obtain rfl : n = 0 := by omega
          have hs := cbe_s (cb2_1 hE)
          refine lv_dload hx hb dX2_bitsOf_92 (lv_at hl 2 rfl) ?_
          refine lv_dconst1 hx hb dX2_bitsOf_94 ?_
          refine lv_dsub hx hb dX2_bitsOf_95 hs.1 ?_
          refine lv_lconst (v := 1) hx hb dX2_bitsOf_96 rfl ?_
          refine lv_iload_n hx hb dX2_bitsOf_97 rfl (lv_at hl 4 rfl) ?_
          refine lv_lshl (v := (1 <<< (fb.toInt64 &&& 63))) hx hb dX2_bitsOf_98 rfl ?_
          refine lv_l2d  hx hb dX2_bitsOf_99 ?_
          refine lv_dmul hx hb dX2_bitsOf_100 hs.2.1 ?_
          refine lv_dstore (lv' := [(9, .double (FP.dmul (FP.dsub y FP.dconst1) (FP.l2d (1 <<< (fb.toInt64 &&& 63))))), (7, .long P), (5, .double y), (3, .long bias), (2, .int fb), (0, .double x)]) hx hb dX2_bitsOf_101 hl (by decide) rfl (fun ls hl => ?_)
          refine lv_lload hx hb dX2_bitsOf_103 (lv_at hl 1 rfl) ?_
          refine lv_iload_n hx hb dX2_bitsOf_105 rfl (lv_at hl 4 rfl) ?_
          refine lv_lshl (v := (P <<< (fb.toInt64 &&& 63))) hx hb dX2_bitsOf_106 rfl ?_
          refine lv_dload hx hb dX2_bitsOf_107 (lv_at hl 0 rfl) ?_
          refine lv_d2l  hx hb dX2_bitsOf_109 ?_
          refine lv_ladd hx hb dX2_bitsOf_110 ?_
          refine hret _ _ _ _ _ ?_ trivial hS dX2_bitsOf_111
          exact hs.2.2
        ·
          refine lv_dload hx hb dX2_bitsOf_65 (lv_at hl 2 rfl) ?_
          refine lv_dconst1 hx hb dX2_bitsOf_67 ?_
          refine lv_dcmp hx hb dX2_bitsOf_68 ?_
          refine lv_if_ge (tgt := 92) hx hb dX2_bitsOf_69 (by decide) (fun c3 => ?_) (fun c3 => ?_)
          ·
            have hs := cbe_s (cb2_e c3 hE)
            refine lv_dload hx hb dX2_bitsOf_92 (lv_at hl 2 rfl) ?_
            refine lv_dconst1 hx hb dX2_bitsOf_94 ?_
            refine lv_dsub hx hb dX2_bitsOf_95 hs.1 ?_
            refine lv_lconst (v := 1) hx hb dX2_bitsOf_96 rfl ?_
            refine lv_iload_n hx hb dX2_bitsOf_97 rfl (lv_at hl 4 rfl) ?_
            refine lv_lshl (v := (1 <<< (fb.toInt64 &&& 63))) hx hb dX2_bitsOf_98 rfl ?_
            refine lv_l2d  hx hb dX2_bitsOf_99 ?_
            refine lv_dmul hx hb dX2_bitsOf_100 hs.2.1 ?_
            refine lv_dstore (lv' := [(9, .double (FP.dmul (FP.dsub y FP.dconst1) (FP.l2d (1 <<< (fb.toInt64 &&& 63))))), (7, .long P), (5, .double y), (3, .long bias), (2, .int fb), (0, .double x)]) hx hb dX2_bitsOf_101 hl (by decide) rfl (fun ls hl => ?_)
            refine lv_lload hx hb dX2_bitsOf_103 (lv_at hl 1 rfl) ?_
            refine lv_iload_n hx hb dX2_bitsOf_105 rfl (lv_at hl 4 rfl) ?_
            refine lv_lshl (v := (P <<< (fb.toInt64 &&& 63))) hx hb dX2_bitsOf_106 rfl ?_
            refine lv_dload hx hb dX2_bitsOf_107 (lv_at hl 0 rfl) ?_
            refine lv_d2l  hx hb dX2_bitsOf_109 ?_
            refine lv_ladd hx hb dX2_bitsOf_110 ?_
            refine hret _ _ _ _ _ ?_ trivial hS dX2_bitsOf_111
            exact hs.2.2
          ·
            have hs := cb2_s c3 hE
            refine lv_dload hx hb dX2_bitsOf_72 (lv_at hl 2 rfl) ?_
            refine lv_ldc2d hx hb hown (hts (.constantDouble RX2 244 (4611686018427387904)) (by decide +kernel)) dX2_bitsOf_74 ?_
            refine lv_dmul hx hb dX2_bitsOf_77 hs.1 ?_
            refine lv_dstore (lv' := [(5, .double (FP.dmul y 4611686018427387904)), (9, .int (nI i)), (7, .long P), (3, .long bias), (2, .int fb), (0, .double x)]) hx hb dX2_bitsOf_78 hl (by decide) rfl (fun ls hl => ?_)
            refine lv_lload hx hb dX2_bitsOf_80 (lv_at hl 2 rfl) ?_
            refine lv_lconst (v := 1) hx hb dX2_bitsOf_82 rfl ?_
            refine lv_lsub hx hb dX2_bitsOf_83 ?_
            refine lv_lstore (lv' := [(7, .long (P - 1)), (5, .double (FP.dmul y 4611686018427387904)), (9, .int (nI i)), (3, .long bias), (2, .int fb), (0, .double x)]) hx hb dX2_bitsOf_84 hl (by decide) rfl (fun ls hl => ?_)
            refine lv_iinc (v := (nI (i + 1))) (lv' := [(9, .int (nI (i + 1))), (7, .long (P - 1)), (5, .double (FP.dmul y 4611686018427387904)), (3, .long bias), (2, .int fb), (0, .double x)]) hx hb dX2_bitsOf_86 hl (k := 2) rfl (q_inc i 1 (i + 1) (by omega)) (by decide) rfl (fun ls hl => ?_)
            refine lv_goto (tgt := 57) hx hb dX2_bitsOf_89 (by decide) ?_
            exact ih (i + 1) _ _ _ (by omega) hs.2 (lv_sub hl [0, 1, 2, 3, 4, 5] rfl)
    have LA : ∀ (n i : Nat) (P : Int64) (y : UInt64) (ls : Array Slot), i + n = 1101 → cb1 fb n P y = some v → lv_has ls 11 [(9, .int (nI i)), (7, .long P), (5, .double y), (3, .long bias), (2, .int fb), (0, .double x)] → W p l e { frames := 0, cells := 0, slots := 0, locals := 0 } s m args below meth c s.heap [] 0 0 Q (F0 m 17 ls []) := by
      intro n
      induction n with
      | zero => intro i P y ls hi hE hl; exact (cb1_0 hE).elim
      | succ n ih =>
        intro i P y ls hi hE hl
        refine lv_iload hx hb dX2_bitsOf_17 (lv_at hl 0 rfl) ?_
        refine lv_sipush (v := nI 1100) hx hb dX2_bitsOf_19 (by decide) ?_
        refine q_geN (tgt := 54) hx hb (by omega) (by omega) dX2_bitsOf_22 (by decide) (fun c4 => ?_) (fun c4 => ?_)
        ·
          obtain rfl : n = 0 := by omega
          have hE2 := cb1_1 hE
          refine lv_iconst (v := nI 0) hx hb dX2_bitsOf_54 (by decide) ?_
          refine lv_istore (lv' := [(9, .int (nI 0)), (7, .long P), (5, .double y), (3, .long bias), (2, .int fb), (0, .double x)]) hx hb dX2_bitsOf_55 hl (by decide) rfl (fun ls hl => ?_)
          exact LB 1101 0 _ _ _ (by omega) hE2 (lv_sub hl [0, 1, 2, 3, 4, 5] rfl)
        ·
          refine lv_dload hx hb dX2_bitsOf_25 (lv_at hl 2 rfl) ?_
          refine lv_ldc2d hx hb hown (hts (.constantDouble RX2 244 (4611686018427387904)) (by decide +kernel)) dX2_bitsOf_27 ?_
          refine lv_dcmp hx hb dX2_bitsOf_30 ?_
          refine lv_if_lt (tgt := 54) hx hb dX2_bitsOf_31 (by decide) (fun c5 => ?_) (fun c5 => ?_)
          ·
            have hE2 := cb1_e c5 hE
            refine lv_iconst (v := nI 0) hx hb dX2_bitsOf_54 (by decide) ?_
            refine lv_istore (lv' := [(9, .int (nI 0)), (7, .long P), (5, .double y), (3, .long bias), (2, .int fb), (0, .double x)]) hx hb dX2_bitsOf_55 hl (by decide) rfl (fun ls hl => ?_)
            exact LB 1101 0 _ _ _ (by omega) hE2 (lv_sub hl [0, 1, 2, 3, 4, 5] rfl)
          ·
            have hs := cb1_s c5 hE
            refine lv_dload hx hb dX2_bitsOf_34 (lv_at hl 2 rfl) ?_
            refine lv_ldc2d hx hb hown (hts (.constantDouble RX2 244 (4611686018427387904)) (by decide +kernel)) dX2_bitsOf_36 ?_
            refine lv_ddiv hx hb dX2_bitsOf_39 hs.1 ?_
            refine lv_dstore (lv' := [(5, .double (FP.ddiv y 4611686018427387904)), (9, .int (nI i)), (7, .long P), (3, .long bias), (2, .int fb), (0, .double x)]) hx hb dX2_bitsOf_40 hl (by decide) rfl (fun ls hl => ?_)
            refine lv_lload hx hb dX2_bitsOf_42 (lv_at hl 2 rfl) ?_
            refine lv_lconst (v := 1) hx hb dX2_bitsOf_44 rfl ?_
            refine lv_ladd hx hb dX2_bitsOf_45 ?_
            refine lv_lstore (lv' := [(7, .long (P + 1)), (5, .double (FP.ddiv y 4611686018427387904)), (9, .int (nI i)), (3, .long bias), (2, .int fb), (0, .double x)]) hx hb dX2_bitsOf_46 hl (by decide) rfl (fun ls hl => ?_)
            refine lv_iinc (v := (nI (i + 1))) (lv' := [(9, .int (nI (i + 1))), (7, .long (P + 1)), (5, .double (FP.ddiv y 4611686018427387904)), (3, .long bias), (2, .int fb), (0, .double x)]) hx hb dX2_bitsOf_48 hl (k := 2) rfl (q_inc i 1 (i + 1) (by omega)) (by decide) rfl (fun ls hl => ?_)
            refine lv_goto (tgt := 17) hx hb dX2_bitsOf_51 (by decide) ?_
            exact ih (i + 1) _ _ _ (by omega) hs.2 (lv_sub hl [0, 1, 2, 3, 4, 5] rfl)
    exact LA 1101 0 bias x _ (by omega) (cbt_1 c1 hv) (lv_sub hl [0, 1, 2, 5, 4, 3] rfl)
  ·
    refine lv_lconst (v := 0) hx hb dX2_bitsOf_6 rfl ?_
    refine hret _ _ _ _ _ ?_ trivial hS dX2_bitsOf_7
    exact cbt_0 c1 hv
