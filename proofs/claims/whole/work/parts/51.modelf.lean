set_option maxHeartbeats 4000000 in
set_option maxRecDepth 100000 in
theorem m3_bitsOf (l : Launch) (D : va_G) (x : UInt64) (v : Int64) (hv : rbt x = some v) : q_Lg l yX3_bitsOf wsX3_bitsOf { frames := 0, cells := 0, slots := 0, locals := 0 } [.double x] (q_bp D ([]) []) (fun r => r = v) (fun H => True) (fun _ => False) 0 0 := by
  refine q_goL (cc := cX3_bitsOf) (maxL := 6) (lv0 := [(0, .double x)]) (by decide) rfl (Nat.le_of_ble_eq_true rfl) rfl ?_
  intro p e s m args below meth c Q ls hx hb hml hts hown hP hK hl hret
  have hS : va_S (fun _ => False) s.heap s.heap [] := va_S.rf
  refine lv_dload_n hx hb dX3_bitsOf_0 rfl (lv_at hl 0 rfl) ?_
  refine lv_dconst0 hx hb dX3_bitsOf_1 ?_
  refine lv_dcmp hx hb dX3_bitsOf_2 ?_
  refine lv_if_ne (tgt := 8) hx hb dX3_bitsOf_3 (by decide) (fun c1 => ?_) (fun c1 => ?_)
  ·
    refine lv_ldc2 hx hb hown (hts (.constantLong RX3 185 (1023)) (by decide +kernel)) dX3_bitsOf_8 ?_
    refine lv_lstore_n (lv' := [(2, .long 1023), (0, .double x)]) hx hb dX3_bitsOf_11 rfl hl (by decide) rfl (fun ls hl => ?_)
    refine lv_dload_n hx hb dX3_bitsOf_12 rfl (lv_at hl 1 rfl) ?_
    refine lv_dstore (lv' := [(4, .double x), (2, .long 1023), (0, .double x)]) hx hb dX3_bitsOf_13 hl (by decide) rfl (fun ls hl => ?_)
    have LP : ∀ (n : Nat) (P : Int64) (y : UInt64) (ls : Array Slot), rbl n P y = some v → lv_has ls 6 [(2, .long P), (4, .double y), (0, .double x)] → W p l e { frames := 0, cells := 0, slots := 0, locals := 0 } s m args below meth c s.heap [] 0 0 Q (F0 m 15 ls []) := by
      intro n
      induction n with
      | zero => intro P y ls hE hl; exact (rbl_0 hE).elim
      | succ n ih =>
        intro P y ls hE hl
        refine lv_dload hx hb dX3_bitsOf_15 (lv_at hl 1 rfl) ?_
        refine lv_dconst1 hx hb dX3_bitsOf_17 ?_
        refine lv_dcmp hx hb dX3_bitsOf_18 ?_
        refine lv_if_ge (tgt := 37) hx hb dX3_bitsOf_19 (by decide) (fun c2 => ?_) (fun c2 => ?_)
        ·
          have hs := rbe_s (rbl_e c2 hE)
          refine lv_lload_n hx hb dX3_bitsOf_37 rfl (lv_at hl 0 rfl) ?_
          refine lv_ldc2 hx hb hown (hts (.constantLong RX3 189 (4503599627370496)) (by decide +kernel)) dX3_bitsOf_38 ?_
          refine lv_lmul hx hb dX3_bitsOf_41 ?_
          refine lv_dload hx hb dX3_bitsOf_42 (lv_at hl 1 rfl) ?_
          refine lv_dconst1 hx hb dX3_bitsOf_44 ?_
          refine lv_dsub hx hb dX3_bitsOf_45 hs.1 ?_
          refine lv_ldc2d hx hb hown (hts (.constantDouble RX3 191 (4841369599423283200)) (by decide +kernel)) dX3_bitsOf_46 ?_
          refine lv_dmul hx hb dX3_bitsOf_49 hs.2.1 ?_
          refine lv_d2l  hx hb dX3_bitsOf_50 ?_
          refine lv_ladd hx hb dX3_bitsOf_51 ?_
          refine hret _ _ _ _ _ ?_ trivial hS dX3_bitsOf_52
          exact hs.2.2
        ·
          have hs := rbl_s c2 hE
          refine lv_dload hx hb dX3_bitsOf_22 (lv_at hl 1 rfl) ?_
          refine lv_ldc2d hx hb hown (hts (.constantDouble RX3 187 (4611686018427387904)) (by decide +kernel)) dX3_bitsOf_24 ?_
          refine lv_dmul hx hb dX3_bitsOf_27 hs.1 ?_
          refine lv_dstore (lv' := [(4, .double (FP.dmul y 4611686018427387904)), (2, .long P), (0, .double x)]) hx hb dX3_bitsOf_28 hl (by decide) rfl (fun ls hl => ?_)
          refine lv_lload_n hx hb dX3_bitsOf_30 rfl (lv_at hl 1 rfl) ?_
          refine lv_lconst (v := 1) hx hb dX3_bitsOf_31 rfl ?_
          refine lv_lsub hx hb dX3_bitsOf_32 ?_
          refine lv_lstore_n (lv' := [(2, .long (P - 1)), (4, .double (FP.dmul y 4611686018427387904)), (0, .double x)]) hx hb dX3_bitsOf_33 rfl hl (by decide) rfl (fun ls hl => ?_)
          refine lv_goto (tgt := 15) hx hb dX3_bitsOf_34 (by decide) ?_
          exact ih _ _ _ hs.2 (lv_sub hl [0, 1, 2] rfl)
    exact LP 1101 1023 x _ (rbt_1 c1 hv) (lv_sub hl [1, 0, 2] rfl)
  ·
    refine lv_lconst (v := 0) hx hb dX3_bitsOf_6 rfl ?_
    refine hret _ _ _ _ _ ?_ trivial hS dX3_bitsOf_7
    exact rbt_0 c1 hv
set_option maxHeartbeats 4000000 in
set_option maxRecDepth 100000 in
theorem m3_floatBitsOf (l : Launch) (D : va_G) (x : UInt32) (v : Int32) (hv : fbt x = some v) : q_I l yX3_floatBitsOf wsX3_floatBitsOf { frames := 0, cells := 0, slots := 0, locals := 0 } [.float x] (q_bp D ([]) []) (fun r => r = v) (fun H => True) (fun _ => False) 0 0 := by
  refine q_goI (cc := cX3_floatBitsOf) (maxL := 3) (ty := .int) (lv0 := [(0, .float x)]) (by decide) rfl (Nat.le_of_ble_eq_true rfl) rfl ?_
  intro p e s m args below meth c Q ls hx hb hml hts hown hP hK hl hret
  have hS : va_S (fun _ => False) s.heap s.heap [] := va_S.rf
  refine lv_fload_n hx hb dX3_floatBitsOf_0 rfl (lv_at hl 0 rfl) ?_
  refine lv_fconst0 hx hb dX3_floatBitsOf_1 ?_
  refine lv_fcmp hx hb dX3_floatBitsOf_2 ?_
  refine lv_if_ne (tgt := 8) hx hb dX3_floatBitsOf_3 (by decide) (fun c1 => ?_) (fun c1 => ?_)
  ·
    refine lv_fload_n hx hb dX3_floatBitsOf_8 rfl (lv_at hl 0 rfl) ?_
    refine lv_fstore_n (lv' := [(1, .float x), (0, .float x)]) hx hb dX3_floatBitsOf_9 rfl hl (by decide) rfl (fun ls hl => ?_)
    refine lv_bipush (v := nI 127) hx hb dX3_floatBitsOf_10 (by decide) ?_
    refine lv_istore_n (lv' := [(2, .int (nI 127)), (1, .float x), (0, .float x)]) hx hb dX3_floatBitsOf_12 rfl hl (by decide) rfl (fun ls hl => ?_)
    have LB : ∀ (n : Nat) (P : Int32) (y : UInt32) (ls : Array Slot), fb2 n P y = some v → lv_has ls 3 [(2, .int P), (1, .float y), (0, .float x)] → W p l e { frames := 0, cells := 0, slots := 0, locals := 0 } s m args below meth c s.heap [] 0 0 Q (F0 m 29 ls []) := by
      intro n
      induction n with
      | zero => intro P y ls hE hl; exact (fb2_0 hE).elim
      | succ n ih =>
        intro P y ls hE hl
        refine lv_fload_n hx hb dX3_floatBitsOf_29 rfl (lv_at hl 1 rfl) ?_
        refine lv_fconst1 hx hb dX3_floatBitsOf_30 ?_
        refine lv_fcmp hx hb dX3_floatBitsOf_31 ?_
        refine lv_if_ge (tgt := 45) hx hb dX3_floatBitsOf_32 (by decide) (fun c2 => ?_) (fun c2 => ?_)
        ·
          have hs := fbe_s (fb2_e c2 hE)
          refine lv_iload_n hx hb dX3_floatBitsOf_45 rfl (lv_at hl 0 rfl) ?_
          refine lv_ldc hx hb hown (hts (.constant RX3 193 (8388608)) (by decide +kernel)) dX3_floatBitsOf_46 ?_
          refine lv_imul hx hb dX3_floatBitsOf_48 ?_
          refine lv_fload_n hx hb dX3_floatBitsOf_49 rfl (lv_at hl 1 rfl) ?_
          refine lv_fconst1 hx hb dX3_floatBitsOf_50 ?_
          refine lv_fsub hx hb dX3_floatBitsOf_51 hs.1 ?_
          refine lv_ldcf hx hb hown (hts (.constantFloat RX3 194 (1258291200)) (by decide +kernel)) dX3_floatBitsOf_52 ?_
          refine lv_fmul hx hb dX3_floatBitsOf_54 hs.2.1 ?_
          refine lv_f2i  hx hb dX3_floatBitsOf_55 ?_
          refine lv_iadd hx hb dX3_floatBitsOf_56 ?_
          refine hret _ _ _ _ _ rfl ?_ trivial hS dX3_floatBitsOf_57
          exact hs.2.2
        ·
          have hs := fb2_s c2 hE
          refine lv_fload_n hx hb dX3_floatBitsOf_35 rfl (lv_at hl 1 rfl) ?_
          refine lv_fconst2 hx hb dX3_floatBitsOf_36 ?_
          refine lv_fmul hx hb dX3_floatBitsOf_37 hs.1 ?_
          refine lv_fstore_n (lv' := [(1, .float (FP.fmul y FP.fconst2)), (2, .int P), (0, .float x)]) hx hb dX3_floatBitsOf_38 rfl hl (by decide) rfl (fun ls hl => ?_)
          refine lv_iinc (v := (P + -1)) (lv' := [(2, .int (P + -1)), (1, .float (FP.fmul y FP.fconst2)), (0, .float x)]) hx hb dX3_floatBitsOf_39 hl (k := 1) rfl rfl (by decide) rfl (fun ls hl => ?_)
          refine lv_goto (tgt := 29) hx hb dX3_floatBitsOf_42 (by decide) ?_
          exact ih _ _ _ hs.2 (lv_sub hl [0, 1, 2] rfl)
    have LA : ∀ (n : Nat) (P : Int32) (y : UInt32) (ls : Array Slot), fb1 n P y = some v → lv_has ls 3 [(2, .int P), (1, .float y), (0, .float x)] → W p l e { frames := 0, cells := 0, slots := 0, locals := 0 } s m args below meth c s.heap [] 0 0 Q (F0 m 13 ls []) := by
      intro n
      induction n with
      | zero => intro P y ls hE hl; exact (fb1_0 hE).elim
      | succ n ih =>
        intro P y ls hE hl
        refine lv_fload_n hx hb dX3_floatBitsOf_13 rfl (lv_at hl 1 rfl) ?_
        refine lv_fconst2 hx hb dX3_floatBitsOf_14 ?_
        refine lv_fcmp hx hb dX3_floatBitsOf_15 ?_
        refine lv_if_lt (tgt := 29) hx hb dX3_floatBitsOf_16 (by decide) (fun c3 => ?_) (fun c3 => ?_)
        ·
          exact LB 20 _ _ _ (fb1_e c3 hE) (lv_sub hl [0, 1, 2] rfl)
        ·
          have hs := fb1_s c3 hE
          refine lv_fload_n hx hb dX3_floatBitsOf_19 rfl (lv_at hl 1 rfl) ?_
          refine lv_fconst2 hx hb dX3_floatBitsOf_20 ?_
          refine lv_fdiv hx hb dX3_floatBitsOf_21 hs.1 ?_
          refine lv_fstore_n (lv' := [(1, .float (FP.fdiv y FP.fconst2)), (2, .int P), (0, .float x)]) hx hb dX3_floatBitsOf_22 rfl hl (by decide) rfl (fun ls hl => ?_)
          refine lv_iinc (v := (P + 1)) (lv' := [(2, .int (P + 1)), (1, .float (FP.fdiv y FP.fconst2)), (0, .float x)]) hx hb dX3_floatBitsOf_23 hl (k := 1) rfl rfl (by decide) rfl (fun ls hl => ?_)
          refine lv_goto (tgt := 13) hx hb dX3_floatBitsOf_26 (by decide) ?_
          exact ih _ _ _ hs.2 (lv_sub hl [0, 1, 2] rfl)
    exact LA 20 127 x _ (fbt_1 c1 hv) (lv_sub hl [0, 1, 2] rfl)
  ·
    refine lv_iconst (v := 0) hx hb dX3_floatBitsOf_6 (by decide) ?_
    refine hret _ _ _ _ _ rfl ?_ trivial hS dX3_floatBitsOf_7
    exact fbt_0 c1 hv
set_option maxHeartbeats 4000000 in
set_option maxRecDepth 100000 in
theorem m3_share (l : Launch) (D : va_G) (cI : ClassId) (o ps : Nat) (fs : List Value) (f : Nat → Int32) (h1 : fs[1]? = some (.ref ps)) (B : Nat) (hI : Inv B f) (hB : 8 * B < 2147483648) : q_Db l yX3_share wsX3_share { frames := 2, cells := 0, slots := 0, locals := 44 } [.ref o] (q_bp D (wS o ps cI fs f) [(cI, .int)]) (fun v => v = g_share f) (fun H => True) (fun _ => False) 0 0 := by
  refine q_goD (cc := cX3_share) (maxL := 2) (lv0 := [(0, .ref o)]) (by decide) rfl (Nat.le_of_ble_eq_true rfl) rfl ?_
  intro p e s m args below meth c Q ls hx hb hml hts hown hP hK hl hret
  have hS : va_S (fun _ => False) s.heap s.heap [] := va_S.rf
  refine lv_aload_n hx hb dX3_share_0 rfl (lv_at hl 0 rfl) ?_
  refine lv_bipush (v := nI 8) hx hb dX3_share_1 (by decide) ?_
  refine q_ciR (va_runV (rm := { frames := 1, cells := 0, slots := 0, locals := 21 }) (As := [.int (nI 8)]) (rest := []) ⟨hx, hb, hml, hown, hts⟩ (m3_sumOf l D cI o ps 8 fs f h1 (by omega)) (cwV 1 hts gX3_share_X3_sumOf rfl rfl rfl (by decide +kernel) ⟨Nat.le_of_ble_eq_true rfl, Nat.le_of_ble_eq_true rfl⟩) (q_pV (ci := 3) (q0 := 0) hP hK rfl rfl) rfl rfl hl.1 rfl (lv_room (Nat.le_of_ble_eq_true rfl)) dX3_share_3 ⟨Nat.le_of_ble_eq_true rfl, Nat.le_of_ble_eq_true rfl⟩) hP hS (fun x1 H locs e1 hP hS => ?_)
  have e1 : x1 = g_sm f 64 8 := e1
  subst e1
  refine lv_topi (fun x2 e2 => ?_)
  refine lv_istore_n (lv' := [(1, .int x2), (0, .ref o)]) hx hb dX3_share_6 rfl hl (by decide) rfl (fun ls hl => ?_)
  subst e2
  refine lv_iload_n hx hb dX3_share_7 rfl (lv_at hl 0 rfl) ?_
  refine lv_if_ne (tgt := 15) hx hb dX3_share_8 (by decide) (fun c3 => ?_) (fun c3 => ?_)
  ·
    refine lv_aload_n hx hb dX3_share_15 rfl (lv_at hl 1 rfl) ?_
    refine lv_bipush (v := nI 7) hx hb dX3_share_16 (by decide) ?_
    refine q_ciR (va_runV (rm := { frames := 1, cells := 0, slots := 0, locals := 21 }) (As := [.int (nI 7)]) (rest := []) ⟨hx, hb, hml, hown, hts⟩ (m3_sumOf l D cI o ps 7 fs f h1 (by omega)) (cwV 1 hts gX3_share_X3_sumOf rfl rfl rfl (by decide +kernel) ⟨Nat.le_of_ble_eq_true rfl, Nat.le_of_ble_eq_true rfl⟩) (q_pV (ci := 3) (q0 := 0) hP hK rfl rfl) rfl rfl hl.1 rfl (lv_room (Nat.le_of_ble_eq_true rfl)) dX3_share_18 ⟨Nat.le_of_ble_eq_true rfl, Nat.le_of_ble_eq_true rfl⟩) hP hS (fun x4 H locs e4 hP hS => ?_)
    have e4 : x4 = g_sm f 56 8 := e4
    subst e4
    refine lv_i2d  hx hb dX3_share_21 ?_
    refine lv_iload_n hx hb dX3_share_22 rfl (lv_at hl 0 rfl) ?_
    refine lv_i2d  hx hb dX3_share_23 ?_
    refine lv_ddiv hx hb dX3_share_24 (hI.share_n hB c3) ?_
    refine hret _ _ _ _ _ ?_ trivial hS dX3_share_25
    unfold g_share
    rw [if_neg c3]
  ·
    refine lv_dconst0 hx hb dX3_share_11 ?_
    refine lv_goto (tgt := 25) hx hb dX3_share_12 (by decide) ?_
    refine hret _ _ _ _ _ ?_ trivial hS dX3_share_25
    unfold g_share
    rw [if_pos c3]
set_option maxHeartbeats 4000000 in
set_option maxRecDepth 100000 in
theorem m3_trust (l : Launch) (D : va_G) (cI : ClassId) (o ps : Nat) (fs : List Value) (f : Nat → Int32) (h1 : fs[1]? = some (.ref ps)) (B : Nat) (hI : Inv B f) : q_Fl l yX3_trust wsX3_trust { frames := 2, cells := 0, slots := 0, locals := 44 } [.ref o] (q_bp D (wS o ps cI fs f) [(cI, .int)]) (fun v => v = g_trust f) (fun H => True) (fun _ => False) 0 0 := by
  refine q_goF (cc := cX3_trust) (maxL := 1) (lv0 := [(0, .ref o)]) (by decide) rfl (Nat.le_of_ble_eq_true rfl) rfl ?_
  intro p e s m args below meth c Q ls hx hb hml hts hown hP hK hl hret
  have hS : va_S (fun _ => False) s.heap s.heap [] := va_S.rf
  refine lv_aload_n hx hb dX3_trust_0 rfl (lv_at hl 0 rfl) ?_
  refine lv_iconst (v := nI 3) hx hb dX3_trust_1 (by decide) ?_
  refine q_ciR (va_runV (rm := { frames := 1, cells := 0, slots := 0, locals := 21 }) (As := [.int (nI 3)]) (rest := []) ⟨hx, hb, hml, hown, hts⟩ (m3_sumOf l D cI o ps 3 fs f h1 (by omega)) (cwV 1 hts gX3_trust_X3_sumOf rfl rfl rfl (by decide +kernel) ⟨Nat.le_of_ble_eq_true rfl, Nat.le_of_ble_eq_true rfl⟩) (q_pV (ci := 3) (q0 := 0) hP hK rfl rfl) rfl rfl hl.1 rfl (lv_room (Nat.le_of_ble_eq_true rfl)) dX3_trust_2 ⟨Nat.le_of_ble_eq_true rfl, Nat.le_of_ble_eq_true rfl⟩) hP hS (fun x1 H locs e1 hP hS => ?_)
  have e1 : x1 = g_sm f 24 8 := e1
  subst e1
  refine lv_i2f  hx hb dX3_trust_5 ?_
  refine lv_ldcf hx hb hown (hts (.constantFloat RX3 180 (1090519040)) (by decide +kernel)) dX3_trust_6 ?_
  refine lv_fdiv hx hb dX3_trust_8 hI.trust_ok.1 ?_
  refine hret _ _ _ _ _ ?_ trivial hS dX3_trust_9
  rfl
