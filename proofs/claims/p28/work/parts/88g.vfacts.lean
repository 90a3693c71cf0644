theorem L_low (l : Launch) (D : va_G) (v n : Int32) (hn : ¬ n = 0) : q_I l yL_low wsL_low { frames := 0, cells := 0, slots := 0, locals := 0 } [.int v, .int n] (q_bp D ([]) []) (fun r => r = lw v n) (fun H => True) (fun _ => False) 0 0 := by
  refine q_goI (cc := cL_low) (maxL := 2) (ty := .int) (lv0 := [(0, .int v), (1, .int n)]) (by decide) rfl (Nat.le_of_ble_eq_true rfl) rfl ?_
  intro p e s m args below meth c Q ls hx hb hml hts hown hP hK hl hret
  have hS : va_S (fun _ => False) s.heap s.heap [] := va_S.rf
  refine lv_iload_n hx hb dL_low_0 rfl (lv_at hl 0 rfl) ?_
  refine lv_ldc hx hb hown (hts (.constant RL 7 (2147483647)) (by decide +kernel)) dL_low_1 ?_
  refine lv_iand hx hb dL_low_3 ?_
  refine lv_iload_n hx hb dL_low_4 rfl (lv_at hl 1 rfl) ?_
  refine lv_irem hx hb dL_low_5 hn ?_
  exact hret _ _ _ _ _ rfl rfl trivial hS dL_low_6
