/-! ===== what the law's looks rest on ===== -/
theorem g_ct_sn {T : Nat → Int32} {a b w : Nat} (hw : w < 9) : g_ct T a w = g_ct T b w := by
  have h9 : ∀ n : Nat, g_ct T n w = g_ct T 0 w := by
    intro n
    match w, hw with
    | 0, _ => rfl
    | 1, _ => rfl
    | 2, _ => rfl
    | 3, _ => rfl
    | 4, _ => rfl
    | 5, _ => rfl
    | 6, _ => rfl
    | 7, _ => rfl
    | 8, _ => rfl
  rw [h9 a, h9 b]
theorem nI_ge0 {n : Nat} (h : n < 2 ^ 31) : (0 : Int32) ≤ nI n := by
  rw [t_le, t_nI h, t_0]
  omega
theorem ct_1 {T : Nat → Int32} {i j : Nat} (h : ¬ T (87 + 8 * i + j) < 0) : nI (cnt T (8 * i + j)) + nI 1 = nI (cnt T (8 * i + (j + 1))) := by
  rw [nI_add]
  show _ = nI (cnt T (8 * i + j) + if T (87 + (8 * i + j)) = -1 then 0 else 1)
  rw [if_neg (fun z => h (by rw [Nat.add_assoc, z]; decide))]
theorem ct_0 {T : Nat → Int32} (hj6 : Js6 T) {i j : Nat} (hi : i < 3) (hj : j < 8) (h : T (87 + 8 * i + j) < 0) : nI (cnt T (8 * i + j)) + nI 0 = nI (cnt T (8 * i + (j + 1))) := by
  rw [nI_add]
  show _ = nI (cnt T (8 * i + j) + if T (87 + (8 * i + j)) = -1 then 0 else 1)
  have h6 := hj6 (8 * i + j) (by omega)
  rw [Nat.add_assoc, t_lt, t_0] at h
  rw [if_pos (by rw [t_eq, t_m1]; omega)]
theorem js_0 {x : Int32} (h : 0 ≤ x.toInt) (h2 : ¬ 0 < x) : x.toInt = 0 := by
  rw [t_lt, t_0] at h2
  omega
theorem a_34 (a b c x y : Int32) (h1 : a = x + (y + b + c)) : a - b - c = x + y := by grind
theorem sm_add {f : Nat → Int32} (h : Js1 f) : ∀ n, n ≤ 8 → g_sm f 64 n = g_sm f 8 n + g_sm f 48 n + g_sm f 56 n
  | 0, _ => by
    show nI 0 = nI 0 + nI 0 + nI 0
    decide
  | n + 1, hn => by
    show g_sm f 64 n + f (64 + n) = (g_sm f 8 n + f (8 + n)) + (g_sm f 48 n + f (48 + n)) + (g_sm f 56 n + f (56 + n))
    rw [sm_add h n (by omega), h n (by omega)]
    generalize g_sm f 8 n = a
    generalize g_sm f 48 n = b
    generalize g_sm f 56 n = d
    grind
theorem s_34 {f : Nat → Int32} (h1 : Js1 f) (h3 : Js3 f) : g_sm f 81 3 - g_sm f 48 8 - g_sm f 56 8 = g_sm f 75 3 + g_sm f 8 8 := by
  refine a_34 _ _ _ _ _ ?_
  have h : g_sm f 81 3 = g_sm f 75 3 + g_sm f 64 8 := h3
  rw [h, sm_add h1 8 (by omega)]
theorem sh_law_0 {B : Nat} {f : Nat → Int32} (h : Inv B f) (hB : 8 * B < 2147483648) (h0 : g_sm f 64 8 = 0) : Op.cmpValue (FP.dcmp (g_share f) FP.dconst0) .l = 0 := by
  have e : g_share f = FP.dconst0 := by
    unfold g_share
    rw [if_pos h0]
  rw [e, fS_0.cmp fS_0, cmp_eq, cv_eq]
theorem sh_law_n {B : Nat} {f : Nat → Int32} (h : Inv B f) (hB : 8 * B < 2147483648) (h0 : ¬ g_sm f 64 8 = 0) : Op.cmpValue (FP.dcmp (g_share f) (FP.ddiv (FP.dmul (FP.i2d (g_sm f 56 8)) FP.dconst1) (FP.i2d (g_sm f 64 8)))) .l = 0 := by
  have e : FP.ddiv (FP.dmul (FP.i2d (g_sm f 56 8)) FP.dconst1) (FP.i2d (g_sm f 64 8)) = g_share f := by
    rw [mul_1]
    unfold g_share
    rw [if_neg h0]
  rw [e]
  exact sh_self h hB
theorem br_0 {T : Nat → Int32} {n : Nat} (hw : g_wy T n = 0) : g_br T n 0 = g_cm T n := by
  unfold g_br
  rw [if_pos hw]
  rfl
theorem br_1 {T : Nat → Int32} {n : Nat} (hw : g_wy T n = 0) : g_br T n 1 = g_ov T n := by
  unfold g_br
  rw [if_pos hw, if_neg (by decide), if_pos rfl]
theorem br_2 {T : Nat → Int32} {n : Nat} (hw : g_wy T n = 0) : g_br T n 2 = g_tr T n := by
  unfold g_br
  rw [if_pos hw, if_neg (by decide), if_neg (by decide)]
theorem br_n {T : Nat → Int32} {n w : Nat} (hw : ¬ g_wy T n = 0) : g_br T n w = -1 := by
  unfold g_br
  rw [if_neg hw]
section BGF
variable {B : Nat} {f : Nat → Int32} {k : Nat}
theorem bg_lo (hI : Inv B f) (hk : k < 3) : ¬ g_bg 8 (-1) (nI 0) f k < -1 := by
  rcases bg_rng hk 8 (-1) (nI 0) f hI (Or.inl rfl) with h | ⟨g, hg, h⟩
  · rw [h]; decide
  · rw [h, t_lt, t_nI (by omega), t_m1]
    omega
theorem bg_hi (hI : Inv B f) (hk : k < 3) : ¬ nI 8 ≤ g_bg 8 (-1) (nI 0) f k := by
  rcases bg_rng hk 8 (-1) (nI 0) f hI (Or.inl rfl) with h | ⟨g, hg, h⟩
  · rw [h]; decide
  · rw [h, t_le, t_nI (by omega), t_nI (by omega)]
    omega
theorem bg_pos (hI : Inv B f) (hk : k < 3) (hw : g_wy f k = 0) : ¬ g_bg 8 (-1) (nI 0) f k < 0 := by
  obtain ⟨g, hg, h⟩ := bg_ge hI hk hw
  rw [h, t_lt, t_nI (by omega), t_0]
  omega
theorem fi_pos (hI : Inv B f) (hk : k < 3) (hf : ¬ f (75 + k) = 0) : 0 < f (75 + k) := by
  have h8 := hI.2.2.2.2.2.2.2.1 k hk
  rw [t_lt, t_0]
  rcases Int.lt_or_le 0 (f (75 + k)).toInt with h | h
  · exact h
  · exact absurd (by rw [t_eq, t_0]; omega) hf
theorem ov_n (h : ¬ 0 < g_ov f k) : (g_ov f k).toInt ≤ 0 := by
  rw [t_lt, t_0] at h
  omega
theorem tr_n1 (hI : Inv B f) (hk : k < 3) : ¬ nI 2 ≤ g_tr f k - f (24 + hN f k) := by
  have h1 := hI.tr hk
  have h2 := hI.2.2.2.1 (hN f k) (hI.hN8 hk)
  have h3 := tr_near hI hk
  rw [t_le, t_sub (by omega) (by omega), t_nI (by omega)]
  omega
theorem tr_n2 (hI : Inv B f) (hk : k < 3) : ¬ nI 2 ≤ f (24 + hN f k) - g_tr f k := by
  have h1 := hI.tr hk
  have h2 := hI.2.2.2.1 (hN f k) (hI.hN8 hk)
  have h3 := tr_near hI hk
  rw [t_le, t_sub (by omega) (by omega), t_nI (by omega)]
  omega
end BGF
