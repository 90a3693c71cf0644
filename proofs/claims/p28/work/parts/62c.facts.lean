/-! ===== what the law asks of a pour, a hand, the best guest, the empty pot ===== -/
section PF
variable {B : Nat} {f : Nat → Int32} {k : Nat}
theorem dv_0 (h0 : g_gs f k = 0) : g_dv (g_gs f k) = nI 1 := by
  unfold g_dv
  rw [if_pos (by rw [h0]; decide)]
theorem dv_1 (h : Inv B f) (hk : k < 3) (h0 : ¬ g_gs f k = 0) : g_dv (g_gs f k) = g_gs f k := by
  have hg := h.gs hk
  unfold g_dv
  rw [if_neg (fun z => h0 (by rw [t_le, t_0] at z; rw [t_eq, t_0]; omega))]
theorem dv_ne (h : Inv B f) (hk : k < 3) : g_dv (g_gs f k) ≠ 0 := fun z => by
  have := h.dv hk
  rw [z, t_0] at this
  omega
theorem cm_le (h : g_c0 f k ≤ f (75 + k)) : g_cm f k = g_c0 f k := by
  unfold g_cm
  split
  · rename_i h2
    exact Int32.le_antisymm h2 h
  · rfl
theorem cm_gt (h : ¬ g_c0 f k ≤ f (75 + k)) : g_cm f k = f (75 + k) := by
  unfold g_cm
  rw [if_pos (Int32.le_of_lt (Int32.not_le.mp h))]
theorem ov_le (h : Inv B f) (hk : k < 3) (h2 : g_cm f k ≤ g_rm f (hN f k)) : g_ov f k = nI 0 := by
  have hc := h.cm hk
  have hr := h.rm (h.hN8 hk)
  have e : (g_cm f k - g_rm f (hN f k)).toInt = (g_cm f k).toInt - (g_rm f (hN f k)).toInt := t_sub (by omega) (by omega)
  rw [t_le] at h2
  unfold g_ov
  split
  · rfl
  · rename_i hn
    rw [t_lt, e, show (nI 0).toInt = 0 from rfl] at hn
    rw [t_eq, e, show (nI 0).toInt = 0 from rfl]
    omega
theorem ov_gt (h : Inv B f) (hk : k < 3) (h2 : ¬ g_cm f k ≤ g_rm f (hN f k)) : g_ov f k = g_cm f k - g_rm f (hN f k) := by
  have hc := h.cm hk
  have hr := h.rm (h.hN8 hk)
  have e : (g_cm f k - g_rm f (hN f k)).toInt = (g_cm f k).toInt - (g_rm f (hN f k)).toInt := t_sub (by omega) (by omega)
  rw [t_le] at h2
  unfold g_ov
  rw [if_neg]
  rw [t_lt, e, show (nI 0).toInt = 0 from rfl]
  omega
theorem ov_ge (h : Inv B f) (hk : k < 3) : 0 ≤ (g_ov f k).toInt := (h.ov hk).1
/-- why a guest can't pour, by the law's words -/
theorem wy_1 (h : f (75 + k) = 0) : g_wy f k = nI 1 := by
  unfold g_wy
  rw [if_pos h]
theorem wy_2 (h : ¬ f (75 + k) = 0) (h2 : g_rm f (hN f k) = 0) : g_wy f k = nI 2 := by
  unfold g_wy
  rw [if_neg h, if_pos h2]
theorem wy_0 (h : ¬ f (75 + k) = 0) (h2 : ¬ g_rm f (hN f k) = 0) : g_wy f k = nI 0 := by
  unfold g_wy
  rw [if_neg h, if_neg h2]
/-- trust moves by one at most -/
theorem tr_near (h : Inv B f) (hk : k < 3) : (g_tr f k).toInt - (f (24 + hN f k)).toInt < 2 ∧ (f (24 + hN f k)).toInt - (g_tr f k).toInt < 2 := by
  have h4 := h.2.2.2.1 (hN f k) (h.hN8 hk)
  have e10 : (nI 10).toInt = 10 := rfl
  have e1 : (nI 1).toInt = 1 := rfl
  unfold g_tr
  split
  · split
    · omega
    · split
      · omega
      · rename_i hn
        rw [t_le, t_0] at hn
        rw [t_sub] <;> rw [e1] <;> omega
  · split
    · omega
    · rename_i hn
      rw [t_le, e10] at hn
      rw [t_add] <;> rw [e1] <;> omega
/-- the best guest -/
theorem hand_fi {d : Nat} (hk : k < 3) : g_hand f k d (75 + k) = f (75 + k) := by
  unfold g_hand
  try dsimp only
  rw [pk_un (by omega), pk_un (by omega), pk_un (by omega), pk_un (by omega), tl_o (by omega) (by omega)]
theorem bg_none (hk : k < 3) : ∀ (n : Nat) (b m : Int32) (f : Nat → Int32), f (75 + k) = 0 → g_bg n b m f k = b
  | 0, _, _, _, _ => rfl
  | n + 1, b, m, f, h => by
    have hb : g_bo b m f k = false := by
      unfold g_bo
      rw [wy_1 h]
      rfl
    show g_bg n (if g_bo b m f k then nI (hN f k) else b) (if g_bo b m f k then g_ov f k else m) (g_hand f k 1) k = b
    rw [hb]
    exact bg_none hk n _ _ _ (by rw [hand_fi hk]; exact h)
theorem bg_is (hk : k < 3) : ∀ (n : Nat) (b m : Int32) (f : Nat → Int32), Inv B f → (∃ g, g < 8 ∧ b = nI g) → ∃ g, g < 8 ∧ g_bg n b m f k = nI g
  | 0, _, _, _, _, h => h
  | n + 1, b, m, f, hI, h => by
    show ∃ g, g < 8 ∧ g_bg n (if g_bo b m f k then nI (hN f k) else b) (if g_bo b m f k then g_ov f k else m) (g_hand f k 1) k = nI g
    refine bg_is hk n _ _ _ (hand_inv hI hk) ?_
    split
    · exact ⟨_, hI.hN8 hk, rfl⟩
    · exact h
theorem bg_rng (hk : k < 3) : ∀ (n : Nat) (b m : Int32) (f : Nat → Int32), Inv B f → (b = -1 ∨ ∃ g, g < 8 ∧ b = nI g) → (g_bg n b m f k = -1 ∨ ∃ g, g < 8 ∧ g_bg n b m f k = nI g)
  | 0, _, _, _, _, h => h
  | n + 1, b, m, f, hI, h => by
    show g_bg n (if g_bo b m f k then nI (hN f k) else b) (if g_bo b m f k then g_ov f k else m) (g_hand f k 1) k = -1 ∨ ∃ g, g < 8 ∧ g_bg n (if g_bo b m f k then nI (hN f k) else b) (if g_bo b m f k then g_ov f k else m) (g_hand f k 1) k = nI g
    refine bg_rng hk n _ _ _ (hand_inv hI hk) ?_
    split
    · exact Or.inr ⟨_, hI.hN8 hk, rfl⟩
    · exact h
theorem bg_stay (hk : k < 3) : ∀ (n : Nat) (b m : Int32) (f : Nat → Int32), Inv B f → ¬ b = -1 → m.toInt ≤ 0 → g_bg n b m f k = b
  | 0, _, _, _, _, _, _ => rfl
  | n + 1, b, m, f, hI, hb, hm => by
    have e : g_bo b m f k = false := by
      unfold g_bo
      rw [decide_eq_false (p := b = -1) hb, decide_eq_false (p := g_ov f k < m) (fun z => by have := ov_ge hI hk; rw [t_lt] at z; omega)]
      cases decide (g_wy f k = 0) <;> rfl
    show g_bg n (if g_bo b m f k then nI (hN f k) else b) (if g_bo b m f k then g_ov f k else m) (g_hand f k 1) k = b
    rw [e]
    exact bg_stay hk n _ _ _ (hand_inv hI hk) hb hm
theorem nI_n1 {g : Nat} (hg : g < 8) : ¬ nI g = -1 := fun z => by
  have h := congrArg Int32.toInt z
  rw [t_nI (by omega), t_m1] at h
  omega
theorem bg_first (hI : Inv B f) (hk : k < 3) (hw : g_wy f k = 0) : g_bg 8 (-1) (nI 0) f k = g_bg 7 (nI (hN f k)) (g_ov f k) (g_hand f k 1) k := by
  have e : g_bo (-1) (nI 0) f k = true := by
    unfold g_bo
    rw [decide_eq_true hw]
    rfl
  show g_bg 7 (if g_bo (-1) (nI 0) f k then nI (hN f k) else -1) (if g_bo (-1) (nI 0) f k then g_ov f k else nI 0) (g_hand f k 1) k = _
  rw [e]
  rfl
theorem bg_ge (hI : Inv B f) (hk : k < 3) (hw : g_wy f k = 0) : ∃ g, g < 8 ∧ g_bg 8 (-1) (nI 0) f k = nI g := by
  rw [bg_first hI hk hw]
  exact bg_is hk 7 _ _ _ (hand_inv hI hk) ⟨_, hI.hN8 hk, rfl⟩
theorem bg_own (hI : Inv B f) (hk : k < 3) (hw : g_wy f k = 0) (h0 : (g_ov f k).toInt ≤ 0) : g_bg 8 (-1) (nI 0) f k = nI (hN f k) := by
  rw [bg_first hI hk hw]
  exact bg_stay hk 7 _ _ _ (hand_inv hI hk) (nI_n1 (hI.hN8 hk)) h0
/-- the empty pot -/
theorem ei_rng : ∀ (n r : Nat) (f : Nat → Int32), g_ei n r f k = -1 ∨ ∃ j, r ≤ j ∧ j < r + n ∧ g_ei n r f k = nI j
  | 0, _, _ => Or.inl rfl
  | n + 1, r, f => by
    show (if f (75 + k) = 0 then nI r else g_ei n (r + 1) (g_nx f k) k) = -1 ∨ ∃ j, r ≤ j ∧ j < r + (n + 1) ∧ (if f (75 + k) = 0 then nI r else g_ei n (r + 1) (g_nx f k) k) = nI j
    split
    · exact Or.inr ⟨r, Nat.le_refl _, by omega, rfl⟩
    · rcases ei_rng n (r + 1) (g_nx f k) with h | ⟨j, h1, h2, h3⟩
      · exact Or.inl h
      · exact Or.inr ⟨j, by omega, by omega, h3⟩
theorem ei_0 (h : f (75 + k) = 0) : g_ei 21 0 f k = nI 0 := by
  show (if f (75 + k) = 0 then nI 0 else g_ei 20 1 (g_nx f k) k) = nI 0
  rw [if_pos h]
theorem ei_n (h : ¬ f (75 + k) = 0) : ¬ g_ei 21 0 f k = 0 := by
  have e : g_ei 21 0 f k = g_ei 20 1 (g_nx f k) k := by
    show (if f (75 + k) = 0 then nI 0 else g_ei 20 1 (g_nx f k) k) = _
    rw [if_neg h]
  rw [e]
  rcases ei_rng (k := k) 20 1 (g_nx f k) with h | ⟨j, h1, h2, h3⟩
  · rw [h]; decide
  · rw [h3]
    intro z
    have := congrArg Int32.toInt z
    rw [t_nI (by omega), t_0] at this
    omega
theorem ei_le : g_ei 21 0 f k ≤ nI 20 := by
  rcases ei_rng (k := k) 21 0 f with h | ⟨j, h1, h2, h3⟩
  · rw [h]; decide
  · rw [h3, t_le, t_nI (by omega), t_nI (by omega)]
    omega
/-- the whisper, by the law's words -/
theorem wh_0 (h : g_gs f k + f (32 + hN f k) < 0) : g_wh f k = nI 0 := by
  have e : g_w0 f k = g_gs f k + f (32 + hN f k) := by
    unfold g_w0
    rw [if_pos (Int32.lt_trans h (by decide))]
  unfold g_wh
  rw [e, if_neg (c := nI 0 < g_gs f k + f (32 + hN f k)) (fun z => absurd (Int32.lt_trans z (show g_gs f k + f (32 + hN f k) < nI 0 from h)) (by decide))]
theorem wh_2 (h : ¬ g_gs f k + f (32 + hN f k) ≤ nI 200) : g_wh f k = nI 200 := by
  have e : g_w0 f k = nI 200 := by
    unfold g_w0
    rw [if_neg (fun z => h (Int32.le_of_lt z))]
  unfold g_wh
  rw [e]
  rfl
theorem wh_1 (h : ¬ g_gs f k + f (32 + hN f k) < 0) (h2 : g_gs f k + f (32 + hN f k) ≤ nI 200) : g_wh f k = g_gs f k + f (32 + hN f k) := by
  generalize hx : g_gs f k + f (32 + hN f k) = x at h h2 ⊢
  have e : g_w0 f k = x := by
    unfold g_w0
    rw [hx]
    split
    · rfl
    · rename_i hn
      exact (Int32.le_antisymm h2 (Int32.not_lt.mp hn)).symm
  unfold g_wh
  rw [e]
  split
  · rfl
  · rename_i hn
    exact Int32.le_antisymm (Int32.not_lt.mp h) (Int32.not_lt.mp hn)
end PF
/-! ===== masks ===== -/
theorem or_sr (a b c : Int32) : (a ||| b) >>> c = (a >>> c) ||| (b >>> c) := by
  apply Int32.toBitVec_inj.mp
  rw [Int32.toBitVec_shiftRight, Int32.toBitVec_or, Int32.toBitVec_or, Int32.toBitVec_shiftRight, Int32.toBitVec_shiftRight, BitVec.sshiftRight_eq', BitVec.sshiftRight_eq', BitVec.sshiftRight_eq', BitVec.sshiftRight_or_distrib]
theorem or_an (a b c : Int32) : (a ||| b) &&& c = (a &&& c) ||| (b &&& c) := by
  apply Int32.toBitVec_inj.mp
  rw [Int32.toBitVec_and, Int32.toBitVec_or, Int32.toBitVec_or, Int32.toBitVec_and, Int32.toBitVec_and, BitVec.and_or_distrib_right]
/-- what was seen -/
def g_se (f : Nat → Int32) : Nat → Int32
  | 0 => nI 0
  | n + 1 => g_se f n ||| (nI 1 <<< (nI (pN f n) &&& 31))
theorem se_bit : ∀ a w : Fin 24, a ≠ w → ((nI 1 <<< (nI a.1 &&& 31)) >>> (nI w.1 &&& 31)) &&& nI 1 = nI 0 := by decide +kernel
theorem se_0 {f : Nat → Int32} {w : Nat} (hw : w < 24) : ∀ n, (∀ r, r < n → pN f r < 24 ∧ ¬ pN f r = w) → (g_se f n >>> (nI w &&& 31)) &&& nI 1 = nI 0
  | 0, _ => by
    have e : ∀ w : Fin 24, (nI 0 >>> (nI w.1 &&& 31)) &&& nI 1 = nI 0 := by decide +kernel
    exact e ⟨w, hw⟩
  | n + 1, h => by
    show ((g_se f n ||| (nI 1 <<< (nI (pN f n) &&& 31))) >>> (nI w &&& 31)) &&& nI 1 = nI 0
    rw [or_sr, or_an, se_0 hw n (fun r hr => h r (by omega)), se_bit ⟨pN f n, (h n (by omega)).1⟩ ⟨w, hw⟩ (fun z => (h n (by omega)).2 (congrArg Fin.val z))]
    rfl
theorem mk_bit {f : Nat → Int32} {k g : Nat} (hk : k < 3) (h : f (72 + k) = nI g) : (g_mk f g 3 >>> (nI k &&& 31)) &&& nI 1 = nI 1 := by
  show ((if f (72 + 2) = nI g then (if f (72 + 1) = nI g then (if f (72 + 0) = nI g then nI 0 ||| (nI 1 <<< (nI 0 &&& 31)) else nI 0) ||| (nI 1 <<< (nI 1 &&& 31)) else (if f (72 + 0) = nI g then nI 0 ||| (nI 1 <<< (nI 0 &&& 31)) else nI 0)) ||| (nI 1 <<< (nI 2 &&& 31)) else (if f (72 + 1) = nI g then (if f (72 + 0) = nI g then nI 0 ||| (nI 1 <<< (nI 0 &&& 31)) else nI 0) ||| (nI 1 <<< (nI 1 &&& 31)) else (if f (72 + 0) = nI g then nI 0 ||| (nI 1 <<< (nI 0 &&& 31)) else nI 0))) >>> (nI k &&& 31)) &&& nI 1 = nI 1
  match k, hk, h with
  | 0, _, h => rw [if_pos h]; split <;> split <;> decide
  | 1, _, h => rw [if_pos h]; split <;> split <;> decide
  | 2, _, h => rw [if_pos h]; split <;> split <;> decide
/-! ===== the share and the trust, by the law's words ===== -/
theorem tr8_all : ∀ s : Fin 81, nm (FP.fmul (tru (nI s.1)) 1090519040) = true ∧ Op.cmpValue (FP.fcmp (FP.fmul (tru (nI s.1)) 1090519040) (FP.i2f (nI s.1))) .l = 0 := by decide +kernel
theorem tr8 {B : Nat} {f : Nat → Int32} (h : Inv B f) : vf_n32 (FP.fmul (g_trust f) 1090519040) ∧ Op.cmpValue (FP.fcmp (FP.fmul (g_trust f) 1090519040) (FP.i2f (g_sm f 24 8))) .l = 0 := by
  obtain ⟨s, hs, e⟩ := h.trust
  unfold g_trust
  rw [e]
  exact ⟨nm_s (tr8_all ⟨s, hs⟩).1, (tr8_all ⟨s, hs⟩).2⟩
theorem sh_self {B : Nat} {f : Nat → Int32} (h : Inv B f) (hB : 8 * B < 2147483648) : Op.cmpValue (FP.dcmp (g_share f) (g_share f)) .l = 0 := by
  obtain ⟨-, z, hz, -⟩ := h.share hB
  rw [hz.cmp hz, cmp_eq, cv_eq]
theorem i2d_ne (x : Int32) : FP.Core.val64 (FP.i2d x) ≠ .nan := by
  show FP.Core.val64 (FP.Core.i2d x) ≠ _
  rw [FP.Core.val64_i2d]
  exact rnd_ne FP.Core.Datum.noConfusion
theorem mul_1 (x : Int32) : FP.dmul (FP.i2d x) FP.dconst1 = FP.i2d x := FP.Core.dmul_one (i2d_ne x)
theorem mul_1n (x : Int32) : vf_n64 (FP.dmul (FP.i2d x) FP.dconst1) := by rw [mul_1]; exact f_n64 (i2d_ne x)
