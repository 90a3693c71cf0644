/-! ===== the share and the trust of a row ===== -/
theorem sm_bd {f : Nat → Int32} {b : Nat} {M : Int} (hM0 : 0 ≤ M) (hM : 8 * M < 2147483648) : ∀ n, n ≤ 8 → (∀ i, i < n → 0 ≤ (f (b + i)).toInt ∧ (f (b + i)).toInt ≤ M) → 0 ≤ (g_sm f b n).toInt ∧ (g_sm f b n).toInt ≤ n * M
  | 0, _, _ => by
    show 0 ≤ (nI 0).toInt ∧ (nI 0).toInt ≤ ((0 : Nat) : Int) * M
    rw [show (nI 0).toInt = 0 from rfl]
    omega
  | n + 1, hn, h => by
    have ih := sm_bd (f := f) (b := b) hM0 hM n (by omega) (fun i hi => h i (by omega))
    have h1 := h n (by omega)
    have hnM : (n : Int) * M ≤ 7 * M := Int.mul_le_mul_of_nonneg_right (by omega) hM0
    have e : (g_sm f b (n + 1)).toInt = (g_sm f b n).toInt + (f (b + n)).toInt := t_add (by omega) (by omega)
    have e2 : ((n + 1 : Nat) : Int) * M = (n : Int) * M + M := by rw [Int.natCast_succ, Int.add_mul, Int.one_mul]
    rw [e, e2]
    omega
theorem sm_le {f : Nat → Int32} {b d : Nat} {M : Int} (hM0 : 0 ≤ M) (hM : 8 * M < 2147483648) : ∀ n, n ≤ 8 → (∀ i, i < n → 0 ≤ (f (b + i)).toInt ∧ (f (b + i)).toInt ≤ (f (d + i)).toInt ∧ (f (d + i)).toInt ≤ M) → (g_sm f b n).toInt ≤ (g_sm f d n).toInt
  | 0, _, _ => Int.le_refl _
  | n + 1, hn, h => by
    have ih := sm_le (f := f) (b := b) (d := d) hM0 hM n (by omega) (fun i hi => h i (by omega))
    have b1 := sm_bd (f := f) (b := b) hM0 hM n (by omega) (fun i hi => by have := h i (by omega); omega)
    have b2 := sm_bd (f := f) (b := d) hM0 hM n (by omega) (fun i hi => by have := h i (by omega); omega)
    have h1 := h n (by omega)
    have hnM : (n : Int) * M ≤ 7 * M := Int.mul_le_mul_of_nonneg_right (by omega) hM0
    have e : (g_sm f b (n + 1)).toInt = (g_sm f b n).toInt + (f (b + n)).toInt := t_add (by omega) (by omega)
    have e2 : (g_sm f d (n + 1)).toInt = (g_sm f d n).toInt + (f (d + n)).toInt := t_add (by omega) (by omega)
    rw [e, e2]
    omega
def g_share (f : Nat → Int32) : UInt64 := if g_sm f 64 8 = 0 then FP.dconst0 else FP.ddiv (FP.i2d (g_sm f 56 8)) (FP.i2d (g_sm f 64 8))
theorem Inv.share {B : Nat} {f : Nat → Int32} (h : Inv B f) (hB : 8 * B < 2147483648) : 0 ≤ (g_sm f 64 8).toInt ∧ ∃ z, fS (g_share f) z ∧ (z = 0 ∨ fL ≤ z) ∧ z ≤ fM := by
  have h6 := h.2.2.2.2.2.1
  have hM : 8 * (B : Int) < 2147483648 := by omega
  have b1 := sm_bd (f := f) (b := 56) (M := B) (by omega) hM 8 (by omega) (fun i hi => by have := h6 i hi; omega)
  have b2 := sm_bd (f := f) (b := 64) (M := B) (by omega) hM 8 (by omega) (fun i hi => by have := h6 i hi; omega)
  have b3 := sm_le (f := f) (b := 56) (d := 64) (M := B) (by omega) hM 8 (by omega) h6
  refine ⟨b2.1, ?_⟩
  unfold g_share
  by_cases h0 : g_sm f 64 8 = 0
  · rw [if_pos h0]
    exact ⟨0, fS_0, Or.inl rfl, Nat.zero_le _⟩
  · rw [if_neg h0]
    obtain ⟨a, ha⟩ : ∃ a : Nat, (g_sm f 56 8).toInt = (a : Int) := ⟨(g_sm f 56 8).toInt.toNat, by omega⟩
    obtain ⟨d, hd⟩ : ∃ a : Nat, (g_sm f 64 8).toInt = (a : Int) := ⟨(g_sm f 64 8).toInt.toNat, by omega⟩
    have hd0 : 0 < d := by
      rcases Nat.eq_zero_or_pos d with z | z
      · exact absurd (by rw [t_eq, hd, z]; rfl) h0
      · exact z
    obtain ⟨z, h1, h2, h3, h4⟩ := fS_div (fS_i2d ha) (fS_i2d hd) hd0 (by omega) (by omega)
    refine ⟨z, h1, ?_, h2⟩
    rcases Nat.eq_zero_or_pos a with q | q
    · exact Or.inl (h4 q)
    · exact Or.inr (h3 q)
theorem Inv.share_n {B : Nat} {f : Nat → Int32} (h : Inv B f) (hB : 8 * B < 2147483648) (h0 : ¬ g_sm f 64 8 = 0) : vf_n64 (FP.ddiv (FP.i2d (g_sm f 56 8)) (FP.i2d (g_sm f 64 8))) := by
  obtain ⟨-, z, hz, -⟩ := h.share hB
  unfold g_share at hz
  rw [if_neg h0] at hz
  exact f_n64 hz.ne
theorem Inv.trust {B : Nat} {f : Nat → Int32} (h : Inv B f) : ∃ s, s < 81 ∧ g_sm f 24 8 = nI s := by
  have h4 := h.2.2.2.1
  have b1 := sm_bd (f := f) (b := 24) (M := 10) (by omega) (by omega) 8 (by omega) h4
  have := t_ofn (x := g_sm f 24 8) (n := 81) b1.1 (by omega) (by omega)
  exact ⟨_, this.2, this.1⟩
def g_trust (f : Nat → Int32) : UInt32 := tru (g_sm f 24 8)
theorem Inv.trust_ok {B : Nat} {f : Nat → Int32} (h : Inv B f) : vf_n32 (g_trust f) ∧ vf_n64 (FP.f2d (g_trust f)) ∧ ∃ v, fbt (g_trust f) = some v ∧ cbt (FP.f2d (g_trust f)) 23 127 = some v.toInt64 := by
  obtain ⟨s, hs, e⟩ := h.trust
  unfold g_trust
  rw [e]
  have ht := tru_all ⟨s, hs⟩
  unfold tru_ck at ht
  rw [Bool.and_eq_true, Bool.and_eq_true] at ht
  obtain ⟨⟨h1, h2⟩, h3⟩ := ht
  refine ⟨nm_s h1, nn_s h2, ?_⟩
  have h3 : (match fbt (tru (nI s)) with
    | none => false
    | some v => cbt (FP.f2d (tru (nI s))) 23 127 == some v.toInt64) = true := h3
  cases hf : fbt (tru (nI s)) with
  | none => rw [hf] at h3; cases h3
  | some v =>
    rw [hf] at h3
    exact ⟨v, rfl, eq_of_beq h3⟩

