/-! ===== numbers: Int32 as integers ===== -/
theorem t_bm {n : Int} (h1 : -2147483648 ≤ n) (h2 : n < 2147483648) : n.bmod (2 ^ 32) = n := by
  rw [Int.bmod_def]
  split <;> omega
theorem t_add {a b : Int32} (h1 : -2147483648 ≤ a.toInt + b.toInt) (h2 : a.toInt + b.toInt < 2147483648) : (a + b).toInt = a.toInt + b.toInt := by
  rw [Int32.toInt_add, t_bm h1 h2]
theorem t_sub {a b : Int32} (h1 : -2147483648 ≤ a.toInt - b.toInt) (h2 : a.toInt - b.toInt < 2147483648) : (a - b).toInt = a.toInt - b.toInt := by
  rw [Int32.toInt_sub, t_bm h1 h2]
theorem t_mul {a b : Int32} (h1 : -2147483648 ≤ a.toInt * b.toInt) (h2 : a.toInt * b.toInt < 2147483648) : (a * b).toInt = a.toInt * b.toInt := by
  rw [Int32.toInt_mul, t_bm h1 h2]
theorem t_div {a b : Int32} (h1 : 0 ≤ a.toInt) (h2 : 0 < b.toInt) : (a / b).toInt = a.toInt / b.toInt := by
  rw [Int32.toInt_div]
  have h3 : a.toInt.tdiv b.toInt = a.toInt / b.toInt := Int.tdiv_eq_ediv_of_nonneg h1
  have h4 : a.toInt < 2147483648 := by have := a.toInt_lt; omega
  have h5 : a.toInt / b.toInt ≤ a.toInt := Int.ediv_le_self _ h1
  have h6 : 0 ≤ a.toInt / b.toInt := Int.ediv_nonneg h1 (by omega)
  rw [h3, t_bm (by omega) (by omega)]
theorem t_nI {n : Nat} (h : n < 2 ^ 31) : (nI n).toInt = (n : Int) := nI_toInt h
theorem t_le {a b : Int32} : a ≤ b ↔ a.toInt ≤ b.toInt := Int32.le_iff_toInt_le
theorem t_lt {a b : Int32} : a < b ↔ a.toInt < b.toInt := Int32.lt_iff_toInt_lt
theorem t_eq {a b : Int32} : a = b ↔ a.toInt = b.toInt := Int32.toInt_inj.symm
theorem t_0 : (0 : Int32).toInt = 0 := rfl
theorem t_m1 : (-1 : Int32).toInt = -1 := rfl
theorem t_mb {a b A C : Int} (h1 : 0 ≤ a) (h2 : a ≤ A) (h3 : 0 ≤ b) (h4 : b ≤ C) : 0 ≤ a * b ∧ a * b ≤ A * C :=
  ⟨Int.mul_nonneg h1 h3, Int.mul_le_mul h2 h4 h3 (Int.le_trans h1 h2)⟩
theorem t_ofn {x : Int32} {n : Nat} (h1 : 0 ≤ x.toInt) (h2 : x.toInt < n) (hn : n < 2 ^ 31) : x = nI x.toNatClampNeg ∧ x.toNatClampNeg < n := by
  have e : ((x.toNatClampNeg : Nat) : Int) = x.toInt := by
    show ((x.toInt.toNat : Nat) : Int) = x.toInt
    omega
  refine ⟨?_, by omega⟩
  rw [t_eq, t_nI (by omega), e]
/-! ===== what holds of every row ===== -/
def cnt (f : Nat → Int32) : Nat → Nat
  | 0 => 0
  | n + 1 => cnt f n + (if f (87 + n) = -1 then 0 else 1)
def Iv1 (f : Nat → Int32) : Prop := ∀ g, g < 8 → 10 ≤ (f g).toInt ∧ (f g).toInt ≤ 40
def Iv2 (f : Nat → Int32) : Prop := ∀ g, g < 8 → 0 ≤ (f (8 + g)).toInt ∧ (f (8 + g)).toInt ≤ (f g).toInt
def Iv3 (f : Nat → Int32) : Prop := ∀ g, g < 8 → 1 ≤ (f (16 + g)).toInt ∧ (f (16 + g)).toInt ≤ 20
def Iv4 (f : Nat → Int32) : Prop := ∀ g, g < 8 → 0 ≤ (f (24 + g)).toInt ∧ (f (24 + g)).toInt ≤ 10
def Iv5 (f : Nat → Int32) : Prop := ∀ g, g < 8 → -20 ≤ (f (32 + g)).toInt ∧ (f (32 + g)).toInt ≤ 20
def Iv6 (B : Nat) (f : Nat → Int32) : Prop := ∀ g, g < 8 → 0 ≤ (f (56 + g)).toInt ∧ (f (56 + g)).toInt ≤ (f (64 + g)).toInt ∧ (f (64 + g)).toInt ≤ B
def Iv7 (f : Nat → Int32) : Prop := ∀ k, k < 3 → 0 ≤ (f (72 + k)).toInt ∧ (f (72 + k)).toInt < 8
def Iv8 (f : Nat → Int32) : Prop := ∀ k, k < 3 → 0 ≤ (f (75 + k)).toInt ∧ (f (75 + k)).toInt ≤ 200
def Iv9 (f : Nat → Int32) : Prop := ∀ k, k < 3 → 0 ≤ (f (78 + k)).toInt ∧ (f (78 + k)).toInt ≤ 200
def IvA (f : Nat → Int32) : Prop := f 135 = nI (cnt f 24)
def IvB (f : Nat → Int32) : Prop := ∀ r, r < cnt f 24 → 0 ≤ (f (111 + r)).toInt ∧ (f (111 + r)).toInt < 24
def Inv (B : Nat) (f : Nat → Int32) : Prop := Iv1 f ∧ Iv2 f ∧ Iv3 f ∧ Iv4 f ∧ Iv5 f ∧ Iv6 B f ∧ Iv7 f ∧ Iv8 f ∧ Iv9 f ∧ IvA f ∧ IvB f
theorem cnt_le (f : Nat → Int32) : ∀ n, cnt f n ≤ n
  | 0 => Nat.le_refl _
  | n + 1 => by
    have := cnt_le f n
    unfold cnt
    split <;> omega
theorem cnt_lt {f : Nat → Int32} {q : Nat} (h : f (87 + q) = -1) : ∀ n, q < n → cnt f n < n
  | 0, hq => absurd hq (Nat.not_lt_zero _)
  | n + 1, hq => by
    unfold cnt
    by_cases hqn : q = n
    · subst hqn
      rw [if_pos h]
      have := cnt_le f q
      omega
    · have := cnt_lt h n (by omega)
      split <;> omega
theorem cnt_congr {f g : Nat → Int32} : ∀ n, (∀ q, q < n → (f (87 + q) = -1 ↔ g (87 + q) = -1)) → cnt f n = cnt g n
  | 0, _ => rfl
  | n + 1, h => by
    unfold cnt
    rw [cnt_congr n (fun q hq => h q (by omega))]
    by_cases h1 : f (87 + n) = -1
    · rw [if_pos h1, if_pos ((h n (by omega)).mp h1)]
    · rw [if_neg h1, if_neg (fun z => h1 ((h n (by omega)).mpr z))]
theorem Inv.mono {B C : Nat} {f : Nat → Int32} (h : Inv B f) (hBC : B ≤ C) : Inv C f := by
  obtain ⟨h1, h2, h3, h4, h5, h6, h7⟩ := h
  exact ⟨h1, h2, h3, h4, h5, fun g hg => ⟨(h6 g hg).1, (h6 g hg).2.1, Int.le_trans (h6 g hg).2.2 (by omega)⟩, h7⟩
section Facts
variable {B : Nat} {f : Nat → Int32} {k : Nat}
theorem Inv.ok1 (h : Inv B f) (hk : k < 3) : Ok1 f k := by
  have h7 := h.2.2.2.2.2.2.1 k hk
  exact t_ofn h7.1 h7.2 (by decide)
theorem Inv.hN8 (h : Inv B f) (hk : k < 3) : hN f k < 8 := (h.ok1 hk).2
theorem Inv.tale (h : Inv B f) : f 135 = nI (tN f) ∧ tN f = cnt f 24 := by
  have hA : f 135 = nI (cnt f 24) := h.2.2.2.2.2.2.2.2.2.1
  have hc : cnt f 24 ≤ 24 := cnt_le f 24
  have e : tN f = cnt f 24 := by
    unfold tN
    rw [hA, nI_clamp (by omega)]
  exact ⟨by rw [e]; exact hA, e⟩
theorem Inv.ok2 (h : Inv B f) (hk : k < 3) : Ok2 f k := by
  intro hq
  obtain ⟨h1, h2⟩ := h.tale
  have h8 := h.hN8 hk
  refine ⟨h1, ?_⟩
  rw [h2]
  rw [Nat.add_assoc] at hq
  exact cnt_lt hq 24 (by omega)
/-- the weight, the guess, what comes -/
theorem Inv.wt (h : Inv B f) (hk : k < 3) : 0 ≤ (g_wt f k).toInt ∧ (g_wt f k).toInt ≤ (f (75 + k)).toInt := by
  have h8 := h.2.2.2.2.2.2.2.1 k hk
  unfold g_wt
  rw [q_ss]
  have e20 : (nI 20).toInt = 20 := rfl
  have e1 : (f (75 + k) / nI 20).toInt = (f (75 + k)).toInt / 20 := by rw [t_div h8.1 (by rw [e20]; decide), e20]
  have e2 : (f (75 + k) / nI 20 * nI 20).toInt = (f (75 + k)).toInt / 20 * 20 := by
    rw [t_mul, e1, e20]
    · rw [e1, e20]; omega
    · rw [e1, e20]; omega
  rw [e2]
  omega
theorem Inv.gs (h : Inv B f) (hk : k < 3) : 0 ≤ (g_gs f k).toInt ∧ (g_gs f k).toInt ≤ 200 := by
  have hw := h.wt hk
  have h8 := h.2.2.2.2.2.2.2.1 k hk
  have h9 := h.2.2.2.2.2.2.2.2.1 k hk
  have h4 := h.2.2.2.1 (hN f k) (h.hN8 hk)
  have e10 : (nI 10).toInt = 10 := rfl
  unfold g_gs
  generalize (g_wt f k) = w at hw ⊢
  generalize f (78 + k) = x at h9 ⊢
  generalize f (24 + hN f k) = t at h4 ⊢
  have a1 := t_mb h9.1 h9.2 h4.1 (Int.le_refl _)
  have e1 : (nI 10 - t).toInt = 10 - t.toInt := by rw [t_sub, e10] <;> rw [e10] <;> omega
  have a2 := t_mb (a := w.toInt) (b := 10 - t.toInt) hw.1 (Int.le_trans hw.2 h8.2) (by omega) (Int.le_refl _)
  have m1 : (x * t).toInt = x.toInt * t.toInt := t_mul (by omega) (by omega)
  have m2 : (w * (nI 10 - t)).toInt = w.toInt * (10 - t.toInt) := by rw [t_mul, e1] <;> rw [e1] <;> omega
  have m3 : (x * t + w * (nI 10 - t)).toInt = x.toInt * t.toInt + w.toInt * (10 - t.toInt) := by rw [t_add, m1, m2] <;> rw [m1, m2] <;> omega
  rw [t_div (by rw [m3]; omega) (by rw [e10]; decide), m3, e10]
  omega
theorem Inv.rm (h : Inv B f) {g : Nat} (hg : g < 8) : 0 ≤ (g_rm f g).toInt ∧ (g_rm f g).toInt ≤ 40 ∧ (g_rm f g).toInt = (f g).toInt - (f (8 + g)).toInt := by
  have h1 := h.1 g hg
  have h2 := h.2.1 g hg
  unfold g_rm
  rw [t_sub (by omega) (by omega)]
  omega
theorem Inv.dv (h : Inv B f) (hk : k < 3) : 1 ≤ (g_dv (g_gs f k)).toInt := by
  have hg := h.gs hk
  unfold g_dv
  split
  · exact (by decide : (1 : Int) ≤ 1)
  · rename_i hn
    rw [t_le, t_0] at hn
    omega
theorem Inv.c0 (h : Inv B f) (hk : k < 3) : 0 ≤ (g_c0 f k).toInt := by
  have hr := h.rm (h.hN8 hk)
  have h8 := h.2.2.2.2.2.2.2.1 k hk
  have hd := h.dv hk
  unfold g_c0
  have a1 := t_mb hr.1 hr.2.1 h8.1 h8.2
  have m1 : (g_rm f (hN f k) * f (75 + k)).toInt = (g_rm f (hN f k)).toInt * (f (75 + k)).toInt := t_mul (by omega) (by omega)
  rw [t_div (by rw [m1]; omega) (by omega), m1]
  exact Int.ediv_nonneg a1.1 (by omega)
theorem Inv.cm (h : Inv B f) (hk : k < 3) : 0 ≤ (g_cm f k).toInt ∧ (g_cm f k).toInt ≤ (f (75 + k)).toInt ∧ (f (75 + k)).toInt ≤ 200 := by
  have h8 := h.2.2.2.2.2.2.2.1 k hk
  have hc := h.c0 hk
  unfold g_cm
  split
  · omega
  · rename_i hn
    rw [t_le] at hn
    omega
theorem Inv.ov (h : Inv B f) (hk : k < 3) : 0 ≤ (g_ov f k).toInt ∧ (g_ov f k).toInt ≤ (g_cm f k).toInt ∧ (g_cm f k).toInt - (g_ov f k).toInt ≤ (g_rm f (hN f k)).toInt := by
  have hc := h.cm hk
  have hr := h.rm (h.hN8 hk)
  have e : (g_cm f k - g_rm f (hN f k)).toInt = (g_cm f k).toInt - (g_rm f (hN f k)).toInt := t_sub (by omega) (by omega)
  have e0 : (nI 0).toInt = 0 := rfl
  unfold g_ov
  split
  · rename_i hn
    rw [t_lt, e, e0] at hn
    rw [e0]
    omega
  · rename_i hn
    rw [t_lt, e, e0] at hn
    rw [e]
    omega
theorem Inv.tr (h : Inv B f) (hk : k < 3) : 0 ≤ (g_tr f k).toInt ∧ (g_tr f k).toInt ≤ 10 := by
  have h4 := h.2.2.2.1 (hN f k) (h.hN8 hk)
  have e10 : (nI 10).toInt = 10 := rfl
  have e1 : (nI 1).toInt = 1 := rfl
  unfold g_tr
  split
  · split
    · exact h4
    · split
      · exact h4
      · rename_i hn
        rw [t_le, t_0] at hn
        rw [t_sub] <;> rw [e1] <;> omega
  · split
    · exact h4
    · rename_i hn
      rw [t_le, e10] at hn
      rw [t_add] <;> rw [e1] <;> omega
theorem Inv.wh (h : Inv B f) (hk : k < 3) : 0 ≤ (g_wh f k).toInt ∧ (g_wh f k).toInt ≤ 200 := by
  have e0 : (nI 0).toInt = 0 := rfl
  have e200 : (nI 200).toInt = 200 := rfl
  have hw0 : (g_w0 f k).toInt ≤ 200 := by
    unfold g_w0
    split
    · rename_i hn
      rw [t_lt, e200] at hn
      omega
    · rw [e200]; decide
  unfold g_wh
  split
  · rename_i hn
    rw [t_lt, e0] at hn
    omega
  · rw [e0]; decide
end Facts
