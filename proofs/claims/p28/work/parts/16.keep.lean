/-! ===== what holds is kept ===== -/
theorem u_at {f : Nat → Int32} {a b : Nat} {x : Int32} (h : b = a) : upd f a x b = x := by rw [h]; exact pk_us
/-- the row behind a pour, place by place -/
theorem pour_o {f : Nat → Int32} {k j : Nat} (h1 : j ≠ 24 + hN f k) (h2 : j ≠ 75 + k) (h3 : j ≠ 8 + hN f k) (h4 : j ≠ 56 + hN f k) (h5 : j ≠ 64 + hN f k) (h6 : j ≠ 136) (h7 : j ≠ 40 + hN f k) (h8 : j ≠ 137) : g_pour f k j = f j := by
  have e : g_pr6 f k j = f j := by
    unfold g_pr6
    try dsimp only
    rw [pk_un h6, pk_un h5, pk_un h4, pk_un h3, pk_un h2, pk_un h1]
  unfold g_pour
  split
  · exact e
  · dsimp only
    rw [pk_un h8, pk_un h7, e]
theorem pour_6 {f : Nat → Int32} {k j : Nat} (h7 : j ≠ 40 + hN f k) (h8 : j ≠ 137) : g_pour f k j = g_pr6 f k j := by
  unfold g_pour
  split
  · rfl
  · dsimp only
    rw [pk_un h8, pk_un h7]
theorem pour_tr {f : Nat → Int32} {k : Nat} (hk : k < 3) (h8 : hN f k < 8) : g_pour f k (24 + hN f k) = g_tr f k := by
  rw [pour_6 (by omega) (by omega)]
  unfold g_pr6
  try dsimp only
  rw [pk_un (by omega), pk_un (by omega), pk_un (by omega), pk_un (by omega), pk_un (by omega), pk_us]
theorem pour_fi {f : Nat → Int32} {k : Nat} (hk : k < 3) (h8 : hN f k < 8) : g_pour f k (75 + k) = f (75 + k) - g_cm f k := by
  rw [pour_6 (by omega) (by omega)]
  unfold g_pr6
  try dsimp only
  rw [pk_un (by omega), pk_un (by omega), pk_un (by omega), pk_un (by omega), pk_us, pk_un (by omega)]
theorem pour_te {f : Nat → Int32} {k : Nat} (hk : k < 3) (h8 : hN f k < 8) : g_pour f k (8 + hN f k) = f (8 + hN f k) + (g_cm f k - g_ov f k) := by
  rw [pour_6 (by omega) (by omega)]
  unfold g_pr6
  try dsimp only
  rw [pk_un (by omega), pk_un (by omega), pk_un (by omega), pk_us, pk_un (by omega), pk_un (by omega)]
theorem pour_sp {f : Nat → Int32} {k : Nat} (hk : k < 3) (h8 : hN f k < 8) : g_pour f k (56 + hN f k) = f (56 + hN f k) + g_ov f k := by
  rw [pour_6 (by omega) (by omega)]
  unfold g_pr6
  try dsimp only
  rw [pk_un (by omega), pk_un (by omega), pk_us, pk_un (by omega), pk_un (by omega), pk_un (by omega)]
theorem pour_ca {f : Nat → Int32} {k : Nat} (hk : k < 3) (h8 : hN f k < 8) : g_pour f k (64 + hN f k) = f (64 + hN f k) + g_cm f k := by
  rw [pour_6 (by omega) (by omega)]
  unfold g_pr6
  try dsimp only
  rw [pk_un (by omega), pk_us, pk_un (by omega), pk_un (by omega), pk_un (by omega), pk_un (by omega)]
theorem pour_hN {f : Nat → Int32} {k k2 : Nat} (hk : k < 3) (h8 : hN f k < 8) (hk2 : k2 < 3) : hN (g_pour f k) k2 = hN f k2 := by
  unfold hN
  rw [pour_o (by omega) (by omega) (by omega) (by omega) (by omega) (by omega) (by omega) (by omega)]
theorem pour_inv {B : Nat} {f : Nat → Int32} {k : Nat} (h : Inv B f) (hB : B < 2000000000) (hk : k < 3) : Inv (B + 200) (g_pour f k) := by
  have h8 := h.hN8 hk
  have hcm := h.cm hk
  have hov := h.ov hk
  have hrm := h.rm h8
  have htr := h.tr hk
  obtain ⟨i1, i2, i3, i4, i5, i6, i7, i8, i9, iA, iB⟩ := h
  have ecv : (g_cm f k - g_ov f k).toInt = (g_cm f k).toInt - (g_ov f k).toInt := t_sub (by omega) (by omega)
  have hc : cnt (g_pour f k) 24 = cnt f 24 := cnt_congr 24 (fun q hq => by rw [pour_o (by omega) (by omega) (by omega) (by omega) (by omega) (by omega) (by omega) (by omega)])
  have e0 : ∀ g, g < 8 → g_pour f k g = f g := fun g hg => pour_o (by omega) (by omega) (by omega) (by omega) (by omega) (by omega) (by omega) (by omega)
  refine ⟨fun g hg => ?_, fun g hg => ?_, fun g hg => ?_, fun g hg => ?_, fun g hg => ?_, fun g hg => ?_, fun k2 hk2 => ?_, fun k2 hk2 => ?_, fun k2 hk2 => ?_, ?_, fun r hr => ?_⟩
  · rw [e0 g hg]; exact i1 g hg
  · rw [e0 g hg]
    by_cases hg2 : g = hN f k
    · subst hg2
      have q1 := i1 _ hg
      have q2 := i2 _ hg
      rw [pour_te hk h8, t_add] <;> rw [ecv] <;> omega
    · rw [pour_o (by omega) (by omega) (by omega) (by omega) (by omega) (by omega) (by omega) (by omega)]
      exact i2 g hg
  · rw [pour_o (by omega) (by omega) (by omega) (by omega) (by omega) (by omega) (by omega) (by omega)]
    exact i3 g hg
  · by_cases hg2 : g = hN f k
    · subst hg2
      rw [pour_tr hk h8]
      exact htr
    · rw [pour_o (by omega) (by omega) (by omega) (by omega) (by omega) (by omega) (by omega) (by omega)]
      exact i4 g hg
  · rw [pour_o (by omega) (by omega) (by omega) (by omega) (by omega) (by omega) (by omega) (by omega)]
    exact i5 g hg
  · by_cases hg2 : g = hN f k
    · subst hg2
      have q6 := i6 _ hg
      have e1 : (f (56 + hN f k) + g_ov f k).toInt = (f (56 + hN f k)).toInt + (g_ov f k).toInt := t_add (by omega) (by omega)
      have e2 : (f (64 + hN f k) + g_cm f k).toInt = (f (64 + hN f k)).toInt + (g_cm f k).toInt := t_add (by omega) (by omega)
      rw [pour_sp hk h8, pour_ca hk h8, e1, e2]
      refine ⟨by omega, by omega, ?_⟩
      have : (f (64 + hN f k)).toInt ≤ B := q6.2.2
      omega
    · rw [pour_o (by omega) (by omega) (by omega) (by omega) (by omega) (by omega) (by omega) (by omega), pour_o (by omega) (by omega) (by omega) (by omega) (by omega) (by omega) (by omega) (by omega)]
      have q6 := i6 g hg
      exact ⟨q6.1, q6.2.1, by have := q6.2.2; omega⟩
  · rw [pour_o (by omega) (by omega) (by omega) (by omega) (by omega) (by omega) (by omega) (by omega)]
    exact i7 k2 hk2
  · by_cases hg2 : k2 = k
    · subst hg2
      have q8 := i8 _ hk2
      rw [pour_fi hk h8, t_sub] <;> omega
    · rw [pour_o (by omega) (by omega) (by omega) (by omega) (by omega) (by omega) (by omega) (by omega)]
      exact i8 k2 hk2
  · rw [pour_o (by omega) (by omega) (by omega) (by omega) (by omega) (by omega) (by omega) (by omega)]
    exact i9 k2 hk2
  · show g_pour f k 135 = nI (cnt (g_pour f k) 24)
    rw [hc, pour_o (by omega) (by omega) (by omega) (by omega) (by omega) (by omega) (by omega) (by omega)]
    exact iA
  · rw [hc] at hr
    have h24 := cnt_le f 24
    rw [pour_o (by omega) (by omega) (by omega) (by omega) (by omega) (by omega) (by omega) (by omega)]
    exact iB r hr
/-- the row behind a hand, place by place -/
theorem tl_o {f : Nat → Int32} {k j : Nat} (h1 : j ≠ 111 + tN f) (h2 : j ≠ 135) : g_tl f k j = f j := by
  unfold g_tl
  split
  · dsimp only
    rw [pk_un h2, pk_un h1]
  · rfl
theorem hand_o {f : Nat → Int32} {k d j : Nat} (h1 : j ≠ 111 + tN f) (h2 : j ≠ 135) (h3 : j ≠ 87 + 8 * k + hN f k) (h4 : j ≠ 78 + k) (h5 : j ≠ 84 + k) (h6 : j ≠ 72 + k) : g_hand f k d j = f j := by
  unfold g_hand
  try dsimp only
  rw [pk_un h6, pk_un h5, pk_un h4, pk_un h3, tl_o h1 h2]
theorem hand_t {f : Nat → Int32} {k d j : Nat} (h3 : j ≠ 87 + 8 * k + hN f k) (h4 : j ≠ 78 + k) (h5 : j ≠ 84 + k) (h6 : j ≠ 72 + k) : g_hand f k d j = g_tl f k j := by
  unfold g_hand
  try dsimp only
  rw [pk_un h6, pk_un h5, pk_un h4, pk_un h3]
theorem hand_pos {f : Nat → Int32} {k d : Nat} : g_hand f k d (72 + k) = nI ((hN f k + d) % 8) := by
  unfold g_hand
  try dsimp only
  rw [pk_us]
theorem hand_wh {f : Nat → Int32} {k d : Nat} : g_hand f k d (78 + k) = g_wh f k := by
  unfold g_hand
  try dsimp only
  rw [pk_un (by omega), pk_un (by omega), pk_us]
theorem hand_to {f : Nat → Int32} {k d : Nat} (hk : k < 3) (h8 : hN f k < 8) : g_hand f k d (87 + 8 * k + hN f k) = g_wh f k := by
  unfold g_hand
  try dsimp only
  rw [pk_un (by omega), pk_un (by omega), pk_un (by omega), pk_us]
theorem hand_hN {f : Nat → Int32} {k d : Nat} : hN (g_hand f k d) k = (hN f k + d) % 8 := by
  unfold hN
  rw [hand_pos]
  exact nI_clamp (by have : (hN f k + d) % 8 < 8 := Nat.mod_lt _ (by decide); unfold hN at this; omega)
theorem hand_inv {B : Nat} {f : Nat → Int32} {k d : Nat} (h : Inv B f) (hk : k < 3) : Inv B (g_hand f k d) := by
  have h8 := h.hN8 hk
  have hwh := h.wh hk
  obtain ⟨ht1, ht2⟩ := h.tale
  obtain ⟨i1, i2, i3, i4, i5, i6, i7, i8, i9, iA, iB⟩ := h
  have h24 := cnt_le f 24
  have hwm : ¬ g_wh f k = -1 := fun z => by rw [z, t_m1] at hwh; omega
  have hto := hand_to (d := d) hk h8
  have o7 : ∀ j, j < 72 → g_hand f k d j = f j := fun j hj => hand_o (by omega) (by omega) (by omega) (by omega) (by omega) (by omega)
  have hq : ∀ r, r ≠ 8 * k + hN f k → r < 24 → g_hand f k d (87 + r) = f (87 + r) := fun r hr hr24 => hand_o (by omega) (by omega) (by omega) (by omega) (by omega) (by omega)
  have hm : (nI ((hN f k + d) % 8)).toInt = (((hN f k + d) % 8 : Nat) : Int) := t_nI (by have : (hN f k + d) % 8 < 8 := Nat.mod_lt _ (by decide); omega)
  have hm8 : (hN f k + d) % 8 < 8 := Nat.mod_lt _ (by decide)
  have hAB : IvA (g_hand f k d) ∧ IvB (g_hand f k d) := by
    by_cases hn : f (87 + 8 * k + hN f k) = -1
    · have hn2 : f (87 + (8 * k + hN f k)) = -1 := by rw [← Nat.add_assoc]; exact hn
      have hc : cnt f 24 < 24 := cnt_lt hn2 24 (by omega)
      have hc2 : cnt (g_hand f k d) 24 = cnt f 24 + 1 := by
        have hcc : ∀ n, n ≤ 24 → 8 * k + hN f k < n → cnt (g_hand f k d) n = cnt f n + 1 := by
          intro n
          induction n with
          | zero => intro _ h0; exact absurd h0 (Nat.not_lt_zero _)
          | succ n ih =>
            intro hn24 hqn
            unfold cnt
            by_cases hz : 8 * k + hN f k = n
            · rw [cnt_congr n (fun r hr => by rw [hq r (by omega) (by omega)]), ← hz, ← Nat.add_assoc, hto, if_neg hwm, if_pos hn]
            · rw [ih (by omega) (by omega), hq n (by omega) (by omega)]
              omega
        exact hcc 24 (Nat.le_refl _) (by omega)
      have e135 : g_hand f k d 135 = nI (cnt f 24 + 1) := by
        rw [hand_t (by omega) (by omega) (by omega) (by omega)]
        unfold g_tl
        rw [if_pos hn]
        try dsimp only
        rw [pk_us, pk_un (by omega), ht1, ht2, nI_add]
      refine ⟨?_, fun r hr => ?_⟩
      · show g_hand f k d 135 = nI (cnt (g_hand f k d) 24)
        rw [e135, hc2]
      · rw [hc2] at hr
        by_cases hrc : r = cnt f 24
        · have e : g_hand f k d (111 + r) = nI (8 * k + hN f k) := by
            rw [hand_t (by omega) (by omega) (by omega) (by omega)]
            unfold g_tl
            rw [if_pos hn]
            try dsimp only
            rw [pk_un (by omega), ht2, hrc, pk_us]
          rw [e, t_nI (by omega)]
          omega
        · rw [hand_o (by omega) (by omega) (by omega) (by omega) (by omega) (by omega)]
          exact iB r (by omega)
    · have e : g_tl f k = f := by
        unfold g_tl
        rw [if_neg hn]
      have hc2 : cnt (g_hand f k d) 24 = cnt f 24 := cnt_congr 24 (fun r hr => by
        by_cases hz : r = 8 * k + hN f k
        · have hne : ¬ f (87 + r) = -1 := by rw [hz, ← Nat.add_assoc]; exact hn
          have hne2 : ¬ g_hand f k d (87 + r) = -1 := by rw [hz, ← Nat.add_assoc, hto]; exact hwm
          exact ⟨fun z => absurd z hne2, fun z => absurd z hne⟩
        · rw [hq r hz hr])
      refine ⟨?_, fun r hr => ?_⟩
      · show g_hand f k d 135 = nI (cnt (g_hand f k d) 24)
        rw [hc2, hand_t (by omega) (by omega) (by omega) (by omega), e]
        exact iA
      · rw [hc2] at hr
        rw [hand_t (by omega) (by omega) (by omega) (by omega), e]
        exact iB r hr
  refine ⟨fun g hg => ?_, fun g hg => ?_, fun g hg => ?_, fun g hg => ?_, fun g hg => ?_, fun g hg => ?_, fun k2 hk2 => ?_, fun k2 hk2 => ?_, fun k2 hk2 => ?_, hAB.1, hAB.2⟩
  · rw [o7 g (by omega)]; exact i1 g hg
  · rw [o7 g (by omega), o7 (8 + g) (by omega)]; exact i2 g hg
  · rw [o7 (16 + g) (by omega)]; exact i3 g hg
  · rw [o7 (24 + g) (by omega)]; exact i4 g hg
  · rw [o7 (32 + g) (by omega)]; exact i5 g hg
  · rw [o7 (56 + g) (by omega), o7 (64 + g) (by omega)]; exact i6 g hg
  · by_cases hz : k2 = k
    · subst hz
      rw [hand_pos, hm]
      omega
    · rw [hand_o (by omega) (by omega) (by omega) (by omega) (by omega) (by omega)]
      exact i7 k2 hk2
  · rw [hand_o (by omega) (by omega) (by omega) (by omega) (by omega) (by omega)]
    exact i8 k2 hk2
  · by_cases hz : k2 = k
    · subst hz
      rw [hand_wh]
      exact hwh
    · rw [hand_o (by omega) (by omega) (by omega) (by omega) (by omega) (by omega)]
      exact i9 k2 hk2
theorem st_inv {B : Nat} {f : Nat → Int32} {k : Nat} (h : Inv B f) (hB : B < 2000000000) (hk : k < 3) : Inv (B + 200) (g_st f k) := by
  unfold g_st
  split
  · exact hand_inv (pour_inv h hB hk) hk
  · exact (hand_inv h hk).mono (by omega)
theorem rn_inv {k : Nat} (hk : k < 3) : ∀ (n : Nat) {B : Nat} {f : Nat → Int32}, Inv B f → B + 200 * n < 2000000000 → Inv (B + 200 * n) (g_rn n f k)
  | 0, _, _, h, _ => h
  | n + 1, B, f, h, hB => by
    have := rn_inv hk n (st_inv h (by omega) hk) (by omega)
    show Inv (B + 200 * (n + 1)) (g_rn n (g_st f k) k)
    rw [show B + 200 * (n + 1) = B + 200 + 200 * n by omega]
    exact this
theorem rn_ok {k : Nat} (hk : k < 3) : ∀ (n : Nat) {B : Nat} {f : Nat → Int32}, Inv B f → B + 200 * n < 2000000000 → Okr n f k
  | 0, _, _, _, _ => trivial
  | n + 1, B, f, h, hB => by
    refine ⟨h.ok1 hk, ?_, rn_ok hk n (st_inv h (by omega) hk) (by omega)⟩
    split
    · exact ⟨(pour_inv h (by omega) hk).ok1 hk, (pour_inv h (by omega) hk).ok2 hk⟩
    · exact ⟨h.ok1 hk, h.ok2 hk⟩
/-- drinking, brewing, another guest, another cup -/
theorem drink_o {f : Nat → Int32} {g j : Nat} (h1 : j ≠ 8 + g) (h2 : j ≠ 48 + g) : g_drink f g j = f j := by
  unfold g_drink
  try dsimp only
  rw [pk_un h2, pk_un h1]
theorem drink_t {f : Nat → Int32} {g : Nat} : g_drink f g (8 + g) = f (8 + g) - g_dr f g := by
  unfold g_drink
  try dsimp only
  rw [pk_un (by omega), pk_us]
/-- a row that differs at places that are free -/
theorem Inv.same {B : Nat} {f f2 : Nat → Int32} (h : Inv B f) (hs : ∀ j, j < 40 ∨ (56 ≤ j ∧ j < 81) ∨ (87 ≤ j ∧ j < 136) → f2 j = f j) : Inv B f2 := by
  obtain ⟨i1, i2, i3, i4, i5, i6, i7, i8, i9, iA, iB⟩ := h
  have hc : cnt f2 24 = cnt f 24 := cnt_congr 24 (fun q hq => by rw [hs _ (by omega)])
  have h24 := cnt_le f 24
  refine ⟨fun g hg => ?_, fun g hg => ?_, fun g hg => ?_, fun g hg => ?_, fun g hg => ?_, fun g hg => ?_, fun k2 hk2 => ?_, fun k2 hk2 => ?_, fun k2 hk2 => ?_, ?_, fun r hr => ?_⟩
  · rw [hs g (by omega)]; exact i1 g hg
  · rw [hs g (by omega), hs (8 + g) (by omega)]; exact i2 g hg
  · rw [hs (16 + g) (by omega)]; exact i3 g hg
  · rw [hs (24 + g) (by omega)]; exact i4 g hg
  · rw [hs (32 + g) (by omega)]; exact i5 g hg
  · rw [hs (56 + g) (by omega), hs (64 + g) (by omega)]; exact i6 g hg
  · rw [hs (72 + k2) (by omega)]; exact i7 k2 hk2
  · rw [hs (75 + k2) (by omega)]; exact i8 k2 hk2
  · rw [hs (78 + k2) (by omega)]; exact i9 k2 hk2
  · show f2 135 = nI (cnt f2 24)
    rw [hc, hs 135 (by omega)]; exact iA
  · rw [hc] at hr
    rw [hs (111 + r) (by omega)]; exact iB r hr
/-- one of the five numbers of guests that are bounded, or a fill, is written -/
theorem Inv.put {B : Nat} {f : Nat → Int32} (h : Inv B f) {j : Nat} {x : Int32}
    (hx : (j < 8 ∧ 10 ≤ x.toInt ∧ x.toInt ≤ 40 ∧ (f (8 + j)).toInt ≤ x.toInt) ∨ (8 ≤ j ∧ j < 16 ∧ 0 ≤ x.toInt ∧ x.toInt ≤ (f (j - 8)).toInt) ∨ (16 ≤ j ∧ j < 24 ∧ 1 ≤ x.toInt ∧ x.toInt ≤ 20) ∨ (24 ≤ j ∧ j < 32 ∧ 0 ≤ x.toInt ∧ x.toInt ≤ 10) ∨ (32 ≤ j ∧ j < 40 ∧ -20 ≤ x.toInt ∧ x.toInt ≤ 20) ∨ (75 ≤ j ∧ j < 78 ∧ 0 ≤ x.toInt ∧ x.toInt ≤ 200)) : Inv B (upd f j x) := by
  obtain ⟨i1, i2, i3, i4, i5, i6, i7, i8, i9, iA, iB⟩ := h
  have hj : j < 40 ∨ (75 ≤ j ∧ j < 78) := by omega
  have h24 := cnt_le f 24
  have hc : cnt (upd f j x) 24 = cnt f 24 := cnt_congr 24 (fun q hq => by rw [pk_un (by omega)])
  refine ⟨fun g hg => ?_, fun g hg => ?_, fun g hg => ?_, fun g hg => ?_, fun g hg => ?_, fun g hg => ?_, fun k2 hk2 => ?_, fun k2 hk2 => ?_, fun k2 hk2 => ?_, ?_, fun r hr => ?_⟩
  · by_cases hz : g = j
    · rw [u_at hz]; omega
    · rw [pk_un hz]; exact i1 g hg
  · by_cases hz : g = j
    · subst hz
      rw [u_at rfl, pk_un (by omega)]
      have := i2 g hg
      omega
    · by_cases hz2 : 8 + g = j
      · rw [u_at hz2, pk_un hz]
        rcases hx with hx | hx | hx
        · omega
        · have e : j - 8 = g := by omega
          rw [e] at hx
          exact hx.2.2
        · omega
      · rw [pk_un hz, pk_un hz2]; exact i2 g hg
  · by_cases hz : 16 + g = j
    · rw [u_at hz]; omega
    · rw [pk_un hz]; exact i3 g hg
  · by_cases hz : 24 + g = j
    · rw [u_at hz]; omega
    · rw [pk_un hz]; exact i4 g hg
  · by_cases hz : 32 + g = j
    · rw [u_at hz]; omega
    · rw [pk_un hz]; exact i5 g hg
  · rw [pk_un (by omega), pk_un (by omega)]; exact i6 g hg
  · rw [pk_un (by omega)]; exact i7 k2 hk2
  · by_cases hz : 75 + k2 = j
    · rw [u_at hz]; omega
    · rw [pk_un hz]; exact i8 k2 hk2
  · rw [pk_un (by omega)]; exact i9 k2 hk2
  · show upd f j x 135 = nI (cnt (upd f j x) 24)
    rw [hc, pk_un (by omega)]; exact iA
  · rw [hc] at hr
    rw [pk_un (by omega)]; exact iB r hr
theorem Inv.dr {B : Nat} {f : Nat → Int32} {g : Nat} (h : Inv B f) (hg : g < 8) : 0 ≤ (g_dr f g).toInt ∧ (g_dr f g).toInt ≤ (f (8 + g)).toInt := by
  have h2 := h.2.1 g hg
  have h3 := h.2.2.1 g hg
  unfold g_dr
  split
  · omega
  · rename_i hn
    rw [t_lt] at hn
    omega
theorem drink_inv {B : Nat} {f : Nat → Int32} {g : Nat} (h : Inv B f) (hg : g < 8) : Inv B (g_drink f g) := by
  have hd := h.dr hg
  have h1 := h.1 g hg
  have h2 := h.2.1 g hg
  have e : (f (8 + g) - g_dr f g).toInt = (f (8 + g)).toInt - (g_dr f g).toInt := t_sub (by omega) (by omega)
  have h5 : Inv B (upd f (8 + g) (f (8 + g) - g_dr f g)) := h.put (Or.inr (Or.inl ⟨by omega, by omega, by omega, by rw [show 8 + g - 8 = g by omega]; omega⟩))
  refine h5.same fun j hj => ?_
  unfold g_drink
  try dsimp only
  rw [pk_un (by omega)]
theorem all_inv {B : Nat} {f : Nat → Int32} (h : Inv B f) : ∀ n, n ≤ 8 → Inv B (g_all n f)
  | 0, _ => h
  | n + 1, hn => drink_inv (all_inv h n (by omega)) (by omega)
theorem brew_inv {B : Nat} {f : Nat → Int32} {k : Nat} {t : Int32} (h : Inv B f) (hk : k < 3) (ht : 0 ≤ t.toInt) (ht2 : t.toInt ≤ 200) (hr : ¬ nI 200 < f (75 + k) + t) : Inv B (g_brew f k t) := by
  have h8 := h.2.2.2.2.2.2.2.1 k hk
  have e : (f (75 + k) + t).toInt = (f (75 + k)).toInt + t.toInt := t_add (by omega) (by omega)
  have e200 : (nI 200).toInt = 200 := rfl
  rw [t_lt, e200, e] at hr
  have h5 : Inv B (upd f (75 + k) (f (75 + k) + t)) := h.put (Or.inr (Or.inr (Or.inr (Or.inr (Or.inr ⟨by omega, by omega, by omega, by omega⟩)))))
  refine h5.same fun j hj => ?_
  unfold g_brew
  try dsimp only
  rw [pk_un (by omega)]

