/-! ===== what adds up in every row ===== -/
theorem a_pr (a b c m o : Int32) : a + b + c + m = a + (m - o) + b + (c + o) := by grind
theorem a_rc (a b c : Int32) : a + b + c = a + c + b := by grind
theorem a_ng (x y m : Int32) : x + y = x + (0 - m) + (y + m) := by grind
theorem a_sb (x m : Int32) : x - m = x + (0 - m) := by grind
theorem a_dr (a b c d : Int32) : a + b + c = a - d + (b + d) + c := by grind
theorem a_br (x y t : Int32) : x + y + t = x + t + y := by grind
theorem sm_congr {f f2 : Nat → Int32} {b : Nat} : ∀ n, (∀ i, i < n → f2 (b + i) = f (b + i)) → g_sm f2 b n = g_sm f b n
  | 0, _ => rfl
  | n + 1, h => by
    show g_sm f2 b n + f2 (b + n) = g_sm f b n + f (b + n)
    rw [sm_congr n (fun i hi => h i (by omega)), h n (by omega)]
theorem sm_put {f f2 : Nat → Int32} {b q : Nat} {d : Int32} (hq : f2 (b + q) = f (b + q) + d) : ∀ n, q < n → (∀ i, i < n → i ≠ q → f2 (b + i) = f (b + i)) → g_sm f2 b n = g_sm f b n + d
  | 0, h, _ => absurd h (Nat.not_lt_zero _)
  | n + 1, h, ho => by
    show g_sm f2 b n + f2 (b + n) = g_sm f b n + f (b + n) + d
    by_cases hqn : q = n
    · subst hqn
      rw [sm_congr q (fun i hi => ho i (by omega) (by omega)), hq, Int32.add_assoc]
    · rw [sm_put hq n (by omega) (fun i hi hn => ho i (by omega) hn), ho n (by omega) (fun z => hqn z.symm), a_rc]
/-- which pair the tale r tells of -/
def pN (f : Nat → Int32) (r : Nat) : Nat := (f (111 + r)).toNatClampNeg
def Js1 (f : Nat → Int32) : Prop := ∀ g, g < 8 → f (64 + g) = f (8 + g) + f (48 + g) + f (56 + g)
def Js2 (f : Nat → Int32) : Prop := ∀ g, g < 8 → 0 ≤ (f (40 + g)).toInt ∧ (f (40 + g)).toInt ≤ (f (56 + g)).toInt
def Js3 (f : Nat → Int32) : Prop := g_sm f 81 3 = g_sm f 75 3 + g_sm f 64 8
def Js4 (f : Nat → Int32) : Prop := g_sm f 40 8 = f 137
def Js5 (B : Nat) (f : Nat → Int32) : Prop := 0 ≤ (f 137).toInt ∧ (f 137).toInt ≤ (f 136).toInt ∧ (f 136).toInt ≤ B
def Js6 (f : Nat → Int32) : Prop := ∀ q, q < 24 → -1 ≤ (f (87 + q)).toInt ∧ (f (87 + q)).toInt ≤ 200
def Js7 (B : Nat) (f : Nat → Int32) : Prop := ∀ k, k < 3 → 0 ≤ (f (84 + k)).toInt ∧ (f (84 + k)).toInt ≤ B ∧ ((f (84 + k)).toInt = 0 → f (78 + k) = 0 ∧ ∀ g, g < 8 → f (87 + 8 * k + g) = -1)
def Js8 (f : Nat → Int32) : Prop := ∀ r, r < cnt f 24 → ¬ f (87 + pN f r) = -1
def Js9 (f : Nat → Int32) : Prop := ∀ r t, r < t → t < cnt f 24 → ¬ pN f r = pN f t
def Js (B : Nat) (f : Nat → Int32) : Prop := Js1 f ∧ Js2 f ∧ Js3 f ∧ Js4 f ∧ Js5 B f ∧ Js6 f ∧ Js7 B f ∧ Js8 f ∧ Js9 f
/-- all that holds of a row -/
def Jv (B : Nat) (f : Nat → Int32) : Prop := Inv B f ∧ Js B f
theorem Jv.mono {B C : Nat} {f : Nat → Int32} (h : Jv B f) (hBC : B ≤ C) : Jv C f := by
  obtain ⟨h0, h1, h2, h3, h4, h5, h6, h7, h8⟩ := h
  exact ⟨h0.mono hBC, h1, h2, h3, h4, ⟨h5.1, h5.2.1, Int.le_trans h5.2.2 (by omega)⟩, h6, fun k hk => ⟨(h7 k hk).1, Int.le_trans (h7 k hk).2.1 (by omega), (h7 k hk).2.2⟩, h8⟩
/-- rows that are the same where it matters -/
theorem Js.same {B : Nat} {f f2 : Nat → Int32} (h : Js B f) (h1 : ∀ g, g < 8 → f2 (8 + g) = f (8 + g)) (hs : ∀ j, 40 ≤ j → f2 j = f j) : Js B f2 := by
  obtain ⟨i1, i2, i3, i4, i5, i6, i7, i8, i9⟩ := h
  have hc : cnt f2 24 = cnt f 24 := cnt_congr 24 (fun q hq => by rw [hs _ (by omega)])
  have hp : ∀ r, pN f2 r = pN f r := fun r => by unfold pN; rw [hs _ (by omega)]
  refine ⟨fun g hg => ?_, fun g hg => ?_, ?_, ?_, ?_, fun q hq => ?_, fun k hk => ?_, fun r hr => ?_, fun r t hrt ht => ?_⟩
  · rw [hs _ (by omega), h1 g hg, hs _ (by omega), hs _ (by omega)]; exact i1 g hg
  · rw [hs _ (by omega), hs _ (by omega)]; exact i2 g hg
  · show g_sm f2 81 3 = g_sm f2 75 3 + g_sm f2 64 8
    rw [sm_congr 3 (fun i hi => hs _ (by omega)), sm_congr 3 (fun i hi => hs _ (by omega)), sm_congr 8 (fun i hi => hs _ (by omega))]
    exact i3
  · show g_sm f2 40 8 = f2 137
    rw [sm_congr 8 (fun i hi => hs _ (by omega)), hs 137 (by omega)]
    exact i4
  · show 0 ≤ (f2 137).toInt ∧ (f2 137).toInt ≤ (f2 136).toInt ∧ (f2 136).toInt ≤ B
    rw [hs 137 (by omega), hs 136 (by omega)]
    exact i5
  · rw [hs _ (by omega)]; exact i6 q hq
  · rw [hs _ (by omega), hs _ (by omega)]
    exact ⟨(i7 k hk).1, (i7 k hk).2.1, fun z => ⟨((i7 k hk).2.2 z).1, fun g hg => by rw [hs _ (by omega)]; exact ((i7 k hk).2.2 z).2 g hg⟩⟩
  · rw [hc] at hr
    rw [hp, hs _ (by omega)]; exact i8 r hr
  · rw [hc] at ht
    rw [hp, hp]; exact i9 r t hrt ht
/-! a pour -/
theorem pour_sh {f : Nat → Int32} {k : Nat} (hk : k < 3) (h8 : hN f k < 8) : g_pour f k (40 + hN f k) = if g_ov f k ≤ 0 then f (40 + hN f k) else f (40 + hN f k) + nI 1 := by
  have e : g_pr6 f k (40 + hN f k) = f (40 + hN f k) := by
    unfold g_pr6
    try dsimp only
    rw [pk_un (by omega), pk_un (by omega), pk_un (by omega), pk_un (by omega), pk_un (by omega), pk_un (by omega)]
  unfold g_pour
  split
  · exact e
  · dsimp only
    rw [pk_un (by omega), pk_us, e]
theorem pour_po {f : Nat → Int32} {k : Nat} (hk : k < 3) (h8 : hN f k < 8) : g_pour f k 136 = f 136 + nI 1 := by
  rw [pour_6 (by omega) (by omega)]
  unfold g_pr6
  try dsimp only
  rw [pk_us, pk_un (by omega), pk_un (by omega), pk_un (by omega), pk_un (by omega), pk_un (by omega)]
theorem pour_sl {f : Nat → Int32} {k : Nat} (hk : k < 3) (h8 : hN f k < 8) : g_pour f k 137 = if g_ov f k ≤ 0 then f 137 else f 137 + nI 1 := by
  have e : g_pr6 f k 137 = f 137 := by
    unfold g_pr6
    try dsimp only
    rw [pk_un (by omega), pk_un (by omega), pk_un (by omega), pk_un (by omega), pk_un (by omega), pk_un (by omega)]
  unfold g_pour
  split
  · exact e
  · dsimp only
    rw [pk_us, pk_un (by omega), e]
theorem pour_js {B : Nat} {f : Nat → Int32} {k : Nat} (h : Jv B f) (hB : B < 2000000000) (hk : k < 3) : Jv (B + 200) (g_pour f k) := by
  refine ⟨pour_inv h.1 hB hk, ?_⟩
  obtain ⟨hI, i1, i2, i3, i4, i5, i6, i7, i8, i9⟩ := h
  have h8 := hI.hN8 hk
  have hov := hI.ov hk
  have hcm := hI.cm hk
  have e1 : (nI 1).toInt = 1 := rfl
  have o : ∀ j, j ≠ 24 + hN f k → j ≠ 75 + k → j ≠ 8 + hN f k → j ≠ 56 + hN f k → j ≠ 64 + hN f k → j ≠ 136 → j ≠ 40 + hN f k → j ≠ 137 → g_pour f k j = f j := fun j a b c d e f g h => pour_o a b c d e f g h
  have hc : cnt (g_pour f k) 24 = cnt f 24 := cnt_congr 24 (fun q hq => by rw [o _ (by omega) (by omega) (by omega) (by omega) (by omega) (by omega) (by omega) (by omega)])
  have hp : ∀ r, r < 24 → pN (g_pour f k) r = pN f r := fun r hr => by unfold pN; rw [o _ (by omega) (by omega) (by omega) (by omega) (by omega) (by omega) (by omega) (by omega)]
  have hp24 : ∀ r, r < cnt f 24 → pN f r < 24 := fun r hr => by
    have := hI.2.2.2.2.2.2.2.2.2.2 r hr
    exact (t_ofn (x := f (111 + r)) (n := 24) this.1 this.2 (by decide)).2
  have h24 := cnt_le f 24
  refine ⟨fun g hg => ?_, fun g hg => ?_, ?_, ?_, ?_, fun q hq => ?_, fun k2 hk2 => ?_, fun r hr => ?_, fun r t hrt ht => ?_⟩
  · by_cases hg2 : g = hN f k
    · subst hg2
      rw [pour_ca hk h8, pour_te hk h8, pour_sp hk h8, o (48 + hN f k) (by omega) (by omega) (by omega) (by omega) (by omega) (by omega) (by omega) (by omega), i1 _ hg]
      exact a_pr _ _ _ _ _
    · rw [o _ (by omega) (by omega) (by omega) (by omega) (by omega) (by omega) (by omega) (by omega), o (8 + g) (by omega) (by omega) (by omega) (by omega) (by omega) (by omega) (by omega) (by omega), o (48 + g) (by omega) (by omega) (by omega) (by omega) (by omega) (by omega) (by omega) (by omega), o (56 + g) (by omega) (by omega) (by omega) (by omega) (by omega) (by omega) (by omega) (by omega)]
      exact i1 g hg
  · by_cases hg2 : g = hN f k
    · subst hg2
      have q2 := i2 _ hg
      have q6 := hI.2.2.2.2.2.1 _ hg
      have e2 : (f (56 + hN f k) + g_ov f k).toInt = (f (56 + hN f k)).toInt + (g_ov f k).toInt := t_add (by omega) (by omega)
      rw [pour_sh hk h8, pour_sp hk h8, e2]
      split
      · omega
      · rename_i hn
        rw [t_le, t_0] at hn
        rw [t_add] <;> rw [e1] <;> omega
    · rw [o _ (by omega) (by omega) (by omega) (by omega) (by omega) (by omega) (by omega) (by omega), o (56 + g) (by omega) (by omega) (by omega) (by omega) (by omega) (by omega) (by omega) (by omega)]
      exact i2 g hg
  · show g_sm (g_pour f k) 81 3 = g_sm (g_pour f k) 75 3 + g_sm (g_pour f k) 64 8
    rw [sm_congr (f := f) (b := 81) 3 (fun i hi => o _ (by omega) (by omega) (by omega) (by omega) (by omega) (by omega) (by omega) (by omega)),
      sm_put (f := f) (b := 75) (q := k) (d := 0 - g_cm f k) (by rw [pour_fi hk h8]; exact a_sb _ _) 3 hk (fun i hi hn => o _ (by omega) (by omega) (by omega) (by omega) (by omega) (by omega) (by omega) (by omega)),
      sm_put (f := f) (b := 64) (q := hN f k) (d := g_cm f k) (pour_ca hk h8) 8 h8 (fun i hi hn => o _ (by omega) (by omega) (by omega) (by omega) (by omega) (by omega) (by omega) (by omega))]
    have i3 : g_sm f 81 3 = g_sm f 75 3 + g_sm f 64 8 := i3
    rw [i3]
    exact a_ng _ _ _
  · show g_sm (g_pour f k) 40 8 = g_pour f k 137
    have i4 : g_sm f 40 8 = f 137 := i4
    have e2 := pour_sh hk h8
    rw [pour_sl hk h8]
    by_cases hn : g_ov f k ≤ 0
    · rw [if_pos hn] at e2 ⊢
      rw [← i4]
      refine sm_congr 8 (fun i hi => ?_)
      by_cases hi2 : i = hN f k
      · rw [hi2]; exact e2
      · exact o _ (by omega) (by omega) (by omega) (by omega) (by omega) (by omega) (by omega) (by omega)
    · rw [if_neg hn] at e2 ⊢
      rw [sm_put (f := f) (b := 40) (q := hN f k) (d := nI 1) e2 8 h8 (fun i hi hn => o _ (by omega) (by omega) (by omega) (by omega) (by omega) (by omega) (by omega) (by omega)), i4]
  · have i5 : 0 ≤ (f 137).toInt ∧ (f 137).toInt ≤ (f 136).toInt ∧ (f 136).toInt ≤ B := i5
    have e2 : (f 136 + nI 1).toInt = (f 136).toInt + 1 := by rw [t_add] <;> rw [e1] <;> omega
    show 0 ≤ (g_pour f k 137).toInt ∧ (g_pour f k 137).toInt ≤ (g_pour f k 136).toInt ∧ (g_pour f k 136).toInt ≤ ((B + 200 : Nat) : Int)
    rw [pour_sl hk h8, pour_po hk h8, e2]
    split
    · omega
    · have e3 : (f 137 + nI 1).toInt = (f 137).toInt + 1 := by rw [t_add] <;> rw [e1] <;> omega
      rw [e3]
      omega
  · rw [o _ (by omega) (by omega) (by omega) (by omega) (by omega) (by omega) (by omega) (by omega)]
    exact i6 q hq
  · rw [o _ (by omega) (by omega) (by omega) (by omega) (by omega) (by omega) (by omega) (by omega), o (78 + k2) (by omega) (by omega) (by omega) (by omega) (by omega) (by omega) (by omega) (by omega)]
    have q7 := i7 k2 hk2
    refine ⟨q7.1, by have := q7.2.1; omega, fun z => ⟨(q7.2.2 z).1, fun g hg => ?_⟩⟩
    rw [o _ (by omega) (by omega) (by omega) (by omega) (by omega) (by omega) (by omega) (by omega)]
    exact (q7.2.2 z).2 g hg
  · rw [hc] at hr
    have := hp24 r hr
    rw [hp r (by omega), o _ (by omega) (by omega) (by omega) (by omega) (by omega) (by omega) (by omega) (by omega)]
    exact i8 r hr
  · rw [hc] at ht
    rw [hp r (by omega), hp t (by omega)]
    exact i9 r t hrt ht
/-! a hand -/
theorem hand_cn {f : Nat → Int32} {k d : Nat} (hk : k < 3) : g_hand f k d (84 + k) = f (84 + k) + nI 1 := by
  unfold g_hand
  try dsimp only
  rw [pk_un (by omega), pk_us, pk_un (by omega), pk_un (by omega), tl_o (by omega) (by omega)]
theorem hand_new {f : Nat → Int32} {k d : Nat} (hk : k < 3) (h8 : hN f k < 8) (h24 : tN f < 24) (hn : f (87 + 8 * k + hN f k) = -1) : g_hand f k d (111 + tN f) = nI (8 * k + hN f k) := by
  rw [hand_t (by omega) (by omega) (by omega) (by omega)]
  unfold g_tl
  rw [if_pos hn]
  try dsimp only
  rw [pk_un (by omega), pk_us]
theorem hand_c1 {B : Nat} {f : Nat → Int32} {k d : Nat} (h : Inv B f) (hk : k < 3) (hn : f (87 + 8 * k + hN f k) = -1) : cnt (g_hand f k d) 24 = cnt f 24 + 1 := by
  have h8 := h.hN8 hk
  have hwh := h.wh hk
  have hwm : ¬ g_wh f k = -1 := fun z => by rw [z, t_m1] at hwh; omega
  have hto := hand_to (d := d) hk h8
  have hq : ∀ r, r ≠ 8 * k + hN f k → r < 24 → g_hand f k d (87 + r) = f (87 + r) := fun r hr hr24 => hand_o (by omega) (by omega) (by omega) (by omega) (by omega) (by omega)
  have hcc : ∀ n, n ≤ 24 → 8 * k + hN f k < n → cnt (g_hand f k d) n = cnt f n + 1 := by
    intro n
    induction n with
    | zero => intro _ h0; exact absurd h0 (Nat.not_lt_zero _)
    | succ n ih =>
      intro hn24 hqn
      unfold cnt
      by_cases hz : 8 * k + hN f k = n
      · rw [cnt_congr n (fun r hr => by rw [hq r (by omega) (by omega)]), ← hz, ← Nat.add_assoc, hto, if_neg hwm, if_pos hn]
      · rw [ih (by omega) (by omega), hq n (by omega) (by omega)]
        omega
  exact hcc 24 (Nat.le_refl _) (by omega)
theorem hand_c0 {B : Nat} {f : Nat → Int32} {k d : Nat} (h : Inv B f) (hk : k < 3) (hn : ¬ f (87 + 8 * k + hN f k) = -1) : cnt (g_hand f k d) 24 = cnt f 24 := by
  have h8 := h.hN8 hk
  have hwh := h.wh hk
  have hwm : ¬ g_wh f k = -1 := fun z => by rw [z, t_m1] at hwh; omega
  have hto := hand_to (d := d) hk h8
  have hq : ∀ r, r ≠ 8 * k + hN f k → r < 24 → g_hand f k d (87 + r) = f (87 + r) := fun r hr hr24 => hand_o (by omega) (by omega) (by omega) (by omega) (by omega) (by omega)
  refine cnt_congr 24 (fun r hr => ?_)
  by_cases hz : r = 8 * k + hN f k
  · have hne : ¬ f (87 + r) = -1 := by rw [hz, ← Nat.add_assoc]; exact hn
    have hne2 : ¬ g_hand f k d (87 + r) = -1 := by rw [hz, ← Nat.add_assoc, hto]; exact hwm
    exact ⟨fun z => absurd z hne2, fun z => absurd z hne⟩
  · rw [hq r hz hr]
theorem Inv.pN24 {B : Nat} {f : Nat → Int32} (h : Inv B f) {r : Nat} (hr : r < cnt f 24) : f (111 + r) = nI (pN f r) ∧ pN f r < 24 := by
  have := h.2.2.2.2.2.2.2.2.2.2 r hr
  exact t_ofn (x := f (111 + r)) (n := 24) this.1 this.2 (by decide)
theorem hand_js {B : Nat} {f : Nat → Int32} {k d : Nat} (h : Jv B f) (hB : B < 2000000000) (hk : k < 3) : Jv (B + 200) (g_hand f k d) := by
  refine ⟨(hand_inv h.1 hk).mono (by omega), ?_⟩
  obtain ⟨hI, i1, i2, i3, i4, i5, i6, i7, i8, i9⟩ := h
  have h8 := hI.hN8 hk
  have hwh := hI.wh hk
  obtain ⟨ht1, ht2⟩ := hI.tale
  have h24 := cnt_le f 24
  have e1 : (nI 1).toInt = 1 := rfl
  have hwm : ¬ g_wh f k = -1 := fun z => by rw [z, t_m1] at hwh; omega
  have hto : g_hand f k d (87 + (8 * k + hN f k)) = g_wh f k := by
    have := hand_to (d := d) hk h8
    rw [Nat.add_assoc] at this
    exact this
  have o : ∀ j, j ≠ 111 + tN f → j ≠ 135 → j ≠ 87 + 8 * k + hN f k → j ≠ 78 + k → j ≠ 84 + k → j ≠ 72 + k → g_hand f k d j = f j := fun j a b c d e f => hand_o a b c d e f
  have o7 : ∀ j, j < 72 → g_hand f k d j = f j := fun j hj => o j (by omega) (by omega) (by omega) (by omega) (by omega) (by omega)
  have ho : ∀ q, q < 24 → q ≠ 8 * k + hN f k → g_hand f k d (87 + q) = f (87 + q) := fun q h1 h2 => o _ (by omega) (by omega) (by omega) (by omega) (by omega) (by omega)
  have hp : ∀ r, r < cnt f 24 → pN (g_hand f k d) r = pN f r := fun r hr => by unfold pN; rw [o _ (by omega) (by omega) (by omega) (by omega) (by omega) (by omega)]
  have hp24 : ∀ r, r < cnt f 24 → pN f r < 24 := fun r hr => (hI.pN24 hr).2
  have hJ : Js8 (g_hand f k d) ∧ Js9 (g_hand f k d) := by
    by_cases hn : f (87 + (8 * k + hN f k)) = -1
    · have hn2 : f (87 + 8 * k + hN f k) = -1 := by rw [Nat.add_assoc]; exact hn
      have hc : cnt (g_hand f k d) 24 = cnt f 24 + 1 := hand_c1 hI hk hn2
      have hlt : cnt f 24 < 24 := cnt_lt hn 24 (by omega)
      have hpn : pN (g_hand f k d) (cnt f 24) = 8 * k + hN f k := by
        unfold pN
        rw [← ht2, hand_new hk h8 (by omega) hn2]
        exact nI_clamp (by omega)
      have hne : ∀ r, r < cnt f 24 → pN f r ≠ 8 * k + hN f k := fun r hr z => i8 r hr (by rw [z]; exact hn)
      refine ⟨fun r hr => ?_, fun r t hrt ht => ?_⟩
      · rw [hc] at hr
        by_cases hr2 : r = cnt f 24
        · rw [hr2, hpn, hto]; exact hwm
        · rw [hp r (by omega), ho _ (hp24 r (by omega)) (hne r (by omega))]; exact i8 r (by omega)
      · rw [hc] at ht
        rw [hp r (by omega)]
        by_cases ht3 : t = cnt f 24
        · rw [ht3, hpn]; exact hne r (by omega)
        · rw [hp t (by omega)]; exact i9 r t hrt (by omega)
    · have hn2 : ¬ f (87 + 8 * k + hN f k) = -1 := by rw [Nat.add_assoc]; exact hn
      have hc : cnt (g_hand f k d) 24 = cnt f 24 := hand_c0 hI hk hn2
      refine ⟨fun r hr => ?_, fun r t hrt ht => ?_⟩
      · rw [hc] at hr
        rw [hp r hr]
        by_cases hz : pN f r = 8 * k + hN f k
        · rw [hz, hto]; exact hwm
        · rw [ho _ (hp24 r hr) hz]; exact i8 r hr
      · rw [hc] at ht
        rw [hp r (by omega), hp t ht]
        exact i9 r t hrt ht
  refine ⟨fun g hg => ?_, fun g hg => ?_, ?_, ?_, ?_, fun q hq => ?_, fun k2 hk2 => ?_, hJ.1, hJ.2⟩
  · rw [o7 _ (by omega), o7 _ (by omega), o7 _ (by omega), o7 _ (by omega)]
    exact i1 g hg
  · rw [o7 _ (by omega), o7 _ (by omega)]
    exact i2 g hg
  · show g_sm (g_hand f k d) 81 3 = g_sm (g_hand f k d) 75 3 + g_sm (g_hand f k d) 64 8
    rw [sm_congr (f := f) (b := 81) 3 (fun i hi => o _ (by omega) (by omega) (by omega) (by omega) (by omega) (by omega)),
      sm_congr (f := f) (b := 75) 3 (fun i hi => o _ (by omega) (by omega) (by omega) (by omega) (by omega) (by omega)),
      sm_congr (f := f) (b := 64) 8 (fun i hi => o7 _ (by omega))]
    exact i3
  · show g_sm (g_hand f k d) 40 8 = g_hand f k d 137
    rw [sm_congr (f := f) (b := 40) 8 (fun i hi => o7 _ (by omega)), o 137 (by omega) (by omega) (by omega) (by omega) (by omega) (by omega)]
    exact i4
  · show 0 ≤ (g_hand f k d 137).toInt ∧ (g_hand f k d 137).toInt ≤ (g_hand f k d 136).toInt ∧ (g_hand f k d 136).toInt ≤ ((B + 200 : Nat) : Int)
    rw [o 137 (by omega) (by omega) (by omega) (by omega) (by omega) (by omega), o 136 (by omega) (by omega) (by omega) (by omega) (by omega) (by omega)]
    have i5 : 0 ≤ (f 137).toInt ∧ (f 137).toInt ≤ (f 136).toInt ∧ (f 136).toInt ≤ B := i5
    omega
  · by_cases hz : q = 8 * k + hN f k
    · rw [hz, hto]; omega
    · rw [ho q hq hz]; exact i6 q hq
  · have q7 := i7 k2 hk2
    by_cases hz : k2 = k
    · subst hz
      have e2 : (f (84 + k2) + nI 1).toInt = (f (84 + k2)).toInt + 1 := by rw [t_add] <;> rw [e1] <;> omega
      rw [hand_cn hk, e2]
      exact ⟨by omega, by omega, fun z => absurd z (by omega)⟩
    · rw [o (84 + k2) (by omega) (by omega) (by omega) (by omega) (by omega) (by omega), o (78 + k2) (by omega) (by omega) (by omega) (by omega) (by omega) (by omega)]
      refine ⟨q7.1, by omega, fun z => ⟨(q7.2.2 z).1, fun g hg => ?_⟩⟩
      rw [o _ (by omega) (by omega) (by omega) (by omega) (by omega) (by omega)]
      exact (q7.2.2 z).2 g hg
theorem st_js {B : Nat} {f : Nat → Int32} {k : Nat} (h : Jv B f) (hB : B + 200 < 2000000000) (hk : k < 3) : Jv (B + 400) (g_st f k) := by
  unfold g_st
  split
  · exact hand_js (pour_js h (by omega) hk) (by omega) hk
  · exact (hand_js h (by omega) hk).mono (by omega)
theorem rn_js {k : Nat} (hk : k < 3) : ∀ (n : Nat) {B : Nat} {f : Nat → Int32}, Jv B f → B + 400 * n < 2000000000 → Jv (B + 400 * n) (g_rn n f k)
  | 0, _, _, h, _ => h
  | n + 1, B, f, h, hB => by
    have := rn_js hk n (st_js h (by omega) hk) (by omega)
    show Jv (B + 400 * (n + 1)) (g_rn n (g_st f k) k)
    rw [show B + 400 * (n + 1) = B + 400 + 400 * n by omega]
    exact this
/-! sips, brews, another guest, another cup, the start -/
theorem drink_d {f : Nat → Int32} {g : Nat} : g_drink f g (48 + g) = f (48 + g) + g_dr f g := by
  unfold g_drink
  try dsimp only
  rw [pk_us, pk_un (by omega)]
theorem drink_js {B : Nat} {f : Nat → Int32} {g : Nat} (h : Jv B f) (hg : g < 8) : Jv B (g_drink f g) := by
  refine ⟨drink_inv h.1 hg, ?_⟩
  obtain ⟨hI, i1, i2, i3, i4, i5, i6, i7, i8, i9⟩ := h
  have o : ∀ j, j ≠ 8 + g → j ≠ 48 + g → g_drink f g j = f j := fun j a b => drink_o a b
  have hc : cnt (g_drink f g) 24 = cnt f 24 := cnt_congr 24 (fun q hq => by rw [o _ (by omega) (by omega)])
  have hp : ∀ r, pN (g_drink f g) r = pN f r := fun r => by unfold pN; rw [o _ (by omega) (by omega)]
  refine ⟨fun g2 hg2 => ?_, fun g2 hg2 => ?_, ?_, ?_, ?_, fun q hq => ?_, fun k2 hk2 => ?_, fun r hr => ?_, fun r t hrt ht => ?_⟩
  · by_cases hz : g2 = g
    · subst hz
      rw [o (64 + g2) (by omega) (by omega), o (56 + g2) (by omega) (by omega), drink_t, drink_d, i1 g2 hg2]
      exact a_dr _ _ _ _
    · rw [o _ (by omega) (by omega), o (8 + g2) (by omega) (by omega), o (48 + g2) (by omega) (by omega), o (56 + g2) (by omega) (by omega)]
      exact i1 g2 hg2
  · rw [o _ (by omega) (by omega), o (56 + g2) (by omega) (by omega)]
    exact i2 g2 hg2
  · show g_sm (g_drink f g) 81 3 = g_sm (g_drink f g) 75 3 + g_sm (g_drink f g) 64 8
    rw [sm_congr (f := f) (b := 81) 3 (fun i hi => o _ (by omega) (by omega)), sm_congr (f := f) (b := 75) 3 (fun i hi => o _ (by omega) (by omega)), sm_congr (f := f) (b := 64) 8 (fun i hi => o _ (by omega) (by omega))]
    exact i3
  · show g_sm (g_drink f g) 40 8 = g_drink f g 137
    rw [sm_congr (f := f) (b := 40) 8 (fun i hi => o _ (by omega) (by omega)), o 137 (by omega) (by omega)]
    exact i4
  · show 0 ≤ (g_drink f g 137).toInt ∧ (g_drink f g 137).toInt ≤ (g_drink f g 136).toInt ∧ (g_drink f g 136).toInt ≤ B
    rw [o 137 (by omega) (by omega), o 136 (by omega) (by omega)]
    exact i5
  · rw [o _ (by omega) (by omega)]
    exact i6 q hq
  · rw [o _ (by omega) (by omega), o (78 + k2) (by omega) (by omega)]
    exact ⟨(i7 k2 hk2).1, (i7 k2 hk2).2.1, fun z => ⟨((i7 k2 hk2).2.2 z).1, fun g2 hg2 => by rw [o _ (by omega) (by omega)]; exact ((i7 k2 hk2).2.2 z).2 g2 hg2⟩⟩
  · rw [hc] at hr
    rw [hp, o _ (by omega) (by omega)]
    exact i8 r hr
  · rw [hc] at ht
    rw [hp, hp]
    exact i9 r t hrt ht
theorem brew_f {f : Nat → Int32} {k : Nat} {t : Int32} : g_brew f k t (75 + k) = f (75 + k) + t := by
  unfold g_brew
  try dsimp only
  rw [pk_un (by omega), pk_us]
theorem brew_b {f : Nat → Int32} {k : Nat} {t : Int32} : g_brew f k t (81 + k) = f (81 + k) + t := by
  unfold g_brew
  try dsimp only
  rw [pk_us, pk_un (by omega)]
theorem brew_o {f : Nat → Int32} {k j : Nat} {t : Int32} (h1 : j ≠ 75 + k) (h2 : j ≠ 81 + k) : g_brew f k t j = f j := by
  unfold g_brew
  try dsimp only
  rw [pk_un h2, pk_un h1]
theorem brew_js {B : Nat} {f : Nat → Int32} {k : Nat} {t : Int32} (h : Jv B f) (hk : k < 3) (h1 : q_in (nI 1) (nI 200) t = true) (ht : f (75 + k) + t ≤ nI 200) : Jv B (g_brew f k t) := by
  refine ⟨brew_inv2 h.1 hk h1 ht, ?_⟩
  obtain ⟨hI, i1, i2, i3, i4, i5, i6, i7, i8, i9⟩ := h
  have o : ∀ j, j ≠ 75 + k → j ≠ 81 + k → g_brew f k t j = f j := fun j a b => brew_o a b
  have hc : cnt (g_brew f k t) 24 = cnt f 24 := cnt_congr 24 (fun q hq => by rw [o _ (by omega) (by omega)])
  have hp : ∀ r, pN (g_brew f k t) r = pN f r := fun r => by unfold pN; rw [o _ (by omega) (by omega)]
  refine ⟨fun g2 hg2 => ?_, fun g2 hg2 => ?_, ?_, ?_, ?_, fun q hq => ?_, fun k2 hk2 => ?_, fun r hr => ?_, fun r t hrt ht => ?_⟩
  · rw [o _ (by omega) (by omega), o (8 + g2) (by omega) (by omega), o (48 + g2) (by omega) (by omega), o (56 + g2) (by omega) (by omega)]
    exact i1 g2 hg2
  · rw [o _ (by omega) (by omega), o (56 + g2) (by omega) (by omega)]
    exact i2 g2 hg2
  · show g_sm (g_brew f k t) 81 3 = g_sm (g_brew f k t) 75 3 + g_sm (g_brew f k t) 64 8
    rw [sm_put (f := f) (b := 81) (q := k) (d := t) brew_b 3 hk (fun i hi hn => o _ (by omega) (by omega)), sm_put (f := f) (b := 75) (q := k) (d := t) brew_f 3 hk (fun i hi hn => o _ (by omega) (by omega)), sm_congr (f := f) (b := 64) 8 (fun i hi => o _ (by omega) (by omega))]
    have i3 : g_sm f 81 3 = g_sm f 75 3 + g_sm f 64 8 := i3
    rw [i3]
    exact a_br _ _ _
  · show g_sm (g_brew f k t) 40 8 = g_brew f k t 137
    rw [sm_congr (f := f) (b := 40) 8 (fun i hi => o _ (by omega) (by omega)), o 137 (by omega) (by omega)]
    exact i4
  · show 0 ≤ (g_brew f k t 137).toInt ∧ (g_brew f k t 137).toInt ≤ (g_brew f k t 136).toInt ∧ (g_brew f k t 136).toInt ≤ B
    rw [o 137 (by omega) (by omega), o 136 (by omega) (by omega)]
    exact i5
  · rw [o _ (by omega) (by omega)]
    exact i6 q hq
  · rw [o _ (by omega) (by omega), o (78 + k2) (by omega) (by omega)]
    exact ⟨(i7 k2 hk2).1, (i7 k2 hk2).2.1, fun z => ⟨((i7 k2 hk2).2.2 z).1, fun g2 hg2 => by rw [o _ (by omega) (by omega)]; exact ((i7 k2 hk2).2.2 z).2 g2 hg2⟩⟩
  · rw [hc] at hr
    rw [hp, o _ (by omega) (by omega)]
    exact i8 r hr
  · rw [hc] at ht
    rw [hp, hp]
    exact i9 r t hrt ht
theorem like_js {B : Nat} {f : Nat → Int32} {g : Nat} {a b c : Int32} (h : Jv B f) (hg : g < 8) (h1 : q_in (nI 1) (nI 20) a = true) (h2 : q_in (nI 0) (nI 10) b = true) (h3 : q_in (-20) (nI 20) c = true) : Jv B (g_like f g a b c) := by
  refine ⟨like_inv h.1 hg h1 h2 h3, h.2.same (fun g2 hg2 => ?_) (fun j hj => ?_)⟩
  · unfold g_like
    rw [pk_un (by omega), pk_un (by omega), pk_un (by omega)]
  · unfold g_like
    rw [pk_un (by omega), pk_un (by omega), pk_un (by omega)]
theorem cup_js {B : Nat} {f : Nat → Int32} {g : Nat} {a : Int32} (h : Jv B f) (hg : g < 8) (h1 : q_in (nI 10) (nI 40) a = true) (ht : f (8 + g) ≤ a) : Jv B (upd f g a) :=
  ⟨cup_inv h.1 hg h1 ht, h.2.same (fun g2 hg2 => pk_un (by omega)) (fun j hj => pk_un (by omega))⟩
theorem js_f00 : Jv 0 f00 := by
  have c1 : ∀ g : Fin 8, f00 (64 + g.1) = f00 (8 + g.1) + f00 (48 + g.1) + f00 (56 + g.1) := by decide +kernel
  have c2 : ∀ g : Fin 8, 0 ≤ (f00 (40 + g.1)).toInt ∧ (f00 (40 + g.1)).toInt ≤ (f00 (56 + g.1)).toInt := by decide +kernel
  have c3 : g_sm f00 81 3 = g_sm f00 75 3 + g_sm f00 64 8 := by decide +kernel
  have c4 : g_sm f00 40 8 = f00 137 := by decide +kernel
  have c5 : 0 ≤ (f00 137).toInt ∧ (f00 137).toInt ≤ (f00 136).toInt ∧ (f00 136).toInt ≤ ((0 : Nat) : Int) := by decide +kernel
  have c6 : ∀ q : Fin 24, -1 ≤ (f00 (87 + q.1)).toInt ∧ (f00 (87 + q.1)).toInt ≤ 200 := by decide +kernel
  have c7 : ∀ k : Fin 3, 0 ≤ (f00 (84 + k.1)).toInt ∧ (f00 (84 + k.1)).toInt ≤ ((0 : Nat) : Int) ∧ f00 (78 + k.1) = 0 := by decide +kernel
  have c8 : ∀ k : Fin 3, ∀ g : Fin 8, f00 (87 + 8 * k.1 + g.1) = -1 := by decide +kernel
  have cB : cnt f00 24 = 0 := by decide +kernel
  refine ⟨inv_f00, fun g hg => c1 ⟨g, hg⟩, fun g hg => c2 ⟨g, hg⟩, c3, c4, c5, fun q hq => c6 ⟨q, hq⟩, fun k hk => ⟨(c7 ⟨k, hk⟩).1, (c7 ⟨k, hk⟩).2.1, fun _ => ⟨(c7 ⟨k, hk⟩).2.2, fun g hg => c8 ⟨k, hk⟩ ⟨g, hg⟩⟩⟩, fun r hr => ?_, fun r t _ ht => ?_⟩
  · rw [cB] at hr
    exact absurd hr (Nat.not_lt_zero _)
  · rw [cB] at ht
    exact absurd ht (Nat.not_lt_zero _)
