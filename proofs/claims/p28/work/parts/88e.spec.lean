theorem ch_0 {B : Nat} {T : Nat → Int32} (hJ : Jv B T) (hB : B < 1000000000) (a b : Int32) : ∃ (k : Nat) (T' : Nat → Int32) (x : Int32), k ≤ 3 ∧ Jv (B + 3200) T' ∧ (∀ (l : Launch) (hl9 : l.stackTraces = false) (D : va_G) (st : Nat → Nat) (z : Ad) (oa : Nat) (hoa : ¬ AX z oa) (hDX : va_D (fun _ => True) (wX z 0 0 0 f00 f00 f00 (fun _ => f00) 0 (0, 0, 0, 0) (fun _ => 0))) (g : Int32) (sn : Nat) (hsn : sn ≤ 6), k_H l yL_changes wsL_changes { frames := 8, cells := 1, slots := 6, locals := 139 } [.ref z.o, .int (nI 0), .int a, .int b, .ref oa] st D z oa (OS z D sn T) g (nI k) (CE k z D sn T T') (OE k x)) := by
  have hI := hJ.1
  by_cases h0 : q_in (nI 0) (nI 2) a = true
  · obtain ⟨n, hn, rfl⟩ := q_in_n (by decide) h0
    by_cases h1 : q_in (nI 1) (nI 200) b = true
    · by_cases h2 : T (75 + n) + b ≤ nI 200
      · exact ⟨0, g_brew T n b, g_brew T n b (75 + n), by decide, (brew_js hJ (by omega) h1 h2).mono (by omega), fun l hl9 D st z oa hoa hDX g sn hsn => K_brew_ok l hl9 D st z oa hoa hDX g sn hsn T B hI n (by omega) b h1 h2⟩
      · exact ⟨3, T, 0, by decide, hJ.mono (by omega), fun l hl9 D st z oa hoa hDX g sn hsn => K_brew_3 l hl9 D st z oa hoa hDX g sn hsn T B hI n (by omega) b h1 h2⟩
    · exact ⟨2, T, 0, by decide, hJ.mono (by omega), fun l hl9 D st z oa hoa hDX g sn hsn => K_brew_2 l hl9 D st z oa hoa hDX g sn hsn T B hI n (by omega) b (q_bf h1)⟩
  · exact ⟨1, T, 0, by decide, hJ.mono (by omega), fun l hl9 D st z oa hoa hDX g sn hsn => K_brew_1 l hl9 D st z oa hoa hDX g sn hsn T B hI a b (q_bf h0)⟩
theorem ch_1 {B : Nat} {T : Nat → Int32} (hJ : Jv B T) (hB : B < 1000000000) (a b : Int32) : ∃ (k : Nat) (T' : Nat → Int32) (x : Int32), k ≤ 3 ∧ Jv (B + 3200) T' ∧ (∀ (l : Launch) (hl9 : l.stackTraces = false) (D : va_G) (st : Nat → Nat) (z : Ad) (oa : Nat) (hoa : ¬ AX z oa) (hDX : va_D (fun _ => True) (wX z 0 0 0 f00 f00 f00 (fun _ => f00) 0 (0, 0, 0, 0) (fun _ => 0))) (g : Int32) (sn : Nat) (hsn : sn ≤ 6), k_H l yL_changes wsL_changes { frames := 8, cells := 1, slots := 6, locals := 139 } [.ref z.o, .int (nI 1), .int a, .int b, .ref oa] st D z oa (OS z D sn T) g (nI k) (CE k z D sn T T') (OE k x)) := by
  have hI := hJ.1
  by_cases h0 : q_in (nI 0) (nI 2) a = true
  · obtain ⟨n, hn, rfl⟩ := q_in_n (by decide) h0
    by_cases h1 : g_wy T n = 0
    · exact ⟨0, g_pour T n, g_ov T n, by decide, (pour_js hJ (by omega) (by omega)).mono (by omega), fun l hl9 D st z oa hoa hDX g sn hsn => K_pour_ok l hl9 D st z oa hoa hDX g sn hsn T B hI n (by omega) b h1⟩
    · exact ⟨3, T, 0, by decide, hJ.mono (by omega), fun l hl9 D st z oa hoa hDX g sn hsn => K_pour_3 l hl9 D st z oa hoa hDX g sn hsn T B hI n (by omega) b h1⟩
  · exact ⟨1, T, 0, by decide, hJ.mono (by omega), fun l hl9 D st z oa hoa hDX g sn hsn => K_pour_1 l hl9 D st z oa hoa hDX g sn hsn T B hI a b (q_bf h0)⟩
theorem ch_2 {B : Nat} {T : Nat → Int32} (hJ : Jv B T) (hB : B < 1000000000) (a b : Int32) : ∃ (k : Nat) (T' : Nat → Int32) (x : Int32), k ≤ 3 ∧ Jv (B + 3200) T' ∧ (∀ (l : Launch) (hl9 : l.stackTraces = false) (D : va_G) (st : Nat → Nat) (z : Ad) (oa : Nat) (hoa : ¬ AX z oa) (hDX : va_D (fun _ => True) (wX z 0 0 0 f00 f00 f00 (fun _ => f00) 0 (0, 0, 0, 0) (fun _ => 0))) (g : Int32) (sn : Nat) (hsn : sn ≤ 6), k_H l yL_changes wsL_changes { frames := 8, cells := 1, slots := 6, locals := 139 } [.ref z.o, .int (nI 2), .int a, .int b, .ref oa] st D z oa (OS z D sn T) g (nI k) (CE k z D sn T T') (OE k x)) := by
  have hI := hJ.1
  by_cases h0 : q_in (nI 0) (nI 2) a = true
  · obtain ⟨n, hn, rfl⟩ := q_in_n (by decide) h0
    by_cases h1 : q_in (nI 0) (nI 1) b = true
    · obtain ⟨v, hv, rfl⟩ := q_in_n (by decide) h1
      rcases (show v = 1 ∨ v = 0 by omega) with rfl | rfl
      · exact ⟨0, g_hand T n 1, nI ((hN T n + 1) % 8), by decide, (hand_js hJ (by omega) (by omega)).mono (by omega), fun l hl9 D st z oa hoa hDX g sn hsn => K_hand_ok1 l hl9 D st z oa hoa hDX g sn hsn T B hI n (by omega)⟩
      · exact ⟨0, g_hand T n 7, nI ((hN T n + 7) % 8), by decide, (hand_js hJ (by omega) (by omega)).mono (by omega), fun l hl9 D st z oa hoa hDX g sn hsn => K_hand_ok0 l hl9 D st z oa hoa hDX g sn hsn T B hI n (by omega)⟩
    · exact ⟨2, T, 0, by decide, hJ.mono (by omega), fun l hl9 D st z oa hoa hDX g sn hsn => K_hand_2 l hl9 D st z oa hoa hDX g sn hsn T B hI n (by omega) b (q_bf h1)⟩
  · exact ⟨1, T, 0, by decide, hJ.mono (by omega), fun l hl9 D st z oa hoa hDX g sn hsn => K_hand_1 l hl9 D st z oa hoa hDX g sn hsn T B hI a b (q_bf h0)⟩
theorem ch_3 {B : Nat} {T : Nat → Int32} (hJ : Jv B T) (hB : B < 1000000000) (a b : Int32) : ∃ (k : Nat) (T' : Nat → Int32) (x : Int32), k ≤ 3 ∧ Jv (B + 3200) T' ∧ (∀ (l : Launch) (hl9 : l.stackTraces = false) (D : va_G) (st : Nat → Nat) (z : Ad) (oa : Nat) (hoa : ¬ AX z oa) (hDX : va_D (fun _ => True) (wX z 0 0 0 f00 f00 f00 (fun _ => f00) 0 (0, 0, 0, 0) (fun _ => 0))) (g : Int32) (sn : Nat) (hsn : sn ≤ 6), k_H l yL_changes wsL_changes { frames := 8, cells := 1, slots := 6, locals := 139 } [.ref z.o, .int (nI 3), .int a, .int b, .ref oa] st D z oa (OS z D sn T) g (nI k) (CE k z D sn T T') (OE k x)) := by
  have hI := hJ.1
  by_cases h0 : q_in (nI 0) (nI 2) a = true
  · obtain ⟨n, hn, rfl⟩ := q_in_n (by decide) h0
    exact ⟨0, g_rn 8 T n, nI (g_rc 8 T n), by decide, rn_js (by omega) 8 hJ (by omega), fun l hl9 D st z oa hoa hDX g sn hsn => K_round_ok l hl9 D st z oa hoa hDX g sn hsn T B hI n (by omega) b (by omega)⟩
  · exact ⟨1, T, 0, by decide, hJ.mono (by omega), fun l hl9 D st z oa hoa hDX g sn hsn => K_round_1 l hl9 D st z oa hoa hDX g sn hsn T B hI a b (q_bf h0)⟩
theorem ch_4 {B : Nat} {T : Nat → Int32} (hJ : Jv B T) (hB : B < 1000000000) (a b : Int32) : ∃ (k : Nat) (T' : Nat → Int32) (x : Int32), k ≤ 3 ∧ Jv (B + 3200) T' ∧ (∀ (l : Launch) (hl9 : l.stackTraces = false) (D : va_G) (st : Nat → Nat) (z : Ad) (oa : Nat) (hoa : ¬ AX z oa) (hDX : va_D (fun _ => True) (wX z 0 0 0 f00 f00 f00 (fun _ => f00) 0 (0, 0, 0, 0) (fun _ => 0))) (g : Int32) (sn : Nat) (hsn : sn ≤ 6), k_H l yL_changes wsL_changes { frames := 8, cells := 1, slots := 6, locals := 139 } [.ref z.o, .int (nI 4), .int a, .int b, .ref oa] st D z oa (OS z D sn T) g (nI k) (CE k z D sn T T') (OE k x)) := by
  have hI := hJ.1
  by_cases h0 : q_in (nI 0) (nI 7) a = true
  · obtain ⟨n, hn, rfl⟩ := q_in_n (by decide) h0
    exact ⟨0, g_drink T n, g_dr T n, by decide, (drink_js hJ (by omega)).mono (by omega), fun l hl9 D st z oa hoa hDX g sn hsn => K_sip_ok l hl9 D st z oa hoa hDX g sn hsn T B hI n (by omega) b⟩
  · exact ⟨1, T, 0, by decide, hJ.mono (by omega), fun l hl9 D st z oa hoa hDX g sn hsn => K_sip_1 l hl9 D st z oa hoa hDX g sn hsn T B hI a b (q_bf h0)⟩
theorem ch_5 {B : Nat} {T : Nat → Int32} (hJ : Jv B T) (hB : B < 1000000000) (a b : Int32) : ∃ (k : Nat) (T' : Nat → Int32) (x : Int32), k ≤ 3 ∧ Jv (B + 3200) T' ∧ (∀ (l : Launch) (hl9 : l.stackTraces = false) (D : va_G) (st : Nat → Nat) (z : Ad) (oa : Nat) (hoa : ¬ AX z oa) (hDX : va_D (fun _ => True) (wX z 0 0 0 f00 f00 f00 (fun _ => f00) 0 (0, 0, 0, 0) (fun _ => 0))) (g : Int32) (sn : Nat) (hsn : sn ≤ 6), k_H l yL_changes wsL_changes { frames := 8, cells := 1, slots := 6, locals := 139 } [.ref z.o, .int (nI 5), .int a, .int b, .ref oa] st D z oa (OS z D sn T) g (nI k) (CE k z D sn T T') (OE k x)) := by
  have hI := hJ.1
  by_cases h0 : q_in (nI 0) (nI 7) a = true
  · obtain ⟨n, hn, rfl⟩ := q_in_n (by decide) h0
    by_cases h1 : q_in (nI 10) (nI 40) b = true
    · by_cases h2 : T (8 + n) ≤ b
      · exact ⟨0, upd T n b, T n, by decide, (cup_js hJ (by omega) h1 h2).mono (by omega), fun l hl9 D st z oa hoa hDX g sn hsn => K_cup_ok l hl9 D st z oa hoa hDX g sn hsn T B hI n (by omega) b h1 h2⟩
      · exact ⟨3, T, 0, by decide, hJ.mono (by omega), fun l hl9 D st z oa hoa hDX g sn hsn => K_cup_3 l hl9 D st z oa hoa hDX g sn hsn T B hI n (by omega) b h1 h2⟩
    · exact ⟨2, T, 0, by decide, hJ.mono (by omega), fun l hl9 D st z oa hoa hDX g sn hsn => K_cup_2 l hl9 D st z oa hoa hDX g sn hsn T B hI n (by omega) b (q_bf h1)⟩
  · exact ⟨1, T, 0, by decide, hJ.mono (by omega), fun l hl9 D st z oa hoa hDX g sn hsn => K_cup_1 l hl9 D st z oa hoa hDX g sn hsn T B hI a b (q_bf h0)⟩
theorem lk_0 {B : Nat} {T : Nat → Int32} (hJ : Jv B T) (a xt xr xl : Int32) : ∃ (k : Nat) (T' : Nat → Int32) (x : Int32), k ≤ 3 ∧ Jv (B + 3200) T' ∧ (∀ (l : Launch) (hl9 : l.stackTraces = false) (D : va_G) (st : Nat → Nat) (z : Ad) (oa : Nat) (hoa : ¬ AX z oa) (hDX : va_D (fun _ => True) (wX z 0 0 0 f00 f00 f00 (fun _ => f00) 0 (0, 0, 0, 0) (fun _ => 0))) (g : Int32) (sn : Nat) (hsn : sn ≤ 6), k_H l yL_likes wsL_likes { frames := 8, cells := 1, slots := 6, locals := 129 } [.ref z.o, .int a, .int xt, .int xr, .int xl, .ref oa] st D z oa (OS z D sn T) g (nI k) (CE k z D sn T T') (OE k x)) := by
  have hI := hJ.1
  by_cases h0 : q_in (nI 0) (nI 7) a = true
  · obtain ⟨n, hn, rfl⟩ := q_in_n (by decide) h0
    by_cases h1 : q_in (nI 1) (nI 20) xt = true
    · by_cases h2 : q_in (nI 0) (nI 10) xr = true
      · by_cases h3 : q_in (-20) (nI 20) xl = true
        · exact ⟨0, g_like T n xt xr xl, T (16 + n), by decide, (like_js hJ (by omega) h1 h2 h3).mono (by omega), fun l hl9 D st z oa hoa hDX g sn hsn => K_like_ok l hl9 D st z oa hoa hDX g sn hsn T B hI n (by omega) xt xr xl h1 h2 h3⟩
        · exact ⟨2, T, 0, by decide, hJ.mono (by omega), fun l hl9 D st z oa hoa hDX g sn hsn => K_like_2c l hl9 D st z oa hoa hDX g sn hsn T B hI n (by omega) xt xr xl h1 h2 (q_bf h3)⟩
      · exact ⟨2, T, 0, by decide, hJ.mono (by omega), fun l hl9 D st z oa hoa hDX g sn hsn => K_like_2b l hl9 D st z oa hoa hDX g sn hsn T B hI n (by omega) xt xr xl h1 (q_bf h2)⟩
    · exact ⟨2, T, 0, by decide, hJ.mono (by omega), fun l hl9 D st z oa hoa hDX g sn hsn => K_like_2a l hl9 D st z oa hoa hDX g sn hsn T B hI n (by omega) xt xr xl (q_bf h1)⟩
  · exact ⟨1, T, 0, by decide, hJ.mono (by omega), fun l hl9 D st z oa hoa hDX g sn hsn => K_like_1 l hl9 D st z oa hoa hDX g sn hsn T B hI a xt xr xl (q_bf h0)⟩
