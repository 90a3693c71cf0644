/-! ===== run: the automaton's states when nothing is wrong ===== -/
def p_gd (S : PS) : Prop := S.1 = 0 ∨ (S.1 = 1 ∧ p_let S.2.1 = true ∧ S.2.2.2 = 0) ∨ (S.1 = 2 ∧ S.2.1 = 98 ∧ S.2.2.1 < 3 ∧ S.2.2.2 ≤ 200) ∨ (S.1 = 3 ∧ p_let S.2.1 = true ∧ S.2.1 ≠ 98 ∧ S.2.2.1 < p_many S.2.1)
theorem p_gd_s {c : Nat} {S : PS} (h : p_gd S) (hok : p_ok c S = true) : p_gd (p_nx c S) := by
  obtain ⟨a, b, u, t⟩ := S
  rcases h with h | ⟨h, h2, h3⟩ | ⟨h, h2, h3, h4⟩ | ⟨h, h2, h3, h4⟩
  · have h : a = 0 := h
    subst h
    rw [ok0] at hok
    rw [nx0 hok]
    exact Or.inr (Or.inl ⟨rfl, hok, rfl⟩)
  · have h : a = 1 := h
    have h3 : t = 0 := h3
    subst h h3
    rw [ok1, Bool.and_eq_true, decide_eq_true_eq, decide_eq_true_eq] at hok
    rw [nx1 hok.1 hok.2]
    by_cases hb : b = 98
    · rw [if_pos hb]
      have h5 : c - 48 < 3 := by
        have h6 := hok.2
        rw [hb] at h6
        exact h6
      exact Or.inr (Or.inr (Or.inl ⟨rfl, hb, h5, Nat.zero_le _⟩))
    · rw [if_neg hb]
      exact Or.inr (Or.inr (Or.inr ⟨rfl, h2, hb, hok.2⟩))
  · have h : a = 2 := h
    subst h
    by_cases hc : c = 59
    · subst hc
      by_cases ht : 0 < t
      · rw [nxT_s ht]
        exact Or.inl rfl
      · have ht : t = 0 := by omega
        subst ht
        rw [okT_n] at hok
        cases hok
    · rw [nxT_d hc hok]
      rw [okT_d hc] at hok
      simp only [Bool.and_eq_true, decide_eq_true_eq] at hok
      exact Or.inr (Or.inr (Or.inl ⟨rfl, h2, h3, hok.2⟩))
  · have h : a = 3 := h
    subst h
    rw [ok3, decide_eq_true_eq] at hok
    have e : p_nx c (3, b, u, t) = (0, b, u, t) := if_pos hok
    rw [e]
    exact Or.inl rfl
theorem p_gd_d {S : PS} (h : p_gd S) (hd : p_dn S = true) : p_let S.2.1 = true ∧ S.2.2.1 < p_many S.2.1 ∧ (S.2.1 = 98 → 1 ≤ S.2.2.2 ∧ S.2.2.2 ≤ 200) := by
  obtain ⟨a, b, u, t⟩ := S
  unfold p_dn at hd
  rcases h with h | ⟨h, h2, h3⟩ | ⟨h, h2, h3, h4⟩ | ⟨h, h2, h3, h4⟩
  · have h : a = 0 := h
    subst h
    cases hd
  · have h : a = 1 := h
    subst h
    cases hd
  · have h : a = 2 := h
    have h2 : b = 98 := h2
    subst h h2
    have ht : 0 < t := by
      by_cases ht : 0 < t
      · exact ht
      · have h0 : t = 0 := by omega
        subst h0
        cases hd
    exact ⟨rfl, h3, fun _ => ⟨ht, h4⟩⟩
  · exact ⟨h2, h4, fun z => absurd z h3⟩
theorem p_gd_e {ch : Nat → Nat} {len n i : Nat} {S : PS} (hg : p_gd S) (hok : p_ok (ch i) S = true) (hi : i + (n + 1) = len) (hdn : p_dn (p_fe ch n (i + 1) (p_nx (ch i) S)) = true) (he : p_end ch len i = true) :
    p_let (p_nx (ch i) S).2.1 = true ∧ (p_nx (ch i) S).2.2.1 < p_many (p_nx (ch i) S).2.1 ∧ ((p_nx (ch i) S).2.1 = 98 → 1 ≤ (p_nx (ch i) S).2.2.2 ∧ (p_nx (ch i) S).2.2.2 ≤ 200) := by
  have hg2 := p_gd_s hg hok
  by_cases hc : ch i = 59
  · obtain ⟨a, b, u, t⟩ := S
    rw [hc] at hok ⊢
    rcases hg with h | ⟨h, h2, h3⟩ | ⟨h, h2, h3, h4⟩ | ⟨h, h2, h3, h4⟩
    · have h : a = 0 := h
      subst h
      rw [ok0] at hok
      exact absurd hok (by decide)
    · have h : a = 1 := h
      subst h
      rw [ok1, Bool.and_eq_true, decide_eq_true_eq, decide_eq_true_eq] at hok
      have h6 : (59 : Nat) - 48 < p_many b := hok.2
      unfold p_many at h6
      split at h6 <;> omega
    · have h : a = 2 := h
      have h2 : b = 98 := h2
      subst h h2
      by_cases ht : 0 < t
      · rw [nxT_s ht]
        exact ⟨rfl, h3, fun _ => ⟨ht, h4⟩⟩
      · have ht : t = 0 := by omega
        subst ht
        rw [okT_n] at hok
        cases hok
    · have h : a = 3 := h
      subst h
      have e : p_nx 59 (3, b, u, t) = (0, b, u, t) := rfl
      rw [e]
      exact ⟨h2, h4, fun z => absurd z h3⟩
  · unfold p_end at he
    rw [decide_eq_false hc, Bool.false_or, decide_eq_true_eq] at he
    have h0 : n = 0 := by omega
    subst h0
    exact p_gd_d hg2 hdn
theorem fw_1 {ch : Nat → Nat} {len n i : Nat} {S : PS} (hi : i + (n + 1) = len) (hw : p_fw ch (n + 1) i S = len) (hdn : p_dn (p_fe ch (n + 1) i S) = true) : p_ok (ch i) S = true ∧ p_fw ch n (i + 1) (p_nx (ch i) S) = len ∧ p_dn (p_fe ch n (i + 1) (p_nx (ch i) S)) = true := by
  have hw : (if p_ok (ch i) S then p_fw ch n (i + 1) (p_nx (ch i) S) else i) = len := hw
  have hdn : p_dn (if p_ok (ch i) S then p_fe ch n (i + 1) (p_nx (ch i) S) else S) = true := hdn
  cases h : p_ok (ch i) S with
  | false =>
    rw [h] at hw
    have hw : i = len := hw
    omega
  | true =>
    rw [h] at hw hdn
    exact ⟨rfl, hw, hdn⟩
theorem xr_no {ch : Nat → Nat} {len n i : Nat} {S : PS} {f : Nat → Int32} (he : p_end ch len i = false) : xr ch len (n + 1) i S f = xr ch len n (i + 1) (p_nx (ch i) S) f := by
  show (if p_end ch len i then _ else _) = _
  rw [he]
  rfl
theorem xr_st {ch : Nat → Nat} {len n i : Nat} {S : PS} {f : Nat → Int32} (he : p_end ch len i = true) (ho : e_ok f (p_nx (ch i) S).2.1 (p_nx (ch i) S).2.2.1 (p_nx (ch i) S).2.2.2 = false) : xr ch len (n + 1) i S f = (0, f) := by
  show (if p_end ch len i then (if e_ok f (p_nx (ch i) S).2.1 (p_nx (ch i) S).2.2.1 (p_nx (ch i) S).2.2.2 then _ else _) else _) = _
  rw [he, ho]
  rfl
theorem xr_go {ch : Nat → Nat} {len n i : Nat} {S : PS} {f : Nat → Int32} (he : p_end ch len i = true) (ho : e_ok f (p_nx (ch i) S).2.1 (p_nx (ch i) S).2.2.1 (p_nx (ch i) S).2.2.2 = true) : xr ch len (n + 1) i S f = ((xr ch len n (i + 1) (p_nx (ch i) S) (e_do f (p_nx (ch i) S).2.1 (p_nx (ch i) S).2.2.1 (p_nx (ch i) S).2.2.2)).1 + 1, (xr ch len n (i + 1) (p_nx (ch i) S) (e_do f (p_nx (ch i) S).2.1 (p_nx (ch i) S).2.2.1 (p_nx (ch i) S).2.2.2)).2) := by
  show (if p_end ch len i then (if e_ok f (p_nx (ch i) S).2.1 (p_nx (ch i) S).2.2.1 (p_nx (ch i) S).2.2.2 then _ else _) else _) = _
  rw [he, ho]
  rfl
/-- what is read doesn't rest on the parts that lay there before -/
def p_si (S R : PS) : Prop := S = R ∨ (S.1 = 0 ∧ R.1 = 0) ∨ (S.1 = 1 ∧ R.1 = 1 ∧ S.2.1 = R.2.1 ∧ S.2.2.2 = R.2.2.2)
theorem p_si_ok {c : Nat} {S R : PS} (h : p_si S R) : p_ok c S = p_ok c R ∧ (p_ok c S = true → p_si (p_nx c S) (p_nx c R)) := by
  rcases h with rfl | ⟨h, h2⟩ | ⟨h, h2, h3, h4⟩
  · exact ⟨rfl, fun _ => Or.inl rfl⟩
  · obtain ⟨a, b, u, t⟩ := S
    obtain ⟨a2, b2, u2, t2⟩ := R
    have h : a = 0 := h
    have h2 : a2 = 0 := h2
    subst h h2
    refine ⟨rfl, fun z => ?_⟩
    rw [ok0] at z
    rw [nx0 z, nx0 z]
    exact Or.inr (Or.inr ⟨rfl, rfl, rfl, rfl⟩)
  · obtain ⟨a, b, u, t⟩ := S
    obtain ⟨a2, b2, u2, t2⟩ := R
    have h : a = 1 := h
    have h2 : a2 = 1 := h2
    have h3 : b = b2 := h3
    have h4 : t = t2 := h4
    subst h h2 h3 h4
    refine ⟨rfl, fun z => ?_⟩
    rw [ok1, Bool.and_eq_true, decide_eq_true_eq, decide_eq_true_eq] at z
    rw [nx1 z.1 z.2, nx1 z.1 z.2]
    exact Or.inl rfl
theorem p_si_fw {ch : Nat → Nat} : ∀ (n i : Nat) (S R : PS), p_si S R → p_fw ch n i S = p_fw ch n i R ∧ p_si (p_fe ch n i S) (p_fe ch n i R)
  | 0, _, _, _, h => ⟨rfl, h⟩
  | n + 1, i, S, R, h => by
    obtain ⟨h1, h2⟩ := p_si_ok (c := ch i) h
    show (if p_ok (ch i) S then p_fw ch n (i + 1) (p_nx (ch i) S) else i) = (if p_ok (ch i) R then p_fw ch n (i + 1) (p_nx (ch i) R) else i) ∧ p_si (if p_ok (ch i) S then p_fe ch n (i + 1) (p_nx (ch i) S) else S) (if p_ok (ch i) R then p_fe ch n (i + 1) (p_nx (ch i) R) else R)
    rw [← h1]
    cases ho : p_ok (ch i) S with
    | false => exact ⟨rfl, h⟩
    | true => exact p_si_fw n (i + 1) _ _ (h2 ho)
theorem p_si_cpl {ch : Nat → Nat} {len : Nat} {S R : PS} : p_cpl ch len S = p_cpl ch len R := by
  obtain ⟨h1, h2⟩ := p_si_fw (ch := ch) len 0 (0, S.2) (0, R.2) (Or.inr (Or.inl ⟨rfl, rfl⟩))
  unfold p_cpl
  rw [h1]
  rcases h2 with h2 | ⟨h2, h3⟩ | ⟨h2, h3, h4, h5⟩
  · rw [h2]
  · rw [h2, h3]; rfl
  · rw [h2, h3]; rfl
theorem cpl_s {ch : Nat → Nat} {len : Nat} {S R : PS} (h : p_cpl ch len S = true) : p_fw ch len 0 (0, R.2) = len ∧ p_dn (p_fe ch len 0 (0, R.2)) = true := by
  rw [p_si_cpl (S := S) (R := R)] at h
  unfold p_cpl at h
  rw [Bool.and_eq_true, decide_eq_true_eq] at h
  have h2 := p_fwle ch len 0 (0, R.2)
  exact ⟨by omega, h.2⟩
