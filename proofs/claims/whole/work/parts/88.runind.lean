/-! ===== run's answer doesn't rest on what the automaton held before; what holds of the row behind it ===== -/
theorem xr_end {ch : Nat → Nat} {len n i : Nat} {S : PS} {f : Nat → Int32} : xr ch len (n + 1) i S f = (if p_end ch len i then
      (if e_ok f (p_nx (ch i) S).2.1 (p_nx (ch i) S).2.2.1 (p_nx (ch i) S).2.2.2 then
        ((xr ch len n (i + 1) (p_nx (ch i) S) (e_do f (p_nx (ch i) S).2.1 (p_nx (ch i) S).2.2.1 (p_nx (ch i) S).2.2.2)).1 + 1, (xr ch len n (i + 1) (p_nx (ch i) S) (e_do f (p_nx (ch i) S).2.1 (p_nx (ch i) S).2.2.1 (p_nx (ch i) S).2.2.2)).2)
      else (0, f))
    else xr ch len n (i + 1) (p_nx (ch i) S) f) := rfl
theorem p_si_1 {c : Nat} {S R : PS} (h1 : S.1 = 1) (h2 : R.1 = 1) (h3 : S.2.1 = R.2.1) (h4 : S.2.2.2 = R.2.2.2) (hok : p_ok c S = true) : p_nx c S = p_nx c R := by
  obtain ⟨a, b, u, t⟩ := S
  obtain ⟨a2, b2, u2, t2⟩ := R
  have h1 : a = 1 := h1
  have h2 : a2 = 1 := h2
  have h3 : b = b2 := h3
  have h4 : t = t2 := h4
  subst h1 h2 h3 h4
  rw [ok1, Bool.and_eq_true, decide_eq_true_eq, decide_eq_true_eq] at hok
  rw [nx1 hok.1 hok.2, nx1 hok.1 hok.2]
theorem xr_si {ch : Nat → Nat} {len : Nat} : ∀ (n i : Nat) (S R : PS) (f : Nat → Int32), i + n = len → p_si S R → p_fw ch n i S = len → p_dn (p_fe ch n i S) = true → xr ch len n i S f = xr ch len n i R f
  | 0, _, _, _, _, _, _, _, _ => rfl
  | n + 1, i, S, R, f, hi, h, hw, hdn => by
    obtain ⟨hok, hw2, hdn2⟩ := fw_1 hi hw hdn
    have hs := p_si_ok (c := ch i) h
    rcases h with rfl | ⟨h, h2⟩ | ⟨h, h2, h3, h4⟩
    · rfl
    · have hend : p_end ch len i = false := by
        obtain ⟨a, b, u, t⟩ := S
        have h : a = 0 := h
        subst h
        rw [ok0] at hok
        rw [nx0 hok] at hdn2
        unfold p_end
        by_cases hc : ch i = 59
        · rw [hc] at hok
          exact absurd hok (by decide)
        · by_cases hl : i + 1 = len
          · have h0 : n = 0 := by omega
            subst h0
            cases hdn2
          · rw [decide_eq_false hc, decide_eq_false hl]
            rfl
      rw [xr_no hend, xr_no hend]
      exact xr_si n (i + 1) _ _ f (by omega) (hs.2 hok) hw2 hdn2
    · have e := p_si_1 h h2 h3 h4 hok
      rw [xr_end, xr_end, e]
theorem xr_ind {ch : Nat → Nat} {len : Nat} {S R R' : PS} {f : Nat → Int32} (h : p_cpl ch len S = true) : xr ch len len 0 (0, R.2) f = xr ch len len 0 (0, R'.2) f := by
  have h1 := cpl_s (R := R) h
  exact xr_si len 0 _ _ f (by omega) (Or.inr (Or.inl ⟨rfl, rfl⟩)) h1.1 h1.2
theorem xr_iv {ch : Nat → Nat} {len B : Nat} (hB : B + 200000 < 2000000000) (hlen : len ≤ 60) : ∀ (n i : Nat) (S : PS) (f : Nat → Int32), i + n = len → p_gd S → p_fw ch n i S = len → p_dn (p_fe ch n i S) = true → Inv (B + 1600 * i) f → Inv (B + 96000) (xr ch len n i S f).2
  | 0, i, _, _, hi, _, _, _, hI => hI.mono (by omega)
  | n + 1, i, S, f, hi, hg, hw, hdn, hI => by
    obtain ⟨hok, hw2, hdn2⟩ := fw_1 hi hw hdn
    have hg2 := p_gd_s hg hok
    cases hend : p_end ch len i with
    | false =>
      rw [xr_no hend]
      exact xr_iv hB hlen n (i + 1) _ f (by omega) hg2 hw2 hdn2 (hI.mono (by omega))
    | true =>
      have hge := p_gd_e hg hok hi hdn2 hend
      cases heo : e_ok f (p_nx (ch i) S).2.1 (p_nx (ch i) S).2.2.1 (p_nx (ch i) S).2.2.2 with
      | false =>
        rw [xr_st hend heo]
        exact hI.mono (by omega)
      | true =>
        rw [xr_go hend heo]
        exact xr_iv hB hlen n (i + 1) _ _ (by omega) hg2 hw2 hdn2 ((e_inv hI (by omega) hge.1 hge.2.1 hge.2.2 heo).mono (by omega))
theorem xr_inv {ch : Nat → Nat} {len B : Nat} {S R : PS} {f : Nat → Int32} (hI : Inv B f) (hB : B + 200000 < 2000000000) (hlen : len ≤ 60) (h : p_cpl ch len S = true) : Inv (B + 100000) (xr ch len len 0 (0, R.2) f).2 := by
  have h1 := cpl_s (R := R) h
  exact (xr_iv hB hlen len 0 _ f (by omega) (Or.inl rfl) h1.1 h1.2 hI).mono (by omega)
theorem fw_ind {ch : Nat → Nat} {len : Nat} {R R' : PS} : p_fw ch len 0 (0, R.2) = p_fw ch len 0 (0, R'.2) := (p_si_fw len 0 _ _ (Or.inr (Or.inl ⟨rfl, rfl⟩))).1
