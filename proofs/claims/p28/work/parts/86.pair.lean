/-! ===== the pair of class and reference: what holds of both between two calls ===== -/
def Rl (B ol sn hs : Nat) (T S : Nat → Int32) (G : Nat → Nat → Int32) (len : Nat) (ch : Nat → Nat) (fv fn fx : Nat → Int32) : Prop :=
  (ol < 6 ∧ sn ≤ 6 ∧ hs ≤ 1 ∧ len ≤ 60) ∧ (Inv B T ∧ Inv B S ∧ ∀ k, k < 6 → Inv B (G k)) ∧ (∀ j, j < len → ch j < 128) ∧ (∀ i, i < sn → ∀ j, j < 138 → fv (138 * i + j) = rr (G ((ol + i) % 6)) j) ∧ (hs = 1 → ∀ j, j < 138 → fn j = rr S j) ∧ (∀ j, j < len → fx j = nI (ch j))
section RlS
variable {B ol sn hs : Nat} {T S T' : Nat → Int32} {G : Nat → Nat → Int32} {len : Nat} {ch : Nat → Nat} {fv fn fx : Nat → Int32}
theorem Rl.mono (h : Rl B ol sn hs T S G len ch fv fn fx) : Rl (B + 100000) ol sn hs T S G len ch fv fn fx := by
  obtain ⟨h1, ⟨h2, h3, h4⟩, h5⟩ := h
  exact ⟨h1, ⟨h2.mono (by omega), h3.mono (by omega), fun k hk => (h4 k hk).mono (by omega)⟩, h5⟩
theorem Rl.save (h : Rl B ol sn hs T S G len ch fv fn fx) (hI : Inv (B + 100000) T') : Rl (B + 100000) (so ol sn) (svn sn) hs T' S (updG G (sr ol sn) T) len ch (svf sn fv (rr T)) fn fx := by
  obtain ⟨⟨h1, h2, h3, h4⟩, ⟨h5, h6, h7⟩, h8, h9, h10, h11⟩ := h
  refine ⟨⟨so_lt h1, svn_le h2, h3, h4⟩, ⟨hI, h6.mono (by omega), fun k hk => ?_⟩, h8, ?_, h10, h11⟩
  · unfold updG
    split
    · exact h5.mono (by omega)
    · exact (h7 k hk).mono (by omega)
  · intro i hi j hj
    by_cases hs6 : sn = 6
    · subst hs6
      have hi6 : i < 6 := hi
      rw [so_6, sr_6]
      show cp 690 138 (rr T) (sh 690 fv) (138 * i + j) = _
      by_cases hi5 : i = 5
      · subst hi5
        rw [show 138 * 5 + j = 690 + j by omega, cp_in hj]
        unfold updG
        rw [if_pos (by omega)]
      · rw [cp_out (by omega)]
        unfold sh updG
        rw [if_pos (by omega), if_neg (by omega), show 138 * i + j + 138 = 138 * (i + 1) + j by omega, h9 (i + 1) (by omega) j hj, show (ol + (i + 1)) % 6 = ((1 + ol) % 6 + i) % 6 by omega]
    · have hsn : sn < 6 := by omega
      rw [so_n hsn, sr_n hsn]
      have hi2 : i < sn + 1 := by
        have e : svn sn = sn + 1 := if_neg hs6
        rw [e] at hi
        exact hi
      have e2 : svf sn fv (rr T) = cp (138 * sn) 138 (rr T) fv := if_neg hs6
      rw [e2]
      unfold updG
      by_cases hin : i = sn
      · subst hin
        rw [cp_in hj, if_pos rfl]
      · rw [cp_out (by omega), if_neg (by omega)]
        exact h9 i (by omega) j hj
theorem Rl.keep (h : Rl B ol sn hs T S G len ch fv fn fx) : Rl (B + 100000) ol sn 1 T T G len ch fv (rr T) fx := by
  obtain ⟨⟨h1, h2, h3, h4⟩, ⟨h5, h6, h7⟩, h8, h9, h10, h11⟩ := h
  exact ⟨⟨h1, h2, Nat.le_refl _, h4⟩, ⟨h5.mono (by omega), h5.mono (by omega), fun k hk => (h7 k hk).mono (by omega)⟩, h8, h9, fun _ _ _ => rfl, h11⟩
end RlS
theorem q_bf {b : Bool} (h : ¬ b = true) : b = false := by cases b; rfl; exact absurd rfl h
theorem Inv.up {B : Nat} {f : Nat → Int32} {C : Nat} (h : Inv C f) (hC : C ≤ B + 100000) : Inv (B + 100000) f := h.mono hC
theorem q_in_i {lo hi x : Int32} (h : q_in lo hi x = true) : lo.toInt ≤ x.toInt ∧ x.toInt ≤ hi.toInt := by
  unfold q_in at h
  rw [Bool.and_eq_true, decide_eq_true_eq, decide_eq_true_eq] at h
  exact ⟨t_le.mp h.1, t_le.mp h.2⟩
/-- like's and cup's rows -/
theorem like_inv {B : Nat} {f : Nat → Int32} {g : Nat} {a b c : Int32} (h : Inv B f) (hg : g < 8) (h1 : q_in (nI 1) (nI 20) a = true) (h2 : q_in (nI 0) (nI 10) b = true) (h3 : q_in (-20) (nI 20) c = true) : Inv B (g_like f g a b c) := by
  have e1 := q_in_i h1
  have e2 := q_in_i h2
  have e3 := q_in_i h3
  have v1 : (nI 1).toInt = 1 := rfl
  have v20 : (nI 20).toInt = 20 := rfl
  have v0 : (nI 0).toInt = 0 := rfl
  have v10 : (nI 10).toInt = 10 := rfl
  have vm : (-20 : Int32).toInt = -20 := rfl
  unfold g_like
  refine Inv.put (Inv.put (Inv.put h ?_) ?_) ?_
  · exact Or.inr (Or.inr (Or.inl ⟨by omega, by omega, by omega, by omega⟩))
  · exact Or.inr (Or.inr (Or.inr (Or.inl ⟨by omega, by omega, by omega, by omega⟩)))
  · exact Or.inr (Or.inr (Or.inr (Or.inr (Or.inl ⟨by omega, by omega, by omega, by omega⟩))))
theorem cup_inv {B : Nat} {f : Nat → Int32} {g : Nat} {a : Int32} (h : Inv B f) (hg : g < 8) (h1 : q_in (nI 10) (nI 40) a = true) (ht : f (8 + g) ≤ a) : Inv B (upd f g a) := by
  have e1 := q_in_i h1
  have v10 : (nI 10).toInt = 10 := rfl
  have v40 : (nI 40).toInt = 40 := rfl
  have e2 := t_le.mp ht
  exact Inv.put h (Or.inl ⟨hg, by omega, by omega, e2⟩)
theorem brew_inv2 {B : Nat} {f : Nat → Int32} {k : Nat} {t : Int32} (h : Inv B f) (hk : k < 3) (h1 : q_in (nI 1) (nI 200) t = true) (ht : f (75 + k) + t ≤ nI 200) : Inv B (g_brew f k t) := by
  have e1 := q_in_i h1
  have v1 : (nI 1).toInt = 1 := rfl
  have v200 : (nI 200).toInt = 200 := rfl
  exact brew_inv h hk (by omega) (by omega) (Int32.not_lt.mpr ht)
