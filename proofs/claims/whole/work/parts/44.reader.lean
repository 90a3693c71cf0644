/-! ===== the reference's reader is the class's automaton ===== -/
def p_dn (S : PS) : Bool := decide (S.1 = 3) || (decide (S.1 = 2) && decide (0 < S.2.2.2))
def p_fo (ch : Nat → Nat) : Nat → Nat → PS → PS
  | 0, _, S => S
  | n + 1, i, S => p_fo ch n (i + 1) (p_nx (ch i) S)
theorem fw_s {ch : Nat → Nat} {len i : Nat} {S : PS} (h : i < len) (hok : p_ok (ch i) S = true) : p_fw ch (len - i) i S = p_fw ch (len - (i + 1)) (i + 1) (p_nx (ch i) S) ∧ p_fe ch (len - i) i S = p_fe ch (len - (i + 1)) (i + 1) (p_nx (ch i) S) := by
  obtain ⟨n, hn⟩ : ∃ n, len - i = n + 1 := ⟨len - i - 1, by omega⟩
  rw [hn, show len - (i + 1) = n by omega]
  constructor
  · show (if p_ok (ch i) S then _ else _) = _
    rw [if_pos hok]
  · show (if p_ok (ch i) S then _ else _) = _
    rw [if_pos hok]
theorem fw_e {ch : Nat → Nat} {len i : Nat} {S : PS} (h : i < len) (hok : p_ok (ch i) S = false) : p_fw ch (len - i) i S = i ∧ p_fe ch (len - i) i S = S := by
  obtain ⟨n, hn⟩ : ∃ n, len - i = n + 1 := ⟨len - i - 1, by omega⟩
  rw [hn]
  constructor
  · show (if p_ok (ch i) S then _ else _) = _
    rw [hok]; rfl
  · show (if p_ok (ch i) S then _ else _) = _
    rw [hok]; rfl
theorem fw_l {ch : Nat → Nat} {len i : Nat} {S : PS} (h : i = len) : p_fw ch (len - i) i S = i ∧ p_fe ch (len - i) i S = S := by
  subst h
  rw [Nat.sub_self]
  exact ⟨rfl, rfl⟩
theorem ok0 (c b u t : Nat) : p_ok c (0, b, u, t) = p_let c := rfl
theorem ok1 (c b u t : Nat) : p_ok c (1, b, u, t) = (decide (48 ≤ c) && decide (c - 48 < p_many b)) := rfl
theorem ok2 (c b u t : Nat) : p_ok c (2, b, u, t) = p_okT c (2, b, u, t) := rfl
theorem ok3 (c b u t : Nat) : p_ok c (3, b, u, t) = decide (c = 59) := rfl
theorem nx0 {c b u t : Nat} (h : p_let c = true) : p_nx c (0, b, u, t) = (1, c, u, 0) := by
  show p_nxL c (0, b, u, t) = _
  unfold p_nxL
  rw [if_pos h]
theorem nx1 {c b u t : Nat} (h1 : 48 ≤ c) (h2 : c - 48 < p_many b) : p_nx c (1, b, u, t) = (if b = 98 then 2 else 3, b, c - 48, t) := by
  show p_nxP c (1, b, u, t) = _
  unfold p_nxP
  have e : p_okP c (1, b, u, t) = true := by
    show (decide (48 ≤ c) && decide (c - 48 < p_many b)) = true
    rw [decide_eq_true h1, decide_eq_true h2]; rfl
  rw [if_pos e]
theorem okT_d {c b u t : Nat} (hc : ¬ c = 59) : p_ok c (2, b, u, t) = (decide (48 ≤ c) && decide (c - 48 ≤ 9) && decide (1 ≤ 10 * t + (c - 48)) && decide (10 * t + (c - 48) ≤ 200)) := by
  show p_okT c (2, b, u, t) = _
  unfold p_okT
  rw [if_neg (fun z => hc z.1)]
  rfl
theorem okT_s {b u t : Nat} (ht : 0 < t) : p_ok 59 (2, b, u, t) = true := by
  show p_okT 59 (2, b, u, t) = _
  unfold p_okT
  rw [if_pos ⟨rfl, ht⟩]
theorem okT_n {b u : Nat} : p_ok 59 (2, b, u, 0) = false := rfl
theorem nxT_d {c b u t : Nat} (hc : ¬ c = 59) (h : p_ok c (2, b, u, t) = true) : p_nx c (2, b, u, t) = (2, b, u, 10 * t + (c - 48)) := by
  have e : p_okD c (2, b, u, t) = true := by
    rw [okT_d hc] at h
    exact h
  show p_nxT c (2, b, u, t) = _
  unfold p_nxT
  rw [if_neg (fun z => hc z.1), if_pos e]
theorem nxT_s {b u t : Nat} (ht : 0 < t) : p_nx 59 (2, b, u, t) = (0, b, u, t) := by
  show p_nxT 59 (2, b, u, t) = _
  unfold p_nxT
  rw [if_pos ⟨rfl, ht⟩]
/-- the further digits -/
theorem au_d {ch : Nat → Nat} {len u : Nat} : ∀ (n j t : Nat), j + n = len → 1 ≤ t →
    p_fw ch (len - j) j (2, 98, u, t) = p_fw ch (len - d_j ch len n j t) (d_j ch len n j t) (2, 98, u, d_t ch len n j t) ∧
    p_fe ch (len - j) j (2, 98, u, t) = p_fe ch (len - d_j ch len n j t) (d_j ch len n j t) (2, 98, u, d_t ch len n j t) ∧
    (d_j ch len n j t < len → p_ok (ch (d_j ch len n j t)) (2, 98, u, d_t ch len n j t) = true → ch (d_j ch len n j t) = 59) ∧
    p_fo ch (d_j ch len n j t - j) j (2, 98, u, t) = (2, 98, u, d_t ch len n j t) ∧ (∀ r, j ≤ r → r < d_j ch len n j t → ¬ ch r = 59) := by
  intro n
  induction n with
  | zero =>
    intro j t hj ht
    have e1 : d_j ch len 0 j t = j := rfl
    have e2 : d_t ch len 0 j t = t := rfl
    rw [e1, e2, Nat.sub_self]
    exact ⟨rfl, rfl, fun z => absurd z (by omega), rfl, fun r h1 h2 => absurd h2 (by omega)⟩
  | succ n ih =>
    intro j t hj ht
    by_cases hd : d_c ch len j t = true
    · have hd2 := hd
      unfold d_c at hd2
      rw [Bool.and_eq_true, decide_eq_true_eq] at hd2
      obtain ⟨-, m1, m2, m3⟩ := n_ok_s hd2.1
      have h59 : ¬ ch j = 59 := by omega
      have hok : p_ok (ch j) (2, 98, u, t) = true := by
        rw [okT_d h59]
        simp only [Bool.and_eq_true, decide_eq_true_eq]
        omega
      have e1 : d_j ch len (n + 1) j t = d_j ch len n (j + 1) (10 * t + (ch j - 48)) := by
        show (if d_c ch len j t then _ else _) = _
        rw [if_pos hd]
      have e2 : d_t ch len (n + 1) j t = d_t ch len n (j + 1) (10 * t + (ch j - 48)) := by
        show (if d_c ch len j t then _ else _) = _
        rw [if_pos hd]
      obtain ⟨i1, i2, i3, i4, i5⟩ := ih (j + 1) (10 * t + (ch j - 48)) (by omega) (by omega)
      have hle := d_j_le ch len n (j + 1) (10 * t + (ch j - 48)) (by omega)
      rw [e1, e2]
      have hs := fw_s m1 hok
      rw [nxT_d h59 hok] at hs
      refine ⟨hs.1.trans i1, hs.2.trans i2, i3, ?_, fun r h1 h2 => ?_⟩
      · rw [show d_j ch len n (j + 1) (10 * t + (ch j - 48)) - j = (d_j ch len n (j + 1) (10 * t + (ch j - 48)) - (j + 1)) + 1 by omega]
        show p_fo ch _ (j + 1) (p_nx (ch j) (2, 98, u, t)) = _
        rw [nxT_d h59 hok]
        exact i4
      · by_cases hr : r = j
        · rw [hr]; exact h59
        · exact i5 r (by omega) h2
    · have hd : d_c ch len j t = false := by simpa using hd
      have e1 : d_j ch len (n + 1) j t = j := by
        show (if d_c ch len j t then _ else _) = _
        rw [hd]; rfl
      have e2 : d_t ch len (n + 1) j t = t := by
        show (if d_c ch len j t then _ else _) = _
        rw [hd]; rfl
      rw [e1, e2, Nat.sub_self]
      refine ⟨rfl, rfl, fun hjl hok => ?_, rfl, fun r h1 h2 => absurd h2 (by omega)⟩
      by_cases h59 : ch j = 59
      · exact h59
      · exfalso
        rw [okT_d h59] at hok
        simp only [Bool.and_eq_true, decide_eq_true_eq] at hok
        unfold d_c at hd
        rw [n_ok_t hjl (by omega) (by omega), decide_eq_true hok.2] at hd
        cases hd
/-- one errand -/
theorem au_rd {ch : Nat → Nat} {len i te j c u t : Nat} {w : Bool} {b0 u0 t0 : Nat} (hil : i ≤ len) (h : rd ch len i te = (j, w, c, u, t)) :
    (w = true → p_fw ch (len - i) i (0, b0, u0, t0) = j ∧ (j = len → p_dn (p_fe ch (len - i) i (0, b0, u0, t0)) = false)) ∧
    (w = false → ∃ a t1, ((c = 98 ∧ a = 2 ∧ t1 = t) ∨ (¬ c = 98 ∧ a = 3)) ∧ p_dn (a, c, u, t1) = true ∧
      p_fw ch (len - i) i (0, b0, u0, t0) = p_fw ch (len - j) j (a, c, u, t1) ∧ p_fe ch (len - i) i (0, b0, u0, t0) = p_fe ch (len - j) j (a, c, u, t1) ∧
      (j < len → p_ok (ch j) (a, c, u, t1) = true → ch j = 59) ∧ (ch j = 59 → p_ok (ch j) (a, c, u, t1) = true ∧ p_nx (ch j) (a, c, u, t1) = (0, c, u, t1)) ∧
      p_fo ch (j - i) i (0, b0, u0, t0) = (a, c, u, t1) ∧ (∀ r, i ≤ r → r < j → ¬ ch r = 59)) := by
  unfold rd at h
  by_cases h1 : p_let (rd_c ch len i) = false
  · rw [if_pos h1] at h
    cases h
    refine ⟨fun _ => ?_, fun z => by cases z⟩
    by_cases hl : i < len
    · have e2 : rd_c ch len i = ch i := by unfold rd_c; rw [if_pos hl]
      rw [e2] at h1
      have := fw_e (S := (0, b0, u0, t0)) hl (by rw [ok0]; exact h1)
      exact ⟨this.1, fun z => absurd z (by omega)⟩
    · have := fw_l (ch := ch) (len := len) (i := i) (S := (0, b0, u0, t0)) (by omega)
      exact ⟨this.1, fun _ => by rw [this.2]; rfl⟩
  · rw [if_neg h1] at h
    have hl : p_let (rd_c ch len i) = true := q_bt h1
    have hi2 : i < len := by
      rcases Nat.lt_or_ge i len with q | q
      · exact q
      · unfold rd_c at hl
        rw [if_neg (by omega)] at hl
        cases hl
    have e2 : rd_c ch len i = ch i := by unfold rd_c; rw [if_pos hi2]
    rw [e2] at h hl
    have hs := fw_s (S := (0, b0, u0, t0)) hi2 (by rw [ok0]; exact hl)
    rw [nx0 hl] at hs
    have hi59 : ¬ ch i = 59 := fun z => by rw [z] at hl; cases hl
    by_cases h2 : n_ok ch len (1 + i) false 48 (47 + p_many (ch i)) = false
    · rw [if_pos h2] at h
      cases h
      refine ⟨fun _ => ?_, fun z => by cases z⟩
      by_cases hl2 : i + 1 < len
      · have hok : p_ok (ch (i + 1)) (1, ch i, u0, 0) = false := by
          rw [ok1]
          unfold n_ok at h2
          rw [Nat.add_comm 1 i] at h2
          simp only [Bool.and_eq_false_iff, decide_eq_false_iff_not, Bool.not_false, Bool.true_eq_false, false_or] at h2
          simp only [Bool.and_eq_false_iff, decide_eq_false_iff_not]
          omega
        have := fw_e hl2 hok
        rw [hs.1, this.1]
        exact ⟨by omega, fun z => absurd z (by omega)⟩
      · have := fw_l (ch := ch) (len := len) (i := i + 1) (S := (1, ch i, u0, 0)) (by omega)
        rw [hs.1, this.1, hs.2, this.2]
        exact ⟨by omega, fun _ => rfl⟩
    · rw [if_neg h2] at h
      obtain ⟨-, n1, n2, n3⟩ := n_ok_s (q_bt h2)
      have hm : ch (i + 1) - 48 < p_many (ch i) := by rw [Nat.add_comm i 1]; omega
      have hm1 : 48 ≤ ch (i + 1) := by rw [Nat.add_comm i 1]; exact n2
      have hp8 : p_many (ch i) ≤ 8 := by unfold p_many; split <;> decide
      have hq59 : ¬ ch (i + 1) = 59 := by omega
      have hok : p_ok (ch (i + 1)) (1, ch i, u0, 0) = true := by
        rw [ok1, decide_eq_true hm1, decide_eq_true hm]; rfl
      have hs2 := fw_s (S := (1, ch i, u0, 0)) (show i + 1 < len by omega) hok
      rw [nx1 hm1 hm] at hs2
      rw [Nat.add_comm 1 i] at h
      by_cases h3 : ¬ ch i = 98
      · rw [if_pos h3] at h
        cases h
        refine ⟨fun z => (by cases z), fun _ => ⟨3, 0, Or.inr ⟨h3, rfl⟩, rfl, ?_, ?_, fun _ z => ?_, fun z => ?_, ?_, fun r r1 r2 => ?_⟩⟩
        · rw [hs.1, hs2.1, if_neg h3, Nat.add_comm 2 i]
        · rw [hs.2, hs2.2, if_neg h3, Nat.add_comm 2 i]
        · rw [ok3] at z
          exact of_decide_eq_true z
        · rw [z]
          exact ⟨rfl, rfl⟩
        · rw [show 2 + i - i = 2 by omega]
          show p_nx (ch (i + 1)) (p_nx (ch i) (0, b0, u0, t0)) = _
          rw [nx0 hl, nx1 hm1 hm, if_neg h3]
        · by_cases hr : r = i
          · rw [hr]; exact hi59
          · rw [show r = i + 1 by omega]; exact hq59
      · rw [if_neg h3] at h
        have h98 : ch i = 98 := Classical.not_not.mp h3
        rw [if_pos h98] at hs2
        rw [h98] at hs hs2
        by_cases h4 : n_ok ch len (2 + i) false 49 57 = false
        · rw [if_pos h4] at h
          cases h
          refine ⟨fun _ => ?_, fun z => by cases z⟩
          rw [hs.1, hs2.1, hs.2, hs2.2]
          by_cases hl2 : i + 1 + 1 < len
          · have hok2 : p_ok (ch (i + 1 + 1)) (2, 98, ch (i + 1) - 48, 0) = false := by
              by_cases z : ch (i + 1 + 1) = 59
              · rw [z]; rfl
              · rw [okT_d z]
                unfold n_ok at h4
                rw [show 2 + i = i + 1 + 1 by omega] at h4
                simp only [Bool.and_eq_false_iff, decide_eq_false_iff_not, Bool.not_false, Bool.true_eq_false, false_or] at h4
                simp only [Bool.and_eq_false_iff, decide_eq_false_iff_not]
                omega
            have := fw_e hl2 hok2
            rw [this.1]
            exact ⟨by omega, fun z => absurd z (by omega)⟩
          · have := fw_l (ch := ch) (len := len) (i := i + 1 + 1) (S := (2, 98, ch (i + 1) - 48, 0)) (by omega)
            rw [this.1, this.2]
            exact ⟨by omega, fun _ => rfl⟩
        · rw [if_neg h4] at h
          obtain ⟨-, m1, m2, m3⟩ := n_ok_s (q_bt h4)
          have e3 : 2 + i = i + 1 + 1 := by omega
          rw [e3] at m1 m2 m3
          have k59 : ¬ ch (i + 1 + 1) = 59 := by omega
          have hok2 : p_ok (ch (i + 1 + 1)) (2, 98, ch (i + 1) - 48, 0) = true := by
            rw [okT_d k59]
            simp only [Bool.and_eq_true, decide_eq_true_eq]
            omega
          have hs3 := fw_s m1 hok2
          rw [nxT_d k59 hok2] at hs3
          have et : 10 * 0 + (ch (i + 1 + 1) - 48) = 1 + (ch (2 + i) - 49) := by rw [e3]; omega
          rw [et, show i + 1 + 1 + 1 = 3 + i by omega] at hs3
          obtain ⟨d1, d2, d3, d4, d5⟩ := au_d (ch := ch) (len := len) (u := ch (i + 1) - 48) (len - (3 + i)) (3 + i) (1 + (ch (2 + i) - 49)) (by omega) (by omega)
          have hle := d_j_le ch len (len - (3 + i)) (3 + i) (1 + (ch (2 + i) - 49)) (by omega)
          have htl := d_t_le ch len (len - (3 + i)) (3 + i) (1 + (ch (2 + i) - 49)) (by omega) (by rw [e3]; omega)
          cases h
          refine ⟨fun z => (by cases z), fun _ => ⟨2, d_t ch len (len - (3 + i)) (3 + i) (1 + (ch (2 + i) - 49)), Or.inl ⟨rfl, rfl, rfl⟩, ?_, ?_, ?_, d3, fun z => ?_, ?_, fun r r1 r2 => ?_⟩⟩
          · have hg0 : 0 < d_t ch len (len - (3 + i)) (3 + i) (1 + (ch (2 + i) - 49)) := by omega
            show (false || (true && decide (0 < d_t ch len (len - (3 + i)) (3 + i) (1 + (ch (2 + i) - 49))))) = true
            rw [decide_eq_true hg0]; rfl
          · rw [hs.1, hs2.1, hs3.1, d1]
          · rw [hs.2, hs2.2, hs3.2, d2]
          · rw [z]
            exact ⟨okT_s (by omega), nxT_s (by omega)⟩
          · rw [show d_j ch len (len - (3 + i)) (3 + i) (1 + (ch (2 + i) - 49)) - i = (d_j ch len (len - (3 + i)) (3 + i) (1 + (ch (2 + i) - 49)) - (3 + i)) + 1 + 1 + 1 by omega]
            show p_fo ch _ (i + 1 + 1 + 1) (p_nx (ch (i + 1 + 1)) (p_nx (ch (i + 1)) (p_nx (ch i) (0, b0, u0, t0)))) = _
            rw [nx0 hl, nx1 hm1 hm, if_pos h98, h98, nxT_d k59 hok2, et, show i + 1 + 1 + 1 = 3 + i by omega]
            exact d4
          · by_cases r3 : r = i
            · rw [r3]; exact hi59
            · by_cases r4 : r = i + 1
              · rw [r4]; exact hq59
              · by_cases r5 : r = i + 1 + 1
                · rw [r5]; exact k59
                · exact d5 r (by omega) r2
theorem fo_last (ch : Nat → Nat) : ∀ (m q : Nat) (S : PS), p_fo ch (m + 1) q S = p_nx (ch (q + m)) (p_fo ch m q S)
  | 0, _, _ => rfl
  | m + 1, q, S => by
    show p_fo ch (m + 1) (q + 1) (p_nx (ch q) S) = p_nx (ch (q + (m + 1))) (p_fo ch m (q + 1) (p_nx (ch q) S))
    rw [fo_last ch m (q + 1) (p_nx (ch q) S), show q + 1 + m = q + (m + 1) by omega]
/-- going through without doing -/
theorem gt_ok {ch : Nat → Nat} {len : Nat} : ∀ (n i te : Nat) (b u t : Nat), i ≤ len → len < i + n →
    ((gt ch len n i te).2 = true → p_fw ch (len - i) i (0, b, u, t) = (gt ch len n i te).1 ∧ (decide (len ≤ p_fw ch (len - i) i (0, b, u, t)) && p_dn (p_fe ch (len - i) i (0, b, u, t))) = false) ∧
    ((gt ch len n i te).2 = false → p_fw ch (len - i) i (0, b, u, t) = len ∧ p_dn (p_fe ch (len - i) i (0, b, u, t)) = true) := by
  intro n
  induction n with
  | zero => intro i te b u t h1 h2; exact absurd h2 (by omega)
  | succ n ih =>
    intro i te b u t hil hn
    rcases hrd : rd ch len i te with ⟨j, w, c, u1, t1⟩
    obtain ⟨hij, hjl, hok⟩ := rd_ok hil hrd
    obtain ⟨hA, hB⟩ := au_rd (b0 := b) (u0 := u) (t0 := t) hil hrd
    have hg : gt ch len (n + 1) i te = (if w then (j, true) else if j < len then (if ch j = 59 then gt ch len n (1 + j) t1 else (j, true)) else (j, false)) := by
      show (if (rd ch len i te).2.1 then _ else _) = _
      rw [hrd]
    rw [hg]
    cases w with
    | true =>
      obtain ⟨a1, a2⟩ := hA rfl
      rw [if_pos rfl]
      refine ⟨fun _ => ⟨a1, ?_⟩, fun z => by cases z⟩
      rw [a1]
      by_cases hj : j = len
      · rw [a2 hj, Bool.and_false]
      · rw [decide_eq_false (by omega), Bool.false_and]
    | false =>
      obtain ⟨a, t2, hac, hdn, b1, b2, b3, b4, -, -⟩ := hB rfl
      obtain ⟨hij2, hlet, -, -⟩ := hok rfl
      rw [if_neg Bool.false_ne_true, b1, b2]
      by_cases hj : j < len
      · rw [if_pos hj]
        by_cases h59 : ch j = 59
        · rw [if_pos h59]
          obtain ⟨c1, c2⟩ := b4 h59
          have hs := fw_s hj c1
          rw [c2] at hs
          rw [hs.1, hs.2, Nat.add_comm 1 j]
          exact ih (j + 1) t1 c u1 t2 (by omega) (by omega)
        · rw [if_neg h59]
          have hbad : p_ok (ch j) (a, c, u1, t2) = false := by
            cases hq : p_ok (ch j) (a, c, u1, t2)
            · rfl
            · exact absurd (b3 hj hq) h59
          have := fw_e hj hbad
          refine ⟨fun _ => ⟨this.1, ?_⟩, fun z => by cases z⟩
          rw [this.1, decide_eq_false (by omega), Bool.false_and]
      · rw [if_neg hj]
        have := fw_l (ch := ch) (len := len) (i := j) (S := (a, c, u1, t2)) (by omega)
        refine ⟨fun z => (by cases z), fun _ => ?_⟩
        rw [this.1, this.2]
        exact ⟨by omega, hdn⟩
/-- the class's run: sign by sign -/
def xr (ch : Nat → Nat) (len : Nat) : Nat → Nat → PS → (Nat → Int32) → Nat × (Nat → Int32)
  | 0, _, _, f => (0, f)
  | n + 1, i, S, f =>
    if p_end ch len i then
      if e_ok f (p_nx (ch i) S).2.1 (p_nx (ch i) S).2.2.1 (p_nx (ch i) S).2.2.2 then
        ((xr ch len n (i + 1) (p_nx (ch i) S) (e_do f (p_nx (ch i) S).2.1 (p_nx (ch i) S).2.2.1 (p_nx (ch i) S).2.2.2)).1 + 1, (xr ch len n (i + 1) (p_nx (ch i) S) (e_do f (p_nx (ch i) S).2.1 (p_nx (ch i) S).2.2.1 (p_nx (ch i) S).2.2.2)).2)
      else (0, f)
    else xr ch len n (i + 1) (p_nx (ch i) S) f
theorem e_ok_t {f : Nat → Int32} {c u t t2 : Nat} (h : ¬ c = 98) : e_ok f c u t = e_ok f c u t2 := by
  unfold e_ok
  rw [if_neg h, if_neg h]
theorem e_do_t {f : Nat → Int32} {c u t t2 : Nat} (h : ¬ c = 98) : e_do f c u t = e_do f c u t2 := by
  unfold e_do
  rw [if_neg h, if_neg h]
/-- signs within a part, then its end -/
theorem xr_mid {ch : Nat → Nat} {len : Nat} : ∀ (m q : Nat) (S : PS) (f : Nat → Int32), q + m < len → (∀ r, q ≤ r → r < q + m → ¬ ch r = 59) → xr ch len (len - q) q S f = xr ch len (len - (q + m)) (q + m) (p_fo ch m q S) f := by
  intro m
  induction m with
  | zero => intro q S f _ _; rfl
  | succ m ih =>
    intro q S f hq hr
    obtain ⟨n, hn⟩ : ∃ n, len - q = n + 1 := ⟨len - q - 1, by omega⟩
    have he : p_end ch len q = false := by
      unfold p_end
      rw [decide_eq_false (hr q (Nat.le_refl _) (by omega)), decide_eq_false (by omega)]; rfl
    rw [hn]
    show (if p_end ch len q then _ else _) = _
    rw [he, if_neg Bool.false_ne_true, show n = len - (q + 1) by omega, ih (q + 1) (p_nx (ch q) S) f (by omega) (fun r r1 r2 => hr r (by omega) (by omega)), show q + 1 + m = q + (m + 1) by omega]
    rfl
theorem gd_ok {ch : Nat → Nat} {len : Nat} : ∀ (n i te : Nat) (b u t : Nat) (f : Nat → Int32), i ≤ len → len < i + n → p_fw ch (len - i) i (0, b, u, t) = len → p_dn (p_fe ch (len - i) i (0, b, u, t)) = true →
    gd ch len n i te f = xr ch len (len - i) i (0, b, u, t) f := by
  intro n
  induction n with
  | zero => intro i te b u t f h1 h2; exact absurd h2 (by omega)
  | succ n ih =>
    intro i te b u t f hil hn hfw hfe
    rcases hrd : rd ch len i te with ⟨j, w, c, u1, t1⟩
    obtain ⟨hij, hjl, hok⟩ := rd_ok hil hrd
    obtain ⟨hA, hB⟩ := au_rd (b0 := b) (u0 := u) (t0 := t) hil hrd
    have hg : gd ch len (n + 1) i te f = (if w then (0, f) else if e_ok f c u1 t1 then (if j < len ∧ ch j = 59 then ((gd ch len n (1 + j) t1 (e_do f c u1 t1)).1 + 1, (gd ch len n (1 + j) t1 (e_do f c u1 t1)).2) else (1, e_do f c u1 t1)) else (0, f)) := by
      show (if (rd ch len i te).2.1 then _ else _) = _
      rw [hrd]
    rw [hg]
    cases w with
    | true =>
      obtain ⟨a1, a2⟩ := hA rfl
      exfalso
      rw [hfw] at a1
      have := a2 a1.symm
      rw [hfe] at this
      cases this
    | false =>
      obtain ⟨a, t2, hac, hdn, b1, b2, b3, b4, b5, b6⟩ := hB rfl
      obtain ⟨hij2, hlet, -, -⟩ := hok rfl
      rw [if_neg Bool.false_ne_true]
      rw [b1] at hfw
      rw [b2] at hfe
      have hek : e_ok f c u1 t1 = e_ok f c u1 t2 := by
        rcases hac with ⟨-, -, z⟩ | ⟨z, -⟩
        · rw [z]
        · exact e_ok_t z
      have hed : e_do f c u1 t1 = e_do f c u1 t2 := by
        rcases hac with ⟨-, -, z⟩ | ⟨z, -⟩
        · rw [z]
        · exact e_do_t z
      rw [hek, hed]
      by_cases hj : j < len
      · have h59 : ch j = 59 := by
          cases hq : p_ok (ch j) (a, c, u1, t2) with
          | true => exact b3 hj hq
          | false =>
            have := fw_e hj hq
            rw [this.1] at hfw
            omega
        obtain ⟨c1, c2⟩ := b4 h59
        have hs := fw_s hj c1
        rw [c2] at hs
        rw [hs.1] at hfw
        rw [hs.2] at hfe
        have hm := xr_mid (ch := ch) (len := len) (j - i) i (0, b, u, t) f (by omega) (fun r r1 r2 => b6 r r1 (by omega))
        rw [show i + (j - i) = j by omega, b5] at hm
        rw [hm]
        obtain ⟨k, hk⟩ : ∃ k, len - j = k + 1 := ⟨len - j - 1, by omega⟩
        have he : p_end ch len j = true := by
          unfold p_end
          rw [decide_eq_true h59]; rfl
        rw [hk]
        show _ = (if p_end ch len j then (if e_ok f (p_nx (ch j) (a, c, u1, t2)).2.1 (p_nx (ch j) (a, c, u1, t2)).2.2.1 (p_nx (ch j) (a, c, u1, t2)).2.2.2 then _ else _) else _)
        rw [he, if_pos rfl, c2]
        by_cases hq : e_ok f c u1 t2 = true
        · rw [if_pos hq, if_pos hq, if_pos ⟨hj, h59⟩, Nat.add_comm 1 j, ih (j + 1) t1 c u1 t2 (e_do f c u1 t2) (by omega) (by omega) hfw hfe, show k = len - (j + 1) by omega]
        · rw [if_neg hq, if_neg hq]
      · have hjl2 : j = len := by omega
        have hm := xr_mid (ch := ch) (len := len) (j - i - 1) i (0, b, u, t) f (by omega) (fun r r1 r2 => b6 r r1 (by omega))
        rw [hm]
        have hfo : p_nx (ch (i + (j - i - 1))) (p_fo ch (j - i - 1) i (0, b, u, t)) = (a, c, u1, t2) := by
          rw [← b5, show j - i = (j - i - 1) + 1 by omega]
          exact (fo_last ch (j - i - 1) i (0, b, u, t)).symm
        have he : p_end ch len (i + (j - i - 1)) = true := by
          unfold p_end
          rw [decide_eq_true (show i + (j - i - 1) + 1 = len by omega), Bool.or_true]
        rw [show len - (i + (j - i - 1)) = 0 + 1 by omega]
        show _ = (if p_end ch len (i + (j - i - 1)) then (if e_ok f (p_nx (ch (i + (j - i - 1))) (p_fo ch (j - i - 1) i (0, b, u, t))).2.1 (p_nx (ch (i + (j - i - 1))) (p_fo ch (j - i - 1) i (0, b, u, t))).2.2.1 (p_nx (ch (i + (j - i - 1))) (p_fo ch (j - i - 1) i (0, b, u, t))).2.2.2 then _ else _) else _)
        rw [he, if_pos rfl, hfo]
        by_cases hq : e_ok f c u1 t2 = true
        · rw [if_pos hq, if_pos hq, if_neg (fun z => hj z.1)]
          rfl
        · rw [if_neg hq, if_neg hq]
