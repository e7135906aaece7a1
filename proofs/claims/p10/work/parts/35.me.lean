theorem wm_1 {cm : Int32} {j : Nat} (h : ∃ p, p ≤ 60 * 10 ∧ cm = nI p - nI j) (hj : j < 31) (hc : 0 < cm) : ∃ q, 1 ≤ q ∧ q ≤ 700 ∧ cm = nI q := by
  obtain ⟨p, hp, e⟩ := h
  by_cases c : j ≤ p
  · rw [nI_sub c] at e
    refine ⟨p - j, ?_, by omega, e⟩
    rcases Nat.eq_zero_or_pos (p - j) with h0 | h0
    · rw [h0] at e
      rw [e] at hc
      exact absurd hc (by decide +kernel)
    · exact h0
  · exfalso
    rw [e] at hc
    exact absurd hc (Int32.not_lt.mpr (Int32.le_of_lt (neg_sub (by omega) (by omega))))
theorem wm_0 {j : Nat} : ∃ p, p ≤ 60 * 0 ∧ -(nI j) = nI p - nI j := ⟨0, Nat.le_refl _, by rw [show nI 0 = 0 by decide +kernel, Int32.zero_sub]⟩
theorem wm_s {cm : Int32} {k j b : Nat} (h : ∃ p, p ≤ 60 * k ∧ cm = nI p - nI j) (hb : b < 61) : ∃ p, p ≤ 60 * (k + 1) ∧ cm + nI b = nI p - nI j := by
  obtain ⟨p, hp, e⟩ := h
  refine ⟨p + b, by omega, ?_⟩
  rw [e, ← nI_add, Int32.sub_eq_add_neg, Int32.sub_eq_add_neg, Int32.add_assoc, Int32.add_assoc, Int32.add_comm (-nI j) (nI b)]
theorem wm_s0 {cm : Int32} {k j : Nat} (h : ∃ p, p ≤ 60 * k ∧ cm = nI p - nI j) : ∃ p, p ≤ 60 * (k + 1) ∧ cm + nI 0 = nI p - nI j := wm_s h (by decide)
theorem wm_n {cm : Int32} {k j : Nat} (h : ∃ p, p ≤ 60 * k ∧ cm = nI p - nI j) (hk : k ≤ 10) : ∃ p, p ≤ 60 * 10 ∧ cm = nI p - nI j := by
  obtain ⟨p, hp, e⟩ := h
  exact ⟨p, by omega, e⟩
