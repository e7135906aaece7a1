theorem cv_lt {a b : Int32} : a.toInt64 < b.toInt64 ↔ a < b := by rw [Int64.lt_iff_toInt_lt, Int32.lt_iff_toInt_lt, Int32.toInt_toInt64, Int32.toInt_toInt64]
theorem g_idx {x : Int32} {n : Nat} (hn : n < 2147483648) (h0 : ¬ x < 0) (h1 : ¬ nI n ≤ x) : ∃ j : Nat, j < n ∧ x = nI j := by
  rcases pk_ix x (n := n) hn with h | h | h
  · exact absurd h h0
  · exact absurd h h1
  · exact h
theorem g_rng {x : Int32} {a b : Nat} (ha : a < 2147483648) (hb : b < 2147483647) (h1 : ¬ x < nI a) (h2 : ¬ nI b < x) : ∃ j : Nat, a ≤ j ∧ j ≤ b ∧ x = nI j := by
  have h0 : ¬ x < 0 := fun h => h1 (by rw [Int32.lt_iff_toInt_lt] at h ⊢; rw [nI_toInt ha]; have : (0 : Int32).toInt = 0 := by decide
                                       omega)
  obtain ⟨j, hj, rfl⟩ := nI_of h0
  exact ⟨j, b_nlt hj ha h1, b_nlt (by omega) hj h2, rfl⟩
