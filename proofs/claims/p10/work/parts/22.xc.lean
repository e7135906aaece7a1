theorem pred_bd40 {n : Nat} {z : Int32} (hn : n ≤ 40) (h1 : ¬ z < nI 0) (h2 : ¬ nI n - nI 1 < z) : bd z n := by
  by_cases h0 : n = 0
  · subst h0
    exfalso
    have e : nI 0 - nI 1 = -1 := by decide +kernel
    rw [e] at h2
    rw [Int32.lt_iff_toInt_lt] at h1 h2
    have a1 : (nI 0).toInt = 0 := by decide +kernel
    have a2 : (-1 : Int32).toInt = -1 := by decide +kernel
    omega
  · rw [nI_sub (by omega)] at h2
    obtain ⟨j, hj1, hj2, e⟩ := g_rng (by decide) (by omega) h1 h2
    exact ⟨j, by omega, e⟩

/-- what numbers(row, sort, n) answers -/
def numWhy (row sort n : Int32) : Int32 := if (row < 0 ∨ nI 4 ≤ row) ∨ (sort < nI 0 ∨ nI 3 < sort) then -2 else if n < nI 0 ∨ nI 40 < n then -3 else nI 0
theorem nw_1 {row sort n : Int32} (h : row < 0 ∨ nI 4 ≤ row) : -2 = numWhy row sort n := by simp [numWhy, h]
theorem nw_2 {row sort n : Int32} (h : sort < nI 0 ∨ nI 3 < sort) : -2 = numWhy row sort n := by simp [numWhy, h]
theorem nw_3 {row sort n : Int32} (h0 : ¬ row < 0) (h1 : ¬ nI 4 ≤ row) (h2 : ¬ sort < nI 0) (h3 : ¬ nI 3 < sort) (h : n < nI 0 ∨ nI 40 < n) : -3 = numWhy row sort n := by simp only [numWhy]; simp [h0, h1, h2, h3, h]
theorem nw_4 {row sort n : Int32} (h0 : ¬ row < 0) (h1 : ¬ nI 4 ≤ row) (h2 : ¬ sort < nI 0) (h3 : ¬ nI 3 < sort) (h4 : ¬ n < nI 0) (h5 : ¬ nI 40 < n) : nI 0 = numWhy row sort n := by simp only [numWhy]; simp [h0, h1, h2, h3, h4, h5]
