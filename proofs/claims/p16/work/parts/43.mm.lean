theorem so_mi {n : Nat} {f g : Nat → Int32} (h : FR n f) (e : ∀ j, j < 84 → g j = f j) (t : ∀ i, i < n → bd (g (84 + i)) n) : MI n g := by
  obtain ⟨a1, a2, a3, a4, a5, a6⟩ := h
  refine ⟨a1, by rw [e 0 (by decide)]; exact a2, by rw [e 2 (by decide)]; exact a3, fun i hi => ?_⟩
  rw [e (14 + i) (by omega), e (24 + i) (by omega), e (54 + i) (by omega), e (64 + i) (by omega), e (4 + i) (by omega), a5 i (by omega)]
  exact ⟨(a4 i hi).1, (a4 i hi).2.1, (a4 i hi).2.2.1, bd_nI (by decide), t i hi, (a4 i hi).2.2.2⟩
theorem fr_to {n i : Nat} {f : Nat → Int32} (h : FR n f) (hi : i < 10) : bd (f (84 + i)) (n + 1) := h.2.2.2.2.2 i hi

theorem so_st {f : Nat → Int32} {k n : Nat} {x : Int32} (h : ∀ i, i < k → bd (f (84 + i)) n) (hx : bd x n) : ∀ i, i < k + 1 → bd (upd f (84 + k) x (84 + i)) n := by
  intro i hi
  by_cases e : i = k
  · subst e; rw [up_same]; exact hx
  · rw [up_other (by omega)]; exact h i (by omega)
