/-- what holds of the reference's numbers for a street of n SMITHS -/
def MI (n : Nat) (f : Nat → Int32) : Prop := n ≤ 10 ∧ f 0 = nI n ∧ bd (f 2) 21 ∧ ∀ i, i < n → bd (f (14 + i)) 31 ∧ bd (f (24 + i)) 256 ∧ bd (f (54 + i)) 21 ∧ bd (f (64 + i)) 32 ∧ bd (f (84 + i)) n ∧ bd (f (4 + i)) 61
theorem mi_cool {n i : Nat} {f : Nat → Int32} (h : MI n f) (hi : i < n) : bd (f (14 + i)) 31 := (h.2.2.2 i hi).1
theorem mi_heat {n i : Nat} {f : Nat → Int32} (h : MI n f) (hi : i < n) : bd (f (24 + i)) 256 := (h.2.2.2 i hi).2.1
theorem mi_need {n i : Nat} {f : Nat → Int32} (h : MI n f) (hi : i < n) : bd (f (54 + i)) 21 := (h.2.2.2 i hi).2.2.1
theorem mi_has {n i : Nat} {f : Nat → Int32} (h : MI n f) (hi : i < n) : bd (f (64 + i)) 32 := (h.2.2.2 i hi).2.2.2.1
theorem mi_to {n i : Nat} {f : Nat → Int32} (h : MI n f) (hi : i < n) : bd (f (84 + i)) n := (h.2.2.2 i hi).2.2.2.2.1
theorem mi_blast {n i : Nat} {f : Nat → Int32} (h : MI n f) (hi : i < n) : bd (f (4 + i)) 61 := (h.2.2.2 i hi).2.2.2.2.2
theorem mi_lost {n : Nat} {f : Nat → Int32} (h : MI n f) : bd (f 2) 21 := h.2.2.1
theorem mi_ext {n : Nat} {f g : Nat → Int32} (h : MI n f) (e : ∀ j, j < 94 → g j = f j) : MI n g := by
  obtain ⟨h1, h2, h3, h4⟩ := h
  refine ⟨h1, by rw [e 0 (by decide)]; exact h2, by rw [e 2 (by decide)]; exact h3, fun i hi => ?_⟩
  rw [e (14 + i) (by omega), e (24 + i) (by omega), e (54 + i) (by omega), e (64 + i) (by omega), e (84 + i) (by omega), e (4 + i) (by omega)]
  exact h4 i hi
/-- .. behind some steps, which have left the images alone -/
def MS (n : Nat) (f g : Nat → Int32) : Prop := MI n g ∧ ∀ j, 94 ≤ j → g j = f j
theorem ms_rf {n : Nat} {f : Nat → Int32} (h : MI n f) : MS n f f := ⟨h, fun _ _ => rfl⟩
theorem ms_tr {n : Nat} {f g k : Nat → Int32} (h : MS n f g) (h2 : MS n g k) : MS n f k := ⟨h2.1, fun j hj => (h2.2 j hj).trans (h.2 j hj)⟩
theorem ms_st {n j : Nat} {f g : Nat → Int32} {x : Int32} (h : MS n f g) (hj : j < 94) (h0 : j ≠ 0) (h2 : j = 2 → bd x 21) (h14 : 14 ≤ j → j < 24 → bd x 31) (h24 : 24 ≤ j → j < 34 → bd x 256) (h54 : 54 ≤ j → j < 64 → bd x 21) (h64 : 64 ≤ j → j < 74 → bd x 32) (h84 : 84 ≤ j → bd x n) (h4 : 4 ≤ j → j < 14 → bd x 61) : MS n f (upd g j x) := by
  obtain ⟨⟨m1, m2, m3, m4⟩, m5⟩ := h
  refine ⟨⟨m1, by rw [up_other (by omega)]; exact m2, ?_, fun i hi => ?_⟩, fun q hq => by rw [up_other (by omega)]; exact m5 q hq⟩
  · by_cases e : 2 = j
    · subst e; rw [up_same]; exact h2 rfl
    · rw [up_other e]; exact m3
  · obtain ⟨a1, a2, a3, a4, a5, a6⟩ := m4 i hi
    refine ⟨?_, ?_, ?_, ?_, ?_, ?_⟩
    · by_cases e : 14 + i = j
      · rw [e, up_same]; exact h14 (by omega) (by omega)
      · rw [up_other e]; exact a1
    · by_cases e : 24 + i = j
      · rw [e, up_same]; exact h24 (by omega) (by omega)
      · rw [up_other e]; exact a2
    · by_cases e : 54 + i = j
      · rw [e, up_same]; exact h54 (by omega) (by omega)
      · rw [up_other e]; exact a3
    · by_cases e : 64 + i = j
      · rw [e, up_same]; exact h64 (by omega) (by omega)
      · rw [up_other e]; exact a4
    · by_cases e : 84 + i = j
      · rw [e, up_same]; exact h84 (by omega)
      · rw [up_other e]; exact a5
    · by_cases e : 4 + i = j
      · rw [e, up_same]; exact h4 (by omega) (by omega)
      · rw [up_other e]; exact a6
theorem cv_lt {a b : Int32} : a.toInt64 < b.toInt64 ↔ a < b := by rw [Int64.lt_iff_toInt_lt, Int32.lt_iff_toInt_lt, Int32.toInt_toInt64, Int32.toInt_toInt64]
theorem bd_lt {x y : Int32} {a b : Nat} (hx : bd x a) (ha : a ≤ 1000) (hy : bd y b) (hb : b ≤ 1000) (h : x < y) {j : Nat} (e : x = nI j) (hj : j < 1000) : j + 1 < b := by
  obtain ⟨p, hp, rfl⟩ := hx
  obtain ⟨q, hq, rfl⟩ := hy
  have h1 := b_lt (by omega) (by omega) h
  have h2 := b_eq (by omega) (by omega) e
  omega
