theorem cv_no {v : Int32} (h1 : ¬ v < nI 0) (h2 : ¬ (-1 : Int32) < v) : False := by
  rw [Int32.lt_iff_toInt_lt] at h1 h2
  have a1 : (nI 0).toInt = 0 := by decide +kernel
  have a2 : (-1 : Int32).toInt = -1 := by decide +kernel
  omega
theorem cv_no9 {v : Int32} (h1 : ¬ v < nI 10) (h2 : ¬ nI 9 < v) : False := by
  rw [Int32.lt_iff_toInt_lt] at h1 h2
  have a1 : (nI 10).toInt = 10 := by decide +kernel
  have a2 : (nI 9).toInt = 9 := by decide +kernel
  omega
theorem cv_z {v : Int32} (h1 : ¬ v < nI 0) (h2 : ¬ nI 0 < v) : v = 0 := by
  apply Int32.toInt_inj.mp
  rw [Int32.lt_iff_toInt_lt] at h1 h2
  have a1 : (nI 0).toInt = 0 := by decide +kernel
  have a2 : (0 : Int32).toInt = 0 := by decide +kernel
  omega
theorem cv_nz {v : Int32} (h : v < nI 0 ∨ nI 0 < v) : ¬ v = 0 := by
  rintro rfl
  rcases h with h | h
  · exact absurd h (by decide +kernel)
  · exact absurd h (by decide +kernel)
theorem cv_r0 {v : Int32} {a b : Nat} (ha : a + 1 = b) (hb : b < 2147483648) (h : v < nI 0 ∨ nI a < v) : v < 0 ∨ nI b ≤ v := by
  rcases h with h | h
  · exact Or.inl h
  · refine Or.inr ?_
    rw [Int32.lt_iff_toInt_lt, nI_toInt (by omega)] at h
    rw [Int32.le_iff_toInt_le, nI_toInt hb]
    omega
theorem cv_r2 {v : Int32} {a b : Nat} (ha : a + 1 = b) (hb : b < 2147483648) (h : ¬ nI a < v) : ¬ nI b ≤ v := by
  intro h2
  apply h
  rw [Int32.le_iff_toInt_le, nI_toInt hb] at h2
  rw [Int32.lt_iff_toInt_lt, nI_toInt (by omega)]
  omega
theorem kp_step {f : Nat → Int32} {k : Nat} {x y : Int32} (h : k = 0 ∨ f 0 = y) (hx : k = 0 → x = y) : upd f k x 0 = y := by
  unfold upd
  split
  · exact hx (by omega)
  · exact h.resolve_left (by omega)
theorem up_ne {f : Nat → Int32} {k j : Nat} {x y : Int32} (h : f j = y) (hx : k = j → x = y) : upd f k x j = y := by
  unfold upd
  split
  · exact hx (by omega)
  · exact h

theorem rs_m1 {j : Nat} (h : j < 4) : (upd (upd (upd (upd (fun _ => nI 0) 0 (-1)) 1 (-1)) 2 (-1)) 3 (-1)) j = -1 := by
  have : j = 0 ∨ j = 1 ∨ j = 2 ∨ j = 3 := by omega
  rcases this with rfl | rfl | rfl | rfl <;> rfl
