/-- what holds of the street that is being read -/
def FR (n : Nat) (f : Nat → Int32) : Prop := n ≤ 10 ∧ f 0 = nI n ∧ bd (f 2) 21 ∧ (∀ i, i < n → bd (f (14 + i)) 31 ∧ bd (f (24 + i)) 256 ∧ bd (f (54 + i)) 21 ∧ bd (f (4 + i)) 61) ∧ (∀ i, i < 10 → f (64 + i) = nI 0) ∧ ∀ i, i < 10 → bd (f (84 + i)) (n + 1)
theorem fr_new {f : Nat → Int32} (h : ∀ j, j < 94 → f j = if j = 2 then nI 20 else nI 0) : FR 0 f := by
  refine ⟨by decide, by rw [h 0 (by decide)]; rfl, by rw [h 2 (by decide)]; exact bd_nI (by decide), fun i hi => absurd hi (Nat.not_lt_zero _), fun i hi => by rw [h _ (by omega), if_neg (by omega)], fun i hi => by rw [h _ (by omega), if_neg (by omega)]; exact bd_nI (by decide)⟩
theorem fr_lost {n : Nat} {f : Nat → Int32} {x : Int32} (h : FR n f) (hx : bd x 21) : FR n (upd f 2 x) := by
  obtain ⟨a1, a2, a3, a4, a5, a6⟩ := h
  refine ⟨a1, by rw [up_other (by decide)]; exact a2, by rw [up_same]; exact hx, fun i hi => ?_, fun i hi => by rw [up_other (by omega)]; exact a5 i hi, fun i hi => by rw [up_other (by omega)]; exact a6 i hi⟩
  rw [up_other (by omega), up_other (by omega), up_other (by omega), up_other (by omega)]
  exact a4 i hi
theorem fr_line {n : Nat} {f : Nat → Int32} {x : Int32} (h : FR n f) : FR n (upd f 3 x) := by
  obtain ⟨a1, a2, a3, a4, a5, a6⟩ := h
  refine ⟨a1, by rw [up_other (by decide)]; exact a2, by rw [up_other (by decide)]; exact a3, fun i hi => ?_, fun i hi => by rw [up_other (by omega)]; exact a5 i hi, fun i hi => by rw [up_other (by omega)]; exact a6 i hi⟩
  rw [up_other (by omega), up_other (by omega), up_other (by omega), up_other (by omega)]
  exact a4 i hi
theorem fr_blow {n k : Nat} {f : Nat → Int32} {x : Int32} (h : FR n f) (hk : k < 10) (hx : bd x (n + 1)) : FR n (upd f (84 + k) x) := by
  obtain ⟨a1, a2, a3, a4, a5, a6⟩ := h
  refine ⟨a1, by rw [up_other (by omega)]; exact a2, by rw [up_other (by omega)]; exact a3, fun i hi => ?_, fun i hi => by rw [up_other (by omega)]; exact a5 i hi, fun i hi => ?_⟩
  · rw [up_other (by omega), up_other (by omega), up_other (by omega), up_other (by omega)]
    exact a4 i hi
  · by_cases e : i = k
    · subst e; rw [up_same]; exact hx
    · rw [up_other (by omega)]; exact a6 i hi
theorem fr_add {n : Nat} {f g : Nat → Int32} (h : FR n f) (hn : n < 10) (h0 : g 0 = nI (n + 1)) (h2 : g 2 = f 2) (hs : ∀ j, (∀ b, b = 0 ∨ b = 4 + n ∨ b = 14 + n ∨ b = 24 + n ∨ b = 34 + n ∨ b = 44 + n ∨ b = 54 + n → j ≠ b) → g j = f j) (b4 : bd (g (4 + n)) 61) (b14 : bd (g (14 + n)) 31) (b24 : bd (g (24 + n)) 256) (b54 : bd (g (54 + n)) 21) : FR (n + 1) g := by
  obtain ⟨a1, a2, a3, a4, a5, a6⟩ := h
  refine ⟨by omega, h0, by rw [h2]; exact a3, fun i hi => ?_, fun i hi => by rw [hs _ (by intros; omega)]; exact a5 i hi, fun i hi => by rw [hs _ (by intros; omega)]; exact bd_le (a6 i hi) (by omega)⟩
  by_cases e : i = n
  · subst e; exact ⟨b14, b24, b54, b4⟩
  · rw [hs (14 + i) (by intros; omega), hs (24 + i) (by intros; omega), hs (54 + i) (by intros; omega), hs (4 + i) (by intros; omega)]
    exact a4 i (by omega)
theorem rg_bd {x : Int32} {b : Nat} (h : ¬ x < nI 0 ∧ ¬ nI b < x) (hb : b < 1000) : bd x (b + 1) := by
  obtain ⟨j, h1, h2, e⟩ := g_rng (by decide) (by omega) h.1 h.2
  exact ⟨j, by omega, e⟩
theorem rg_or {x : Int32} {b c : Nat} (h : (¬ x < nI 0 ∧ ¬ nI b < x) ∨ x = nI c) (hb : b < 1000) (hc : c ≤ b) : bd x (b + 1) := by
  rcases h with h | h
  · exact rg_bd h hb
  · rw [h]; exact bd_nI (by omega)
