/-- a number from 0 on, below b -/
def bd (x : Int32) (b : Nat) : Prop := ∃ j : Nat, j < b ∧ x = nI j
theorem bd_ex {x : Int32} {b : Nat} (h : bd x b) : ∃ j : Nat, j < b ∧ x = nI j := h
theorem bd_nI {j b : Nat} (h : j < b) : bd (nI j) b := ⟨j, h, rfl⟩
theorem bd_le {x : Int32} {a b : Nat} (h : bd x a) (hab : a ≤ b) : bd x b := by obtain ⟨j, hj, e⟩ := h; exact ⟨j, by omega, e⟩
theorem up_same {f : Nat → Int32} {k : Nat} {x : Int32} : upd f k x k = x := by simp [upd]
theorem up_other {f : Nat → Int32} {k j : Nat} {x : Int32} (h : j ≠ k) : upd f k x j = f j := by simp [upd, h]
/-- what holds of all elements holds behind a store -/
theorem up_all {f : Nat → Int32} {k n : Nat} {x : Int32} {p : Int32 → Prop} (h : ∀ i, i < n → p (f i)) (hx : k < n → p x) : ∀ i, i < n → p (upd f k x i) := by
  intro i hi
  by_cases e : i = k
  · subst e; rw [up_same]; exact hx hi
  · rw [up_other e]; exact h i hi
/-- one element more -/
theorem up_one {f : Nat → Int32} {k : Nat} {x : Int32} {p : Nat → Int32 → Prop} (h : ∀ i, i < k → p i (f i)) (hx : p k x) : ∀ i, i < k + 1 → p i (upd f k x i) := by
  intro i hi
  by_cases e : i = k
  · subst e; rw [up_same]; exact hx
  · rw [up_other e]; exact h i (by omega)
theorem upL_same {f : Nat → Int64} {k : Nat} {x : Int64} : vp_updL f k x k = x := by simp [vp_updL]
theorem upL_other {f : Nat → Int64} {k j : Nat} {x : Int64} (h : j ≠ k) : vp_updL f k x j = f j := by simp [vp_updL, h]
theorem g_idx {x : Int32} {n : Nat} (hn : n < 2147483648) (h0 : ¬ x < 0) (h1 : ¬ nI n ≤ x) : ∃ j : Nat, j < n ∧ x = nI j := by
  rcases pk_ix x (n := n) hn with h | h | h
  · exact absurd h h0
  · exact absurd h h1
  · exact h
theorem g_rng {x : Int32} {a b : Nat} (ha : a < 2147483648) (hb : b < 2147483647) (h1 : ¬ x < nI a) (h2 : ¬ nI b < x) : ∃ j : Nat, a ≤ j ∧ j ≤ b ∧ x = nI j := by
  have h0 : ¬ x < 0 := fun h => h1 (by rw [Int32.lt_iff_toInt_lt] at h ⊢; rw [nI_toInt ha]; have : (0 : Int32).toInt = 0 := by decide
                                       omega)
  obtain ⟨j, hj, rfl⟩ := nI_of h0
  exact ⟨j, b_nlt hj ha h1, b_nlt (by omega) hj h2, rfl⟩
theorem pw10 {n : Nat} (h : n ≤ 10) : 1 ≤ 2 ^ n ∧ 2 ^ n ≤ 1024 := ⟨Nat.one_le_two_pow, Nat.pow_le_pow_right (by decide) h⟩
theorem pw3 {n : Nat} (h : n ≤ 3) : 1 ≤ 2 ^ n ∧ 2 ^ n ≤ 8 := ⟨Nat.one_le_two_pow, Nat.pow_le_pow_right (by decide) h⟩
theorem shl_pow {n : Nat} (h : n ≤ 30) : nI 1 <<< (nI n &&& 31) = nI (2 ^ n) := by
  have h3 : ∀ m : Fin 31, nI 1 <<< (nI m.1 &&& 31) = nI (2 ^ m.1) := by decide +kernel
  exact h3 ⟨n, by omega⟩
theorem lay_skip {g : Nat → Int32} {n k : Nat} (hg : ∀ i, i < n → (bd (g i) n ∨ (g i = -1 ∧ k ≤ i))) (c : ¬ g k = -1) : ∀ i, i < n → (bd (g i) n ∨ (g i = -1 ∧ k + 1 ≤ i)) := by
  intro i hi
  rcases hg i hi with h | ⟨h1, h2⟩
  · exact Or.inl h
  · refine Or.inr ⟨h1, ?_⟩
    have : i ≠ k := fun e => c (e ▸ h1)
    omega
theorem lay_put {g : Nat → Int32} {n k : Nat} {x : Int32} (hg : ∀ i, i < n → (bd (g i) n ∨ (g i = -1 ∧ k ≤ i))) (hx : bd x n) : ∀ i, i < n → (bd (upd g k x i) n ∨ (upd g k x i = -1 ∧ k + 1 ≤ i)) := by
  intro i hi
  by_cases e : i = k
  · subst e; rw [up_same]; exact Or.inl hx
  · rw [up_other e]
    rcases hg i hi with h | ⟨h1, h2⟩
    · exact Or.inl h
    · exact Or.inr ⟨h1, by omega⟩

/-- a number as a ROW of a sort keeps it -/
def cutv (sort : Nat) (v : Int64) : Int64 := if sort = 0 then v.toInt32.toInt8.toInt32.toInt64 else if sort = 1 then v.toInt32.toInt16.toInt32.toInt64 else if sort = 2 then v.toInt32.toInt64 else v

theorem upL_one {f : Nat → Int64} {k : Nat} {x : Int64} {p : Nat → Int64 → Prop} (h : ∀ i, i < k → p i (f i)) (hx : p k x) : ∀ i, i < k + 1 → p i (vp_updL f k x i) := by
  intro i hi
  by_cases e : i = k
  · subst e; rw [upL_same]; exact hx
  · rw [upL_other e]; exact h i (by omega)

/-- the char at k of a string constant -/
def sch (i k : Nat) : Int32 := (((sByt.getD i []).getD k 0 &&& nI 255).toUInt32 % 65536).toInt32
theorem slen_le {i : Nat} (h : i < 9) : sLen.getD i 0 ≤ 44 := by
  have : ∀ i : Fin 9, sLen.getD i.1 0 ≤ 44 := by decide +kernel
  exact this ⟨i, h⟩
theorem sch_nar {i k : Nat} (h : i < 9) (hk : k < 44) : narrow .char (.int (sch i k)) = .int (sch i k) := by
  have : ∀ (i : Fin 9) (k : Fin 44), narrow .char (.int (sch i.1 k.1)) = .int (sch i.1 k.1) := by decide +kernel
  exact this ⟨i, h⟩ ⟨k, hk⟩
theorem shr0 (x : Int32) : x >>> (nI 0 &&& 31) = x := by
  rw [show nI 0 &&& 31 = 0 by decide +kernel]
  exact Int32.shiftRight_zero

theorem nI_sub {a b : Nat} (h : b ≤ a) : nI a - nI b = nI (a - b) := by
  obtain ⟨c, rfl⟩ : ∃ c, a = c + b := ⟨a - b, by omega⟩
  rw [← nI_add, Nat.add_sub_cancel, Int32.add_sub_cancel]
theorem hash_bd (x : Int64) : bd ((x.toUInt64 >>> ((nI 51).toInt64.toUInt64 &&& Int64.toUInt64 63)).toInt64.toInt32) 8192 := by
  have e1 : ((nI 51).toInt64.toUInt64 &&& Int64.toUInt64 63) = 51 := by decide +kernel
  rw [e1]
  refine ⟨x.toUInt64.toNat / 2 ^ 51, ?_, ?_⟩
  · have := x.toUInt64.toNat_lt
    omega
  · have e2 : (x.toUInt64 >>> 51).toNat = x.toUInt64.toNat / 2 ^ 51 := by
      rw [UInt64.toNat_shiftRight]
      simp [Nat.shiftRight_eq_div_pow]
    have h3 : x.toUInt64.toNat / 2 ^ 51 < 8192 := by have := x.toUInt64.toNat_lt; omega
    generalize x.toUInt64 >>> 51 = y at e2
    apply Int32.toBitVec_inj.mp
    apply BitVec.eq_of_toNat_eq
    rw [← e2] at h3 ⊢
    have : y.toInt64.toInt32.toBitVec = y.toBitVec.setWidth 32 := by
      show (y.toInt64.toBitVec).signExtend 32 = _
      rw [BitVec.signExtend_eq_setWidth_of_le _ (by decide)]
      rfl
    rw [this]
    show _ = (BitVec.ofNat 32 y.toNat).toNat
    simp
theorem or8 {a b : Nat} (ha : a < 8) (hb : b < 8) : bd (nI a ||| nI b) 8 := by
  have h : ∀ x y : Fin 8, bd (nI x.1 ||| nI y.1) 8 := by
    intro x y
    refine ⟨x.1 ||| y.1, ?_, ?_⟩
    · exact (Nat.or_lt_two_pow (n := 3) x.2 y.2)
    · revert x y; decide +kernel
  exact h ⟨a, ha⟩ ⟨b, hb⟩
theorem pw_lt3 {k : Nat} (h : k < 3) : 2 ^ k < 8 := Nat.pow_lt_pow_right (by decide) h

theorem min_nI {a b : Nat} (ha : a < 2147483648) (hb : b < 2147483648) : (if nI b < nI a then nI b else nI a) = nI (min a b) := by
  by_cases h : b < a
  · rw [if_pos ((nI_ltI hb ha).mpr h), Nat.min_eq_right (by omega)]
  · rw [if_neg (fun e => h ((nI_ltI hb ha).mp e)), Nat.min_eq_left (by omega)]
theorem z_dec : (nI 0 : Int32) = 0 := by decide +kernel

theorem pred_bd {n : Nat} {z : Int32} (hn : n ≤ 10) (h1 : ¬ z < nI 0) (h2 : ¬ nI n - nI 1 < z) : bd z n := by
  by_cases h0 : n = 0
  · subst h0
    exfalso
    have e : nI 0 - nI 1 = -1 := by decide +kernel
    rw [e] at h2
    rw [Int32.lt_iff_toInt_lt] at h1 h2
    have a1 : (nI 0).toInt = 0 := by decide +kernel
    have a2 : (-1 : Int32).toInt = -1 := by decide +kernel
    omega
  · rw [nI_sub (by omega)] at h2
    obtain ⟨j, hj1, hj2, e⟩ := g_rng (by decide) (by omega) h1 h2
    exact ⟨j, by omega, e⟩
