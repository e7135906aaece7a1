/-! the text, read TOKEN by TOKEN: what both do, as functions of the text -/
def blkB (x : Int32) : Bool := decide (x = nI 10) || decide (x = nI 32)
def smB (x : Int32) : Bool := decide (¬ x < nI 97) && decide (¬ nI 122 < x)
def dgB (x : Int32) : Bool := decide (¬ x < nI 48) && decide (¬ nI 57 < x)
/-- how far it goes on -/
def rnF (p : Int32 → Bool) (t : Nat → Int32) (sz : Nat) : Nat → Nat → Nat
  | 0, b => b
  | f + 1, b => if b < sz ∧ p (t b) = true then rnF p t sz f (b + 1) else b
def rn (p : Int32 → Bool) (t : Nat → Int32) (sz b : Nat) : Nat := rnF p t sz (sz - b) b
theorem rn_go {p : Int32 → Bool} {t : Nat → Int32} {sz b : Nat} (h : b < sz) (hp : p (t b) = true) : rn p t sz b = rn p t sz (b + 1) := by
  unfold rn
  rw [show sz - b = (sz - (b + 1)) + 1 by omega]
  show (if b < sz ∧ p (t b) = true then rnF p t sz (sz - (b + 1)) (b + 1) else b) = _
  rw [if_pos ⟨h, hp⟩]
theorem rn_end {p : Int32 → Bool} {t : Nat → Int32} {sz b : Nat} (h : sz ≤ b) : rn p t sz b = b := by
  unfold rn
  rw [show sz - b = 0 by omega]
  rfl
theorem rn_no {p : Int32 → Bool} {t : Nat → Int32} {sz b : Nat} (hp : ¬ p (t b) = true) : rn p t sz b = b := by
  unfold rn
  cases sz - b with
  | zero => rfl
  | succ f =>
    show (if b < sz ∧ p (t b) = true then rnF p t sz f (b + 1) else b) = b
    rw [if_neg (fun h => hp h.2)]
theorem rnF_all {p : Int32 → Bool} {t : Nat → Int32} {sz : Nat} : ∀ (f b : Nat), b ≤ sz → (b ≤ rnF p t sz f b ∧ rnF p t sz f b ≤ sz ∧ ∀ j, b ≤ j → j < rnF p t sz f b → p (t j) = true)
  | 0, b, h => ⟨Nat.le_refl _, h, fun j h1 h2 => absurd h2 (Nat.not_lt.mpr h1)⟩
  | f + 1, b, h => by
    show b ≤ (if b < sz ∧ p (t b) = true then rnF p t sz f (b + 1) else b) ∧ (if b < sz ∧ p (t b) = true then rnF p t sz f (b + 1) else b) ≤ sz ∧ ∀ j, b ≤ j → j < (if b < sz ∧ p (t b) = true then rnF p t sz f (b + 1) else b) → p (t j) = true
    by_cases c : b < sz ∧ p (t b) = true
    · rw [if_pos c]
      obtain ⟨h1, h2, h3⟩ := rnF_all f (b + 1) c.1
      refine ⟨by omega, h2, fun j hj hj2 => ?_⟩
      by_cases e : j = b
      · rw [e]; exact c.2
      · exact h3 j (by omega) hj2
    · rw [if_neg c]
      exact ⟨Nat.le_refl _, h, fun j h1 h2 => absurd h2 (Nat.not_lt.mpr h1)⟩
theorem rn_ge {p : Int32 → Bool} {t : Nat → Int32} {sz b : Nat} (h : b ≤ sz) : b ≤ rn p t sz b := (rnF_all _ b h).1
theorem rn_le {p : Int32 → Bool} {t : Nat → Int32} {sz b : Nat} (h : b ≤ sz) : rn p t sz b ≤ sz := (rnF_all _ b h).2.1
theorem rn_all {p : Int32 → Bool} {t : Nat → Int32} {sz b : Nat} (h : b ≤ sz) : ∀ j, b ≤ j → j < rn p t sz b → p (t j) = true := (rnF_all _ b h).2.2
theorem rn_gt {p : Int32 → Bool} {t : Nat → Int32} {sz b : Nat} (h : b < sz) (hp : p (t b) = true) : b + 1 ≤ rn p t sz b := by
  rw [rn_go h hp]; exact rn_ge h
/-- the TOKEN is the word i -/
def wMt (t : Nat → Int32) (a b i : Nat) : Prop := b = a + sLen.getD i 0 ∧ ∀ k, k < sLen.getD i 0 → t (a + k) = sch i k
theorem wMt_one {t : Nat → Int32} {a b i j : Nat} (hi : i < 8) (hj : j < 8) (h1 : wMt t a b i) (h2 : wMt t a b j) : i = j := by
  have H : ∀ i j : Fin 8, i ≠ j → sLen.getD i.1 0 = sLen.getD j.1 0 → ∃ k : Fin 5, k.1 < sLen.getD i.1 0 ∧ sch i.1 k.1 ≠ sch j.1 k.1 := by decide +kernel
  apply Classical.byContradiction
  intro hne
  have el : sLen.getD i 0 = sLen.getD j 0 := by have := h1.1; have := h2.1; omega
  obtain ⟨k, hk, hk2⟩ := H ⟨i, hi⟩ ⟨j, hj⟩ (fun e => hne (Fin.mk.inj e)) el
  exact hk2 ((h1.2 k.1 hk).symm.trans (h2.2 k.1 (el ▸ hk)))
noncomputable def keyOf (t : Nat → Int32) (a b : Nat) : Nat := by classical exact if h : ∃ i, i < 8 ∧ wMt t a b i then h.choose else 8
theorem keyOf_is {t : Nat → Int32} {a b i : Nat} (hi : i < 8) (h : wMt t a b i) : keyOf t a b = i := by
  unfold keyOf
  have hx : ∃ i, i < 8 ∧ wMt t a b i := ⟨i, hi, h⟩
  rw [dif_pos hx]
  exact wMt_one hx.choose_spec.1 hi hx.choose_spec.2 h
theorem keyOf_no {t : Nat → Int32} {a b : Nat} (h : ∀ i, i < 8 → ¬ wMt t a b i) : keyOf t a b = 8 := by
  unfold keyOf
  rw [dif_neg (fun hx => h hx.choose hx.choose_spec.1 hx.choose_spec.2)]
theorem keyOf_iff {t : Nat → Int32} {a b i : Nat} (hi : i < 8) : keyOf t a b = i ↔ wMt t a b i := by
  refine ⟨fun h => ?_, keyOf_is hi⟩
  apply Classical.byContradiction
  intro hn
  by_cases hx : ∃ j, j < 8 ∧ wMt t a b j
  · obtain ⟨j, hj, hw⟩ := hx
    have := keyOf_is hj hw
    rw [h] at this
    subst this
    exact hn hw
  · have := keyOf_no (t := t) (a := a) (b := b) (fun j hj hw => hx ⟨j, hj, hw⟩)
    omega
theorem keyOf_le (t : Nat → Int32) (a b : Nat) : keyOf t a b ≤ 8 := by
  by_cases hx : ∃ j, j < 8 ∧ wMt t a b j
  · obtain ⟨j, hj, hw⟩ := hx
    rw [keyOf_is hj hw]; omega
  · rw [keyOf_no (fun j hj hw => hx ⟨j, hj, hw⟩)]; exact Nat.le_refl _
/-- the worth of k digits -/
def nuV (t : Nat → Int32) (a : Nat) : Nat → Int32
  | 0 => nI 0
  | k + 1 => nI 10 * nuV t a k + t (a + k) - nI 48
/-- where the TOKEN at a ends, its kind, its worth -/
def tkB (t : Nat → Int32) (sz a : Nat) : Nat := if a < sz then (if smB (t a) = true then rn smB t sz a else if dgB (t a) = true then rn dgB t sz a else a + 1) else a
noncomputable def tkK (t : Nat → Int32) (sz a b : Nat) : Nat := if a < sz then (if smB (t a) = true then keyOf t a b else if dgB (t a) = true then (if 3 < b - a then 12 else 9) else if t a = nI 59 then 10 else 12) else 11
def tkN (t : Nat → Int32) (sz a b : Nat) (o : Int32) : Int32 := if a < sz ∧ ¬ smB (t a) = true ∧ dgB (t a) = true then nuV t a (min 3 (b - a)) else o
/-- where the reading is: TOKEN from, to, kind, worth; the FAULT, its place -/
abbrev PS := Nat × Nat × Nat × Int32 × Nat × Int32
/-- kept from omega -/
def Hid (P : Prop) : Prop := P
theorem hid {P : Prop} (h : P) : Hid P := h
theorem unh {P : Prop} (h : Hid P) : P := h
noncomputable def nxS (t : Nat → Int32) (sz : Nat) (p : PS) : PS :=
  (rn blkB t sz p.2.1, tkB t sz (rn blkB t sz p.2.1), tkK t sz (rn blkB t sz p.2.1) (tkB t sz (rn blkB t sz p.2.1)), tkN t sz (rn blkB t sz p.2.1) (tkB t sz (rn blkB t sz p.2.1)) p.2.2.2.1, p.2.2.2.2.1, p.2.2.2.2.2)
def faS (f : Nat) (p : PS) : PS := if p.2.2.2.2.1 = 0 then (p.1, p.2.1, p.2.2.1, p.2.2.2.1, (if p.2.2.1 = 12 then 1 else f), nI p.1) else p
noncomputable def tkS (t : Nat → Int32) (sz : Nat) (lo hi : Int32) (p : PS) : PS :=
  if p.2.2.2.2.1 = 0 ∧ p.2.2.1 = 9 then (if p.2.2.2.1 < lo ∨ hi < p.2.2.2.1 then faS 3 p else nxS t sz p) else faS 2 p
noncomputable def tiS (t : Nat → Int32) (sz k : Nat) (lo hi : Int32) (p : PS) : PS := if p.2.2.2.2.1 = 0 ∧ p.2.2.1 = k then tkS t sz lo hi (nxS t sz p) else p
noncomputable def tiV (t : Nat → Int32) (sz k : Nat) (wo : Int32) (p : PS) : Int32 := if p.2.2.2.2.1 = 0 ∧ p.2.2.1 = k then (nxS t sz p).2.2.2.1 else wo
theorem nx_eq {t : Nat → Int32} {sz a b k w : Nat} {nu wa : Int32} {p : PS} (ha : a = rn blkB t sz p.2.1) (hb : b = tkB t sz a) (hk : k = tkK t sz a b) (hn : nu = tkN t sz a b p.2.2.2.1) (hw : w = p.2.2.2.2.1) (hwa : wa = p.2.2.2.2.2) : (a, b, k, nu, w, wa) = nxS t sz p := by
  subst ha; subst hb; subst hk; subst hn; subst hw; subst hwa; rfl
theorem tkB_le {t : Nat → Int32} {sz a : Nat} (h : a ≤ sz) : a ≤ tkB t sz a ∧ tkB t sz a ≤ sz := by
  unfold tkB
  split
  · split
    · exact ⟨rn_ge h, rn_le h⟩
    · split
      · exact ⟨rn_ge h, rn_le h⟩
      · omega
  · omega
theorem tkB_lt {t : Nat → Int32} {sz a : Nat} (h : a < sz) : a < tkB t sz a := by
  unfold tkB
  rw [if_pos h]
  split
  · rename_i c; exact rn_gt h c
  · split
    · rename_i c; exact rn_gt h c
    · omega
theorem tkK_le (t : Nat → Int32) (sz a b : Nat) : tkK t sz a b ≤ 12 := by
  unfold tkK
  have := keyOf_le t a b
  split
  · split
    · omega
    · split
      · split <;> omega
      · split <;> omega
  · omega
/-- what holds of the reading -/
def PI (t : Nat → Int32) (sz : Nat) (p : PS) : Prop := p.1 ≤ p.2.1 ∧ p.2.1 ≤ sz ∧ p.2.2.1 ≤ 12 ∧ p.2.2.2.2.1 ≤ 4 ∧ p.2.2.1 = tkK t sz p.1 p.2.1 ∧ p.2.1 = tkB t sz p.1 ∧ (p.2.2.1 = 9 → p.2.2.2.1 = nuV t p.1 (p.2.1 - p.1) ∧ p.2.1 - p.1 ≤ 3)
theorem dg_not_sm {x : Int32} (h : dgB x = true) : ¬ smB x = true := by
  intro h2
  simp only [dgB, smB, Bool.and_eq_true, decide_eq_true_eq] at h h2
  have a1 := h.2
  have a2 := h2.1
  rw [Int32.lt_iff_toInt_lt] at a1 a2
  have e1 : (nI 57).toInt = 57 := by decide +kernel
  have e2 : (nI 97).toInt = 97 := by decide +kernel
  omega
theorem tk9 {t : Nat → Int32} {sz a b : Nat} (h : tkK t sz a b = 9) : a < sz ∧ ¬ smB (t a) = true ∧ dgB (t a) = true ∧ b - a ≤ 3 := by
  unfold tkK at h
  have := keyOf_le t a b
  by_cases c1 : a < sz
  · rw [if_pos c1] at h
    by_cases c2 : smB (t a) = true
    · rw [if_pos c2] at h; omega
    · rw [if_neg c2] at h
      by_cases c3 : dgB (t a) = true
      · rw [if_pos c3] at h
        by_cases c4 : 3 < b - a
        · rw [if_pos c4] at h; omega
        · exact ⟨c1, c2, c3, by omega⟩
      · rw [if_neg c3] at h
        split at h <;> omega
  · rw [if_neg c1] at h; omega
theorem PI_nx {t : Nat → Int32} {sz : Nat} {p : PS} (hb : p.2.1 ≤ sz) (hw : p.2.2.2.2.1 ≤ 4) : PI t sz (nxS t sz p) := by
  have h1 := rn_le (p := blkB) (t := t) hb
  have h2 := tkB_le (t := t) h1
  refine ⟨h2.1, h2.2, tkK_le _ _ _ _, hw, rfl, rfl, fun h9 => ?_⟩
  have h9' : tkK t sz (rn blkB t sz p.2.1) (tkB t sz (rn blkB t sz p.2.1)) = 9 := h9
  obtain ⟨q1, q2, q3, q4⟩ := tk9 h9'
  refine ⟨?_, q4⟩
  show tkN t sz (rn blkB t sz p.2.1) (tkB t sz (rn blkB t sz p.2.1)) p.2.2.2.1 = _
  unfold tkN
  rw [if_pos ⟨q1, q2, q3⟩, Nat.min_eq_right q4]
  rfl
theorem fa_n0 {f : Nat} {p : PS} (h : ¬ p.2.2.2.2.1 = 0) : faS f p = p := by unfold faS; rw [if_neg h]
theorem fa_0 {f : Nat} {p : PS} (h : p.2.2.2.2.1 = 0) (h2 : ¬ p.2.2.1 = 12) : faS f p = (p.1, p.2.1, p.2.2.1, p.2.2.2.1, f, nI p.1) := by unfold faS; rw [if_pos h, if_neg h2]
theorem fa_12 {f : Nat} {p : PS} (h : p.2.2.2.2.1 = 0) (h2 : p.2.2.1 = 12) : faS f p = (p.1, p.2.1, p.2.2.1, p.2.2.2.1, 1, nI p.1) := by unfold faS; rw [if_pos h, if_pos h2]
theorem fa_nu {f : Nat} {p : PS} : (faS f p).2.2.2.1 = p.2.2.2.1 := by unfold faS; split <;> rfl
theorem fa_w {f : Nat} {p : PS} (hf : ¬ f = 0) : ¬ (faS f p).2.2.2.2.1 = 0 := by
  by_cases h : p.2.2.2.2.1 = 0
  · by_cases h2 : p.2.2.1 = 12
    · rw [fa_12 h h2]; exact Nat.one_ne_zero
    · rw [fa_0 h h2]; exact hf
  · rw [fa_n0 h]; exact h
theorem PI_fa {t : Nat → Int32} {sz f : Nat} {p : PS} (h : PI t sz p) (hf : f ≤ 4) : PI t sz (faS f p) := by
  by_cases h0 : p.2.2.2.2.1 = 0
  · obtain ⟨a1, a2, a3, a4, a6, a7, a8⟩ := h
    by_cases h2 : p.2.2.1 = 12
    · rw [fa_12 h0 h2]; exact ⟨a1, a2, a3, by show 1 ≤ 4; omega, a6, a7, a8⟩
    · rw [fa_0 h0 h2]; exact ⟨a1, a2, a3, hf, a6, a7, a8⟩
  · rw [fa_n0 h0]; exact h
theorem PI_nxI {t : Nat → Int32} {sz : Nat} {p : PS} (h : PI t sz p) : PI t sz (nxS t sz p) := PI_nx h.2.1 h.2.2.2.1
theorem PI_tk {t : Nat → Int32} {sz : Nat} {lo hi : Int32} {p : PS} (h : PI t sz p) : PI t sz (tkS t sz lo hi p) := by
  unfold tkS
  split
  · split
    · exact PI_fa h (by decide)
    · exact PI_nxI h
  · exact PI_fa h (by decide)
theorem PI_ti {t : Nat → Int32} {sz k : Nat} {lo hi : Int32} {p : PS} (h : PI t sz p) : PI t sz (tiS t sz k lo hi p) := by
  unfold tiS
  split
  · exact PI_tk (PI_nxI h)
  · exact h
/-- the words of the reference's text of words -/
def wst (n : Nat) : Nat := [1, 7, 12, 17, 21, 26, 32, 38, 44].getD n 44
theorem ky_at {n j kk : Nat} (hn : n < 8) (hk : kk = wst n) (hj : j < sLen.getD n 0) : sch 8 (kk + j) = sch n j := by
  have H : ∀ (n : Fin 8) (j : Fin 5), j.1 < sLen.getD n.1 0 → sch 8 (wst n.1 + j.1) = sch n.1 j.1 := by decide +kernel
  have L : ∀ n : Fin 8, sLen.getD n.1 0 ≤ 5 := by decide +kernel
  have := L ⟨n, hn⟩
  rw [hk]
  exact H ⟨n, hn⟩ ⟨j, Nat.lt_of_lt_of_le hj this⟩ hj
theorem ky_sp {n : Nat} (hn : n < 8) : sch 8 (wst n + sLen.getD n 0) = nI 32 := by
  have H : ∀ n : Fin 8, sch 8 (wst n.1 + sLen.getD n.1 0) = nI 32 := by decide +kernel
  exact H ⟨n, hn⟩
theorem ky_ns {n j : Nat} (hn : n < 8) (hj : j < sLen.getD n 0) : ¬ sch 8 (wst n + j) = nI 32 := by
  have H : ∀ (n : Fin 8) (j : Fin 5), j.1 < sLen.getD n.1 0 → ¬ sch 8 (wst n.1 + j.1) = nI 32 := by decide +kernel
  have L : ∀ n : Fin 8, sLen.getD n.1 0 ≤ 5 := by decide +kernel
  have := L ⟨n, hn⟩
  exact H ⟨n, hn⟩ ⟨j, Nat.lt_of_lt_of_le hj this⟩ hj
theorem ky_nx {n : Nat} (hn : n < 8) : wst n + sLen.getD n 0 + 1 = wst (n + 1) ∧ wst n + sLen.getD n 0 ≤ 43 ∧ 1 ≤ wst n := by
  have H : ∀ n : Fin 8, wst n.1 + sLen.getD n.1 0 + 1 = wst (n.1 + 1) ∧ wst n.1 + sLen.getD n.1 0 ≤ 43 ∧ 1 ≤ wst n.1 := by decide +kernel
  exact H ⟨n, hn⟩
theorem ky_8 {n : Nat} (hn : n ≤ 8) : wst n ≤ 44 ∧ (n < 8 → wst n < 44) := by
  have H : ∀ n : Fin 9, wst n.1 ≤ 44 ∧ (n.1 < 8 → wst n.1 < 44) := by decide +kernel
  exact H ⟨n, by omega⟩
theorem ky_lt {n x kk : Nat} {z : Int32} (hn : n < 8) (hk : kk = wst n) (h1 : kk ≤ x) (h2 : x ≤ kk + sLen.getD n 0) (e : z = sch 8 x) (c : ¬ z = nI 32) : x < kk + sLen.getD n 0 := by
  rcases Nat.lt_or_eq_of_le h2 with h | h
  · exact h
  · exfalso; apply c; rw [e, h, hk]; exact ky_sp hn
theorem ky_eq {n x kk : Nat} {z : Int32} (hn : n < 8) (hk : kk = wst n) (h1 : kk ≤ x) (h2 : x ≤ kk + sLen.getD n 0) (e : z = sch 8 x) (c : z = nI 32) : x = kk + sLen.getD n 0 := by
  rcases Nat.lt_or_eq_of_le h2 with h | h
  · exfalso
    obtain ⟨j, rfl⟩ : ∃ j, x = kk + j := ⟨x - kk, by omega⟩
    rw [e, hk] at c
    exact ky_ns hn (by omega) c
  · exact h
theorem mt_one {t : Nat → Int32} {a n ki : Nat} (h : ∀ j, j < ki → t (a + j) = sch n j) (e : t (a + ki) = sch n ki) : ∀ j, j < ki + 1 → t (a + j) = sch n j := by
  intro j hj
  by_cases c : j = ki
  · rw [c]; exact e
  · exact h j (by omega)
theorem no_one {t : Nat → Int32} {a b n : Nat} (h : ∀ m, m < n → ¬ wMt t a b m) (e : ¬ wMt t a b n) : ∀ m, m < n + 1 → ¬ wMt t a b m := by
  intro j hj
  by_cases c : j = n
  · rw [c]; exact e
  · exact h j (by omega)
theorem rn_st {p : Int32 → Bool} {t : Nat → Int32} {sz a b : Nat} (h : rn p t sz a = rn p t sz b) (h2 : rn p t sz a = a) : a = rn p t sz b := h2.symm.trans h
theorem blk_1 {x y : Int32} (e : x = y) (h : x = nI 10) : blkB y = true := by rw [← e, h]; decide +kernel
theorem blk_2 {x y : Int32} (e : x = y) (h : x = nI 32) : blkB y = true := by rw [← e, h]; decide +kernel
theorem blk_no {x x2 y : Int32} (e : x = y) (e2 : x2 = y) (h : ¬ x = nI 10) (h2 : ¬ x2 = nI 32) : ¬ blkB y = true := by
  subst e; subst e2
  simp only [blkB, Bool.or_eq_true, decide_eq_true_eq]
  exact fun q => q.elim h h2
theorem sm_m1 : ¬ smB (-1) = true := by decide +kernel
theorem dg_m1 : ¬ dgB (-1) = true := by decide +kernel
theorem tkB_w {t : Nat → Int32} {sz a : Nat} (h : a < sz) (hs : smB (t a) = true) : tkB t sz a = rn smB t sz a := by unfold tkB; rw [if_pos h, if_pos hs]
theorem tkK_w {t : Nat → Int32} {sz a b : Nat} (h : a < sz) (hs : smB (t a) = true) : tkK t sz a b = keyOf t a b := by unfold tkK; rw [if_pos h, if_pos hs]
theorem tkN_w {t : Nat → Int32} {sz a b : Nat} {o : Int32} (hs : smB (t a) = true) : tkN t sz a b o = o := by unfold tkN; rw [if_neg (fun h => h.2.1 hs)]
theorem tkB_d {t : Nat → Int32} {sz a : Nat} (h : a < sz) (hs : ¬ smB (t a) = true) (hd : dgB (t a) = true) : tkB t sz a = rn dgB t sz a := by unfold tkB; rw [if_pos h, if_neg hs, if_pos hd]
theorem tkK_d9 {t : Nat → Int32} {sz a b : Nat} (h : a < sz) (hs : ¬ smB (t a) = true) (hd : dgB (t a) = true) (hb : b - a ≤ 3) : tkK t sz a b = 9 := by unfold tkK; rw [if_pos h, if_neg hs, if_pos hd, if_neg (by omega)]
theorem tkK_d12 {t : Nat → Int32} {sz a b : Nat} (h : a < sz) (hs : ¬ smB (t a) = true) (hd : dgB (t a) = true) (hb : 3 < b - a) : tkK t sz a b = 12 := by unfold tkK; rw [if_pos h, if_neg hs, if_pos hd, if_pos hb]
theorem tkN_d {t : Nat → Int32} {sz a b : Nat} {o : Int32} (h : a < sz) (hs : ¬ smB (t a) = true) (hd : dgB (t a) = true) : tkN t sz a b o = nuV t a (min 3 (b - a)) := by unfold tkN; rw [if_pos ⟨h, hs, hd⟩]
theorem tkB_s {t : Nat → Int32} {sz a : Nat} (h : a < sz) (hs : ¬ smB (t a) = true) (hd : ¬ dgB (t a) = true) : tkB t sz a = a + 1 := by unfold tkB; rw [if_pos h, if_neg hs, if_neg hd]
theorem tkK_10 {t : Nat → Int32} {sz a b : Nat} (h : a < sz) (hs : ¬ smB (t a) = true) (hd : ¬ dgB (t a) = true) (he : t a = nI 59) : tkK t sz a b = 10 := by unfold tkK; rw [if_pos h, if_neg hs, if_neg hd, if_pos he]
theorem tkK_12 {t : Nat → Int32} {sz a b : Nat} (h : a < sz) (hs : ¬ smB (t a) = true) (hd : ¬ dgB (t a) = true) (he : ¬ t a = nI 59) : tkK t sz a b = 12 := by unfold tkK; rw [if_pos h, if_neg hs, if_neg hd, if_neg he]
theorem tkN_s {t : Nat → Int32} {sz a b : Nat} {o : Int32} (hd : ¬ dgB (t a) = true) : tkN t sz a b o = o := by unfold tkN; rw [if_neg (fun h => hd h.2.2)]
theorem tkB_e {t : Nat → Int32} {sz a : Nat} (h : sz ≤ a) : tkB t sz a = a := by unfold tkB; rw [if_neg (by omega)]
theorem tkK_e {t : Nat → Int32} {sz a b : Nat} (h : sz ≤ a) : tkK t sz a b = 11 := by unfold tkK; rw [if_neg (by omega)]
theorem tkN_e {t : Nat → Int32} {sz a b : Nat} {o : Int32} (h : sz ≤ a) : tkN t sz a b o = o := by unfold tkN; rw [if_neg (fun q => absurd q.1 (by omega))]
theorem nu_go {t : Nat → Int32} {a b : Nat} {nq z : Int32} (h : nq = nuV t a (min 3 (b - a))) (e : z = t b) (hb : b - a < 3) (hab : a ≤ b) : nI 10 * nq + z - nI 48 = nuV t a (min 3 (b + 1 - a)) := by
  rw [h, e, Nat.min_eq_right (by omega), Nat.min_eq_right (by omega), show b + 1 - a = (b - a) + 1 by omega]
  show _ = nI 10 * nuV t a (b - a) + t (a + (b - a)) - nI 48
  rw [show a + (b - a) = b by omega]
theorem nu_st {t : Nat → Int32} {a b : Nat} {nq : Int32} (h : nq = nuV t a (min 3 (b - a))) (hb : 3 ≤ b - a) : nq = nuV t a (min 3 (b + 1 - a)) := by
  rw [h, Nat.min_eq_left (by omega), Nat.min_eq_left (by omega)]
theorem tk_ok {t : Nat → Int32} {sz : Nat} {lo hi : Int32} {p : PS} (hw : p.2.2.2.2.1 = 0) (hk : p.2.2.1 = 9) (h1 : ¬ p.2.2.2.1 < lo) (h2 : ¬ hi < p.2.2.2.1) : tkS t sz lo hi p = nxS t sz p := by unfold tkS; rw [if_pos ⟨hw, hk⟩, if_neg (fun h => h.elim h1 h2)]
theorem tk_3 {t : Nat → Int32} {sz : Nat} {lo hi : Int32} {p : PS} (hw : p.2.2.2.2.1 = 0) (hk : p.2.2.1 = 9) (h : p.2.2.2.1 < lo ∨ hi < p.2.2.2.1) : tkS t sz lo hi p = faS 3 p := by unfold tkS; rw [if_pos ⟨hw, hk⟩, if_pos h]
theorem tk_2 {t : Nat → Int32} {sz : Nat} {lo hi : Int32} {p : PS} (h : ¬ (p.2.2.2.2.1 = 0 ∧ p.2.2.1 = 9)) : tkS t sz lo hi p = faS 2 p := by unfold tkS; rw [if_neg h]
theorem ti_y {t : Nat → Int32} {sz k : Nat} {lo hi : Int32} {p : PS} (h : p.2.2.2.2.1 = 0) (h2 : p.2.2.1 = k) : tiS t sz k lo hi p = tkS t sz lo hi (nxS t sz p) := by unfold tiS; rw [if_pos ⟨h, h2⟩]
theorem ti_n {t : Nat → Int32} {sz k : Nat} {lo hi : Int32} {p : PS} (h : ¬ (p.2.2.2.2.1 = 0 ∧ p.2.2.1 = k)) : tiS t sz k lo hi p = p := by unfold tiS; rw [if_neg h]
theorem tv_y {t : Nat → Int32} {sz k : Nat} {wo : Int32} {p : PS} (h : p.2.2.2.2.1 = 0) (h2 : p.2.2.1 = k) : tiV t sz k wo p = (nxS t sz p).2.2.2.1 := by unfold tiV; rw [if_pos ⟨h, h2⟩]
theorem tv_n {t : Nat → Int32} {sz k : Nat} {wo : Int32} {p : PS} (h : ¬ (p.2.2.2.2.1 = 0 ∧ p.2.2.1 = k)) : tiV t sz k wo p = wo := by unfold tiV; rw [if_neg h]
/-- a line `smith ..`, TOKEN by TOKEN -/
noncomputable def sm1 (t : Nat → Int32) (sz : Nat) (p : PS) : PS := tkS t sz (nI 0) (nI 60) (nxS t sz p)
noncomputable def smBl (t : Nat → Int32) (sz : Nat) (p : PS) : Int32 := (nxS t sz p).2.2.2.1
noncomputable def sm2 (t : Nat → Int32) (sz : Nat) (p : PS) : PS := tiS t sz 1 (nI 0) (nI 30) (sm1 t sz p)
noncomputable def smCo (t : Nat → Int32) (sz : Nat) (p : PS) : Int32 := tiV t sz 1 (nI 5) (sm1 t sz p)
noncomputable def sm3 (t : Nat → Int32) (sz : Nat) (p : PS) : PS := tiS t sz 2 (nI 0) (nI 200) (sm2 t sz p)
noncomputable def smHe (t : Nat → Int32) (sz : Nat) (p : PS) : Int32 := tiV t sz 2 (nI 0) (sm2 t sz p)
noncomputable def sm4 (t : Nat → Int32) (sz : Nat) (p : PS) : PS := tiS t sz 3 (nI 0) (nI 200) (sm3 t sz p)
noncomputable def smLo (t : Nat → Int32) (sz : Nat) (p : PS) : Int32 := tiV t sz 3 (nI 20) (sm3 t sz p)
noncomputable def sm5 (t : Nat → Int32) (sz : Nat) (p : PS) : PS := tiS t sz 4 (smLo t sz p) (nI 200) (sm4 t sz p)
def mx100 (x : Int32) : Int32 := if nI 100 < x then x else nI 100
noncomputable def smHi (t : Nat → Int32) (sz : Nat) (p : PS) : Int32 := tiV t sz 4 (mx100 (smLo t sz p)) (sm4 t sz p)
noncomputable def sm6 (t : Nat → Int32) (sz : Nat) (p : PS) : PS := tiS t sz 5 (nI 0) (nI 20) (sm5 t sz p)
noncomputable def smPi (t : Nat → Int32) (sz : Nat) (p : PS) : Int32 := tiV t sz 5 (nI 3) (sm5 t sz p)
noncomputable def smS (t : Nat → Int32) (sz n : Nat) (p : PS) : PS := if n = 10 then faS 4 p else sm6 t sz p
noncomputable def smU (t : Nat → Int32) (sz n : Nat) (p : PS) (f : Nat → Int32) : Nat → Int32 :=
  upd (upd (upd (upd (upd (upd (upd f (4 + n) (smBl t sz p)) (14 + n) (smCo t sz p)) (24 + n) (smHe t sz p)) (34 + n) (smLo t sz p)) (44 + n) (smHi t sz p)) (54 + n) (smPi t sz p)) 0 (nI (n + 1))
noncomputable def smF (t : Nat → Int32) (sz n : Nat) (p : PS) (f : Nat → Int32) : Nat → Int32 := if n = 10 then f else if (sm6 t sz p).2.2.2.2.1 = 0 then smU t sz n p f else f
noncomputable def smN (t : Nat → Int32) (sz n : Nat) (p : PS) : Nat := if n = 10 then n else if (sm6 t sz p).2.2.2.2.1 = 0 then n + 1 else n
/-- a line `blows ..`, behind its word -/
noncomputable def bl1 (t : Nat → Int32) (sz n : Nat) (p : PS) : PS := tkS t sz (nI 0) (nI n - nI 1) p
noncomputable def blS (t : Nat → Int32) (sz n : Nat) (p : PS) : PS := tkS t sz (nI 0) (nI n - nI 1) (bl1 t sz n p)
noncomputable def blF (t : Nat → Int32) (sz n : Nat) (p : PS) (f : Nat → Int32) : Nat → Int32 := if (blS t sz n p).2.2.2.2.1 = 0 then upd f (84 + (p.2.2.2.1).toNatClampNeg) ((bl1 t sz n p).2.2.2.1 + nI 1) else f
/-- the SMITHS so far, where the reading is, the numbers so far -/
abbrev RLs := Nat × PS × (Nat → Int32)
noncomputable def lnA (t : Nat → Int32) (sz : Nat) (s : RLs) : RLs :=
  if s.2.1.2.2.1 = 0 then (smN t sz s.1 s.2.1, smS t sz s.1 s.2.1, smF t sz s.1 s.2.1 s.2.2)
  else if s.2.1.2.2.1 = 6 then (s.1, blS t sz s.1 (nxS t sz s.2.1), blF t sz s.1 (nxS t sz s.2.1) s.2.2)
  else if s.2.1.2.2.1 = 7 then (s.1, tkS t sz (nI 0) (nI 20) (nxS t sz s.2.1), upd s.2.2 2 (nxS t sz s.2.1).2.2.2.1)
  else (s.1, faS 2 s.2.1, s.2.2)
noncomputable def edS (t : Nat → Int32) (sz : Nat) (p : PS) : PS := if p.2.2.2.2.1 = 0 ∧ p.2.2.1 = 10 then nxS t sz p else faS 2 p
noncomputable def lnS (t : Nat → Int32) (sz : Nat) (s : RLs) : RLs := ((lnA t sz s).1, edS t sz (lnA t sz s).2.1, upd (lnA t sz s).2.2 3 ((lnA t sz s).2.2 3 + nI 1))
noncomputable def itS (t : Nat → Int32) (sz : Nat) (s : RLs) : Nat → RLs
  | 0 => s
  | k + 1 => lnS t sz (itS t sz s k)
def stp (s : RLs) : Prop := ¬ s.2.1.2.2.2.2.1 = 0 ∨ s.2.1.2.2.1 = 11
/-- the reading ends at s -/
def FN (t : Nat → Int32) (sz : Nat) (s0 s : RLs) : Prop := ∃ K, s = itS t sz s0 K ∧ stp s ∧ ∀ j, j < K → ¬ stp (itS t sz s0 j)
theorem smS_10 {t : Nat → Int32} {sz n : Nat} {p : PS} (h : n = 10) : smS t sz n p = faS 4 p := by unfold smS; rw [if_pos h]
theorem smS_n {t : Nat → Int32} {sz n : Nat} {p : PS} (h : ¬ n = 10) : smS t sz n p = sm6 t sz p := by unfold smS; rw [if_neg h]
theorem smF_10 {t : Nat → Int32} {sz n : Nat} {p : PS} {f : Nat → Int32} (h : n = 10) : smF t sz n p f = f := by unfold smF; rw [if_pos h]
theorem smF_0 {t : Nat → Int32} {sz n : Nat} {p : PS} {f : Nat → Int32} (h : ¬ n = 10) (h2 : (sm6 t sz p).2.2.2.2.1 = 0) : smF t sz n p f = smU t sz n p f := by unfold smF; rw [if_neg h, if_pos h2]
theorem smF_w {t : Nat → Int32} {sz n : Nat} {p : PS} {f : Nat → Int32} (h : ¬ n = 10) (h2 : ¬ (sm6 t sz p).2.2.2.2.1 = 0) : smF t sz n p f = f := by unfold smF; rw [if_neg h, if_neg h2]
theorem smN_0 {t : Nat → Int32} {sz n : Nat} {p : PS} (h : ¬ n = 10) (h2 : (sm6 t sz p).2.2.2.2.1 = 0) : smN t sz n p = n + 1 := by unfold smN; rw [if_neg h, if_pos h2]
theorem tk_w {t : Nat → Int32} {sz : Nat} {lo hi : Int32} {p : PS} (h : ¬ p.2.2.2.2.1 = 0) : tkS t sz lo hi p = p := by
  rw [tk_2 (fun q => h q.1), fa_n0 h]
theorem tk_rng {t : Nat → Int32} {sz : Nat} {lo hi : Int32} {p : PS} (h : (tkS t sz lo hi p).2.2.2.2.1 = 0) : ¬ p.2.2.2.1 < lo ∧ ¬ hi < p.2.2.2.1 ∧ p.2.2.2.2.1 = 0 := by
  by_cases c : p.2.2.2.2.1 = 0 ∧ p.2.2.1 = 9
  · by_cases c2 : p.2.2.2.1 < lo ∨ hi < p.2.2.2.1
    · rw [tk_3 c.1 c.2 c2] at h; exact absurd h (fa_w (by decide))
    · exact ⟨fun q => c2 (Or.inl q), fun q => c2 (Or.inr q), c.1⟩
  · rw [tk_2 c] at h; exact absurd h (fa_w (by decide))
theorem ti_rng {t : Nat → Int32} {sz k : Nat} {lo hi wo : Int32} {p : PS} (h : (tiS t sz k lo hi p).2.2.2.2.1 = 0) : p.2.2.2.2.1 = 0 ∧ ((¬ tiV t sz k wo p < lo ∧ ¬ hi < tiV t sz k wo p) ∨ tiV t sz k wo p = wo) := by
  by_cases c : p.2.2.2.2.1 = 0 ∧ p.2.2.1 = k
  · rw [ti_y c.1 c.2] at h
    rw [tv_y c.1 c.2]
    have := tk_rng h
    exact ⟨c.1, Or.inl ⟨this.1, this.2.1⟩⟩
  · rw [ti_n c] at h
    exact ⟨h, Or.inr (tv_n c)⟩
theorem sm1_e {t : Nat → Int32} {sz : Nat} {p : PS} : sm1 t sz p = tkS t sz (nI 0) (nI 60) (nxS t sz p) := rfl
theorem sm2_e {t : Nat → Int32} {sz : Nat} {p : PS} : sm2 t sz p = tiS t sz 1 (nI 0) (nI 30) (sm1 t sz p) := rfl
theorem sm3_e {t : Nat → Int32} {sz : Nat} {p : PS} : sm3 t sz p = tiS t sz 2 (nI 0) (nI 200) (sm2 t sz p) := rfl
theorem sm4_e {t : Nat → Int32} {sz : Nat} {p : PS} : sm4 t sz p = tiS t sz 3 (nI 0) (nI 200) (sm3 t sz p) := rfl
theorem sm5_e {t : Nat → Int32} {sz : Nat} {p : PS} : sm5 t sz p = tiS t sz 4 (smLo t sz p) (nI 200) (sm4 t sz p) := rfl
theorem sm6_e {t : Nat → Int32} {sz : Nat} {p : PS} : sm6 t sz p = tiS t sz 5 (nI 0) (nI 20) (sm5 t sz p) := rfl
theorem bl_e {t : Nat → Int32} {sz n : Nat} {p : PS} : blS t sz n p = tkS t sz (nI 0) (nI n - nI 1) (bl1 t sz n p) := rfl
theorem bl1_e {t : Nat → Int32} {sz n : Nat} {p : PS} : bl1 t sz n p = tkS t sz (nI 0) (nI n - nI 1) p := rfl
theorem sm_w {t : Nat → Int32} {sz : Nat} {p : PS} (h : (sm6 t sz p).2.2.2.2.1 = 0) : (sm5 t sz p).2.2.2.2.1 = 0 ∧ (sm4 t sz p).2.2.2.2.1 = 0 ∧ (sm3 t sz p).2.2.2.2.1 = 0 ∧ (sm2 t sz p).2.2.2.2.1 = 0 ∧ (sm1 t sz p).2.2.2.2.1 = 0 := by
  rw [sm6_e] at h
  have h5 := (ti_rng (wo := 0) h).1
  have k5 := h5
  rw [sm5_e] at k5
  have h4 := (ti_rng (wo := 0) k5).1
  have k4 := h4
  rw [sm4_e] at k4
  have h3 := (ti_rng (wo := 0) k4).1
  have k3 := h3
  rw [sm3_e] at k3
  have h2 := (ti_rng (wo := 0) k3).1
  have k2 := h2
  rw [sm2_e] at k2
  exact ⟨h5, h4, h3, h2, (ti_rng (wo := 0) k2).1⟩
theorem FR_sm {t : Nat → Int32} {sz n : Nat} {p : PS} {f : Nat → Int32} (h : FR n f) : FR (smN t sz n p) (smF t sz n p f) := by
  by_cases c : n = 10
  · rw [smF_10 c]; unfold smN; rw [if_pos c]; exact h
  · by_cases c2 : (sm6 t sz p).2.2.2.2.1 = 0
    · rw [smF_0 c c2, smN_0 c c2]
      have hlt : n < 10 := Nat.lt_of_le_of_ne h.1 c
      obtain ⟨h5, h4, h3, h2, h1⟩ := sm_w c2
      rw [sm1_e] at h1
      rw [sm2_e] at h2
      rw [sm3_e] at h3
      rw [sm6_e] at c2
      refine fr_smith h hlt ?_ ?_ ?_ ?_
      · have := tk_rng h1; exact rg_bd ⟨this.1, this.2.1⟩ (by decide)
      · exact rg_or (c := 5) (ti_rng h2).2 (by decide) (by decide)
      · exact bd_le (rg_or (c := 0) (ti_rng h3).2 (by decide) (by decide)) (show 201 ≤ 256 by decide)
      · exact rg_or (c := 3) (ti_rng c2).2 (by decide) (by decide)
    · rw [smF_w c c2]; unfold smN; rw [if_neg c, if_neg c2]; exact h
theorem bl_0 {t : Nat → Int32} {sz n a b : Nat} {p : PS} {f : Nat → Int32} (h : (blS t sz n p).2.2.2.2.1 = 0) (ea : p.2.2.2.1 = nI a) (eb : (bl1 t sz n p).2.2.2.1 = nI b) (ha : a < 10) : blF t sz n p f = upd f (84 + a) (nI (b + 1)) := by
  unfold blF; rw [if_pos h, ea, eb, nI_clamp (by omega), nI_add]
theorem bl_w {t : Nat → Int32} {sz n : Nat} {p : PS} {f : Nat → Int32} (h : ¬ (blS t sz n p).2.2.2.2.1 = 0) : blF t sz n p f = f := by unfold blF; rw [if_neg h]
theorem FR_bl {t : Nat → Int32} {sz n : Nat} {p : PS} {f : Nat → Int32} (h : FR n f) : FR n (blF t sz n p f) := by
  by_cases c : (blS t sz n p).2.2.2.2.1 = 0
  · have c' := c
    rw [bl_e] at c'
    have r2 := tk_rng c'
    have q := r2.2.2
    rw [bl1_e] at q
    have r1 := tk_rng q
    have hn := h.1
    obtain ⟨a, ha, ea⟩ := pred_bd hn r1.1 r1.2.1
    obtain ⟨b, hb, eb⟩ := pred_bd hn r2.1 r2.2.1
    rw [bl_0 c ea eb (by omega)]
    exact fr_blow h (by omega) (bd_nI (by omega))
  · rw [bl_w c]; exact h
/-- the numbers at the beginning, over what was there -/
def frI (f : Nat → Int32) : Nat → Int32 := fun j => if j < 94 then (if j = 2 then nI 20 else nI 0) else f j
theorem frI_eq {f g : Nat → Int32} (h : ∀ j, j < 94 → g j = if j = 2 then nI 20 else nI 0) (h2 : ∀ j, 94 ≤ j → g j = f j) : g = frI f := by
  funext j
  unfold frI
  by_cases c : j < 94
  · rw [if_pos c]; exact h j c
  · rw [if_neg c]; exact h2 j (by omega)
theorem ln_sm {t : Nat → Int32} {sz n : Nat} {p : PS} {f : Nat → Int32} (hk : p.2.2.1 = 0) : lnA t sz (n, p, f) = (smN t sz n p, smS t sz n p, smF t sz n p f) := by
  unfold lnA; rw [if_pos hk]
theorem ln_bl {t : Nat → Int32} {sz n : Nat} {p : PS} {f : Nat → Int32} (hk : p.2.2.1 = 6) : lnA t sz (n, p, f) = (n, blS t sz n (nxS t sz p), blF t sz n (nxS t sz p) f) := by
  unfold lnA; rw [if_neg (by show ¬ p.2.2.1 = 0; omega), if_pos hk]
theorem ln_bu {t : Nat → Int32} {sz n : Nat} {p : PS} {f : Nat → Int32} (hk : p.2.2.1 = 7) : lnA t sz (n, p, f) = (n, tkS t sz (nI 0) (nI 20) (nxS t sz p), upd f 2 (nxS t sz p).2.2.2.1) := by
  unfold lnA; rw [if_neg (by show ¬ p.2.2.1 = 0; omega), if_neg (by show ¬ p.2.2.1 = 6; omega), if_pos hk]
theorem ln_no {t : Nat → Int32} {sz n : Nat} {p : PS} {f : Nat → Int32} (h0 : ¬ p.2.2.1 = 0) (h6 : ¬ p.2.2.1 = 6) (h7 : ¬ p.2.2.1 = 7) : lnA t sz (n, p, f) = (n, faS 2 p, f) := by
  unfold lnA; rw [if_neg h0, if_neg h6, if_neg h7]
theorem ed_y {t : Nat → Int32} {sz : Nat} {p : PS} (h : p.2.2.2.2.1 = 0) (h2 : p.2.2.1 = 10) : edS t sz p = nxS t sz p := by unfold edS; rw [if_pos ⟨h, h2⟩]
theorem ed_n {t : Nat → Int32} {sz : Nat} {p : PS} (h : ¬ (p.2.2.2.2.1 = 0 ∧ p.2.2.1 = 10)) : edS t sz p = faS 2 p := by unfold edS; rw [if_neg h]
theorem PI_sm {t : Nat → Int32} {sz n : Nat} {p : PS} (h : PI t sz p) : PI t sz (smS t sz n p) := by
  unfold smS
  split
  · exact PI_fa h (by decide)
  · exact PI_ti (PI_ti (PI_ti (PI_ti (PI_ti (PI_tk (PI_nxI h))))))
theorem PI_bl {t : Nat → Int32} {sz n : Nat} {p : PS} (h : PI t sz p) : PI t sz (blS t sz n p) := PI_tk (PI_tk h)
theorem PI_ed {t : Nat → Int32} {sz : Nat} {p : PS} (h : PI t sz p) : PI t sz (edS t sz p) := by
  unfold edS
  split
  · exact PI_nxI h
  · exact PI_fa h (by decide)
/-- a new TOKEN is behind the old one, or the end -/
theorem nx_mv {t : Nat → Int32} {sz : Nat} {p : PS} (h : p.2.1 ≤ sz) : p.2.1 ≤ (nxS t sz p).2.1 ∧ ((nxS t sz p).2.2.1 = 11 ∨ p.2.1 < (nxS t sz p).2.1) := by
  have h1 := rn_ge (p := blkB) (t := t) h
  have h2 := rn_le (p := blkB) (t := t) h
  have h3 := tkB_le (t := t) h2
  refine ⟨Nat.le_trans h1 h3.1, ?_⟩
  by_cases c : rn blkB t sz p.2.1 < sz
  · exact Or.inr (Nat.lt_of_le_of_lt h1 (tkB_lt c))
  · exact Or.inl (tkK_e (by omega))
theorem fa_b {f : Nat} {p : PS} : (faS f p).2.1 = p.2.1 := by
  unfold faS; split <;> rfl
theorem tk_b {t : Nat → Int32} {sz : Nat} {lo hi : Int32} {p : PS} (h : PI t sz p) : p.2.1 ≤ (tkS t sz lo hi p).2.1 := by
  unfold tkS
  split
  · split
    · rw [fa_b]; exact Nat.le_refl _
    · exact (nx_mv h.2.1).1
  · rw [fa_b]; exact Nat.le_refl _
theorem ti_b {t : Nat → Int32} {sz k : Nat} {lo hi : Int32} {p : PS} (h : PI t sz p) : p.2.1 ≤ (tiS t sz k lo hi p).2.1 := by
  unfold tiS
  split
  · exact Nat.le_trans (nx_mv h.2.1).1 (tk_b (PI_nxI h))
  · exact Nat.le_refl _
theorem sm_b {t : Nat → Int32} {sz n : Nat} {p : PS} (h : PI t sz p) : p.2.1 ≤ (smS t sz n p).2.1 := by
  unfold smS
  split
  · rw [fa_b]; exact Nat.le_refl _
  · have q0 := PI_nxI h
    have q1 : PI t sz (sm1 t sz p) := PI_tk q0
    have q2 : PI t sz (sm2 t sz p) := PI_ti q1
    have q3 : PI t sz (sm3 t sz p) := PI_ti q2
    have q4 : PI t sz (sm4 t sz p) := PI_ti q3
    have q5 : PI t sz (sm5 t sz p) := PI_ti q4
    have b0 := (nx_mv (t := t) h.2.1).1
    have b1 : (nxS t sz p).2.1 ≤ (sm1 t sz p).2.1 := by rw [sm1_e]; exact tk_b q0
    have b2 : (sm1 t sz p).2.1 ≤ (sm2 t sz p).2.1 := by rw [sm2_e]; exact ti_b q1
    have b3 : (sm2 t sz p).2.1 ≤ (sm3 t sz p).2.1 := by rw [sm3_e]; exact ti_b q2
    have b4 : (sm3 t sz p).2.1 ≤ (sm4 t sz p).2.1 := by rw [sm4_e]; exact ti_b q3
    have b5 : (sm4 t sz p).2.1 ≤ (sm5 t sz p).2.1 := by rw [sm5_e]; exact ti_b q4
    have b6 : (sm5 t sz p).2.1 ≤ (sm6 t sz p).2.1 := by rw [sm6_e]; exact ti_b q5
    exact Nat.le_trans b0 (Nat.le_trans b1 (Nat.le_trans b2 (Nat.le_trans b3 (Nat.le_trans b4 (Nat.le_trans b5 b6)))))
theorem lnA_pi {t : Nat → Int32} {sz : Nat} {s : RLs} (h : PI t sz s.2.1) : PI t sz (lnA t sz s).2.1 ∧ s.2.1.2.1 ≤ (lnA t sz s).2.1.2.1 := by
  unfold lnA
  split
  · exact ⟨PI_sm h, sm_b h⟩
  · split
    · exact ⟨PI_bl (PI_nxI h), Nat.le_trans (nx_mv h.2.1).1 (Nat.le_trans (tk_b (PI_nxI h)) (tk_b (PI_tk (PI_nxI h))))⟩
    · split
      · exact ⟨PI_tk (PI_nxI h), Nat.le_trans (nx_mv h.2.1).1 (tk_b (PI_nxI h))⟩
      · exact ⟨PI_fa h (by decide), by show _ ≤ (faS 2 s.2.1).2.1; rw [fa_b]; exact Nat.le_refl _⟩
/-- a line further: the FAULT, the end, or a TOKEN behind -/
theorem ln_mv {t : Nat → Int32} {sz : Nat} {s : RLs} (h : PI t sz s.2.1) : PI t sz (lnS t sz s).2.1 ∧ (stp (lnS t sz s) ∨ s.2.1.2.1 < (lnS t sz s).2.1.2.1) := by
  obtain ⟨h1, h2⟩ := lnA_pi h
  refine ⟨PI_ed h1, ?_⟩
  by_cases c : (lnA t sz s).2.1.2.2.2.2.1 = 0 ∧ (lnA t sz s).2.1.2.2.1 = 10
  · have e : (lnS t sz s).2.1 = nxS t sz (lnA t sz s).2.1 := ed_y c.1 c.2
    rcases (nx_mv (t := t) h1.2.1).2 with q | q
    · exact Or.inl (Or.inr (by rw [e]; exact q))
    · exact Or.inr (by rw [e]; omega)
  · have e : (lnS t sz s).2.1 = faS 2 (lnA t sz s).2.1 := ed_n c
    exact Or.inl (Or.inl (by rw [e]; exact fa_w (by decide)))
theorem it_pi {t : Nat → Int32} {sz : Nat} {s : RLs} (h : PI t sz s.2.1) : ∀ k, PI t sz (itS t sz s k).2.1
  | 0 => h
  | k + 1 => (ln_mv (it_pi h k)).1
theorem it_mv {t : Nat → Int32} {sz : Nat} {s : RLs} (h : PI t sz s.2.1) : ∀ k, (∀ j, j < k → ¬ stp (itS t sz s j)) → (stp (itS t sz s k) ∨ s.2.1.2.1 + k ≤ (itS t sz s k).2.1.2.1)
  | 0, _ => Or.inr (Nat.le_refl _)
  | k + 1, hj => by
    rcases it_mv h k (fun j q => hj j (by omega)) with q | q
    · exact absurd q (hj k (by omega))
    · rcases (ln_mv (it_pi h k)).2 with r | r
      · exact Or.inl r
      · refine Or.inr ?_
        have r' : (itS t sz s k).2.1.2.1 < (itS t sz s (k + 1)).2.1.2.1 := r
        omega

theorem ky_l8 {n kk : Nat} (hn : n ≤ 8) (hk : kk = wst n) (h : kk < 44) : n < 8 := by
  rcases Nat.lt_or_eq_of_le hn with h1 | h1
  · exact h1
  · subst h1
    have : wst 8 = 44 := rfl
    omega
