/-! the text, read TOKEN by TOKEN: what both do, as functions of the text -/
def blkB (x : Int32) : Bool := decide (x = nI 10) || decide (x = nI 32)
def smB (x : Int32) : Bool := decide (¬ x < nI 97) && decide (¬ nI 122 < x)
def dgB (x : Int32) : Bool := decide (¬ x < nI 48) && decide (¬ nI 57 < x)
/-- how far it goes on -/
def rnF (p : Int32 → Bool) (t : Nat → Int32) (sz : Nat) : Nat → Nat → Nat
  | 0, b => b
  | f + 1, b => if b < sz ∧ p (t b) = true then rnF p t sz f (b + 1) else b
def rn (p : Int32 → Bool) (t : Nat → Int32) (sz b : Nat) : Nat := rnF p t sz (sz - b) b
theorem rn_go {p : Int32 → Bool} {t : Nat → Int32} {sz b : Nat} (h : b < sz) (hp : p (t b) = true) : rn p t sz b = rn p t sz (b + 1) := by
  unfold rn
  rw [show sz - b = (sz - (b + 1)) + 1 by omega]
  show (if b < sz ∧ p (t b) = true then rnF p t sz (sz - (b + 1)) (b + 1) else b) = _
  rw [if_pos ⟨h, hp⟩]
theorem rn_end {p : Int32 → Bool} {t : Nat → Int32} {sz b : Nat} (h : sz ≤ b) : rn p t sz b = b := by
  unfold rn
  rw [show sz - b = 0 by omega]
  rfl
theorem rn_no {p : Int32 → Bool} {t : Nat → Int32} {sz b : Nat} (hp : ¬ p (t b) = true) : rn p t sz b = b := by
  unfold rn
  cases sz - b with
  | zero => rfl
  | succ f =>
    show (if b < sz ∧ p (t b) = true then rnF p t sz f (b + 1) else b) = b
    rw [if_neg (fun h => hp h.2)]
theorem rnF_all {p : Int32 → Bool} {t : Nat → Int32} {sz : Nat} : ∀ (f b : Nat), b ≤ sz → (b ≤ rnF p t sz f b ∧ rnF p t sz f b ≤ sz ∧ ∀ j, b ≤ j → j < rnF p t sz f b → p (t j) = true)
  | 0, b, h => ⟨Nat.le_refl _, h, fun j h1 h2 => absurd h2 (Nat.not_lt.mpr h1)⟩
  | f + 1, b, h => by
    show b ≤ (if b < sz ∧ p (t b) = true then rnF p t sz f (b + 1) else b) ∧ (if b < sz ∧ p (t b) = true then rnF p t sz f (b + 1) else b) ≤ sz ∧ ∀ j, b ≤ j → j < (if b < sz ∧ p (t b) = true then rnF p t sz f (b + 1) else b) → p (t j) = true
    by_cases c : b < sz ∧ p (t b) = true
    · rw [if_pos c]
      obtain ⟨h1, h2, h3⟩ := rnF_all f (b + 1) c.1
      refine ⟨by omega, h2, fun j hj hj2 => ?_⟩
      by_cases e : j = b
      · rw [e]; exact c.2
      · exact h3 j (by omega) hj2
    · rw [if_neg c]
      exact ⟨Nat.le_refl _, h, fun j h1 h2 => absurd h2 (Nat.not_lt.mpr h1)⟩
theorem rn_ge {p : Int32 → Bool} {t : Nat → Int32} {sz b : Nat} (h : b ≤ sz) : b ≤ rn p t sz b := (rnF_all _ b h).1
theorem rn_le {p : Int32 → Bool} {t : Nat → Int32} {sz b : Nat} (h : b ≤ sz) : rn p t sz b ≤ sz := (rnF_all _ b h).2.1
theorem rn_all {p : Int32 → Bool} {t : Nat → Int32} {sz b : Nat} (h : b ≤ sz) : ∀ j, b ≤ j → j < rn p t sz b → p (t j) = true := (rnF_all _ b h).2.2
theorem rn_gt {p : Int32 → Bool} {t : Nat → Int32} {sz b : Nat} (h : b < sz) (hp : p (t b) = true) : b + 1 ≤ rn p t sz b := by
  rw [rn_go h hp]; exact rn_ge h
/-- the TOKEN is the word i -/
def wMt (t : Nat → Int32) (a b i : Nat) : Prop := b = a + sLen.getD i 0 ∧ ∀ k, k < sLen.getD i 0 → t (a + k) = sch i k
theorem wMt_one {t : Nat → Int32} {a b i j : Nat} (hi : i < 8) (hj : j < 8) (h1 : wMt t a b i) (h2 : wMt t a b j) : i = j := by
  have H : ∀ i j : Fin 8, i ≠ j → sLen.getD i.1 0 = sLen.getD j.1 0 → ∃ k : Fin 5, k.1 < sLen.getD i.1 0 ∧ sch i.1 k.1 ≠ sch j.1 k.1 := by decide +kernel
  apply Classical.byContradiction
  intro hne
  have el : sLen.getD i 0 = sLen.getD j 0 := by have := h1.1; have := h2.1; omega
  obtain ⟨k, hk, hk2⟩ := H ⟨i, hi⟩ ⟨j, hj⟩ (fun e => hne (Fin.mk.inj e)) el
  exact hk2 ((h1.2 k.1 hk).symm.trans (h2.2 k.1 (el ▸ hk)))
noncomputable def keyOf (t : Nat → Int32) (a b : Nat) : Nat := by classical exact if h : ∃ i, i < 8 ∧ wMt t a b i then h.choose else 8
theorem keyOf_is {t : Nat → Int32} {a b i : Nat} (hi : i < 8) (h : wMt t a b i) : keyOf t a b = i := by
  unfold keyOf
  have hx : ∃ i, i < 8 ∧ wMt t a b i := ⟨i, hi, h⟩
  rw [dif_pos hx]
  exact wMt_one hx.choose_spec.1 hi hx.choose_spec.2 h
theorem keyOf_no {t : Nat → Int32} {a b : Nat} (h : ∀ i, i < 8 → ¬ wMt t a b i) : keyOf t a b = 8 := by
  unfold keyOf
  rw [dif_neg (fun hx => h hx.choose hx.choose_spec.1 hx.choose_spec.2)]
theorem keyOf_iff {t : Nat → Int32} {a b i : Nat} (hi : i < 8) : keyOf t a b = i ↔ wMt t a b i := by
  refine ⟨fun h => ?_, keyOf_is hi⟩
  apply Classical.byContradiction
  intro hn
  by_cases hx : ∃ j, j < 8 ∧ wMt t a b j
  · obtain ⟨j, hj, hw⟩ := hx
    have := keyOf_is hj hw
    rw [h] at this
    subst this
    exact hn hw
  · have := keyOf_no (t := t) (a := a) (b := b) (fun j hj hw => hx ⟨j, hj, hw⟩)
    omega
theorem keyOf_le (t : Nat → Int32) (a b : Nat) : keyOf t a b ≤ 8 := by
  by_cases hx : ∃ j, j < 8 ∧ wMt t a b j
  · obtain ⟨j, hj, hw⟩ := hx
    rw [keyOf_is hj hw]; omega
  · rw [keyOf_no (fun j hj hw => hx ⟨j, hj, hw⟩)]; exact Nat.le_refl _
/-- the worth of k digits -/
def nuV (t : Nat → Int32) (a : Nat) : Nat → Int32
  | 0 => nI 0
  | k + 1 => nI 10 * nuV t a k + t (a + k) - nI 48
/-- where the TOKEN at a ends, its kind, its worth -/
def tkB (t : Nat → Int32) (sz a : Nat) : Nat := if a < sz then (if smB (t a) = true then rn smB t sz a else if dgB (t a) = true then rn dgB t sz a else a + 1) else a
noncomputable def tkK (t : Nat → Int32) (sz a b : Nat) : Nat := if a < sz then (if smB (t a) = true then keyOf t a b else if dgB (t a) = true then (if 3 < b - a then 12 else 9) else if t a = nI 59 then 10 else 12) else 11
def tkN (t : Nat → Int32) (sz a b : Nat) (o : Int32) : Int32 := if a < sz ∧ ¬ smB (t a) = true ∧ dgB (t a) = true then nuV t a (min 3 (b - a)) else o
/-- where the reading is: TOKEN from, to, kind, worth; the FAULT, its place -/
abbrev PS := Nat × Nat × Nat × Int32 × Nat × Int32
/-- kept from omega -/
def Hid (P : Prop) : Prop := P
theorem hid {P : Prop} (h : P) : Hid P := h
theorem unh {P : Prop} (h : Hid P) : P := h
noncomputable def nxS (t : Nat → Int32) (sz : Nat) (p : PS) : PS :=
  (rn blkB t sz p.2.1, tkB t sz (rn blkB t sz p.2.1), tkK t sz (rn blkB t sz p.2.1) (tkB t sz (rn blkB t sz p.2.1)), tkN t sz (rn blkB t sz p.2.1) (tkB t sz (rn blkB t sz p.2.1)) p.2.2.2.1, p.2.2.2.2.1, p.2.2.2.2.2)
def faS (f : Nat) (p : PS) : PS := if p.2.2.2.2.1 = 0 then (p.1, p.2.1, p.2.2.1, p.2.2.2.1, (if p.2.2.1 = 12 then 1 else f), nI p.1) else p
noncomputable def tkS (t : Nat → Int32) (sz : Nat) (lo hi : Int32) (p : PS) : PS :=
  if p.2.2.2.2.1 = 0 ∧ p.2.2.1 = 9 then (if p.2.2.2.1 < lo ∨ hi < p.2.2.2.1 then faS 3 p else nxS t sz p) else faS 2 p
noncomputable def tiS (t : Nat → Int32) (sz k : Nat) (lo hi : Int32) (p : PS) : PS := if p.2.2.2.2.1 = 0 ∧ p.2.2.1 = k then tkS t sz lo hi (nxS t sz p) else p
noncomputable def tiV (t : Nat → Int32) (sz k : Nat) (wo : Int32) (p : PS) : Int32 := if p.2.2.2.2.1 = 0 ∧ p.2.2.1 = k then (nxS t sz p).2.2.2.1 else wo
theorem nx_eq {t : Nat → Int32} {sz a b k w : Nat} {nu wa : Int32} {p : PS} (ha : a = rn blkB t sz p.2.1) (hb : b = tkB t sz a) (hk : k = tkK t sz a b) (hn : nu = tkN t sz a b p.2.2.2.1) (hw : w = p.2.2.2.2.1) (hwa : wa = p.2.2.2.2.2) : (a, b, k, nu, w, wa) = nxS t sz p := by
  subst ha; subst hb; subst hk; subst hn; subst hw; subst hwa; rfl
theorem tkB_le {t : Nat → Int32} {sz a : Nat} (h : a ≤ sz) : a ≤ tkB t sz a ∧ tkB t sz a ≤ sz := by
  unfold tkB
  split
  · split
    · exact ⟨rn_ge h, rn_le h⟩
    · split
      · exact ⟨rn_ge h, rn_le h⟩
      · omega
  · omega
theorem tkB_lt {t : Nat → Int32} {sz a : Nat} (h : a < sz) : a < tkB t sz a := by
  unfold tkB
  rw [if_pos h]
  split
  · rename_i c; exact rn_gt h c
  · split
    · rename_i c; exact rn_gt h c
    · omega
theorem tkK_le (t : Nat → Int32) (sz a b : Nat) : tkK t sz a b ≤ 12 := by
  unfold tkK
  have := keyOf_le t a b
  split
  · split
    · omega
    · split
      · split <;> omega
      · split <;> omega
  · omega
/-- what holds of the reading -/
def PI (t : Nat → Int32) (sz : Nat) (p : PS) : Prop := p.1 ≤ p.2.1 ∧ p.2.1 ≤ sz ∧ p.2.2.1 ≤ 12 ∧ p.2.2.2.2.1 ≤ 4 ∧ p.2.2.1 = tkK t sz p.1 p.2.1 ∧ p.2.1 = tkB t sz p.1 ∧ (p.2.2.1 = 9 → p.2.2.2.1 = nuV t p.1 (p.2.1 - p.1) ∧ p.2.1 - p.1 ≤ 3)
theorem dg_not_sm {x : Int32} (h : dgB x = true) : ¬ smB x = true := by
  intro h2
  simp only [dgB, smB, Bool.and_eq_true, decide_eq_true_eq] at h h2
  have a1 := h.2
  have a2 := h2.1
  rw [Int32.lt_iff_toInt_lt] at a1 a2
  have e1 : (nI 57).toInt = 57 := by decide +kernel
  have e2 : (nI 97).toInt = 97 := by decide +kernel
  omega
theorem tk9 {t : Nat → Int32} {sz a b : Nat} (h : tkK t sz a b = 9) : a < sz ∧ ¬ smB (t a) = true ∧ dgB (t a) = true ∧ b - a ≤ 3 := by
  unfold tkK at h
  have := keyOf_le t a b
  by_cases c1 : a < sz
  · rw [if_pos c1] at h
    by_cases c2 : smB (t a) = true
    · rw [if_pos c2] at h; omega
    · rw [if_neg c2] at h
      by_cases c3 : dgB (t a) = true
      · rw [if_pos c3] at h
        by_cases c4 : 3 < b - a
        · rw [if_pos c4] at h; omega
        · exact ⟨c1, c2, c3, by omega⟩
      · rw [if_neg c3] at h
        split at h <;> omega
  · rw [if_neg c1] at h; omega
theorem PI_nx {t : Nat → Int32} {sz : Nat} {p : PS} (hb : p.2.1 ≤ sz) (hw : p.2.2.2.2.1 ≤ 4) : PI t sz (nxS t sz p) := by
  have h1 := rn_le (p := blkB) (t := t) hb
  have h2 := tkB_le (t := t) h1
  refine ⟨h2.1, h2.2, tkK_le _ _ _ _, hw, rfl, rfl, fun h9 => ?_⟩
  have h9' : tkK t sz (rn blkB t sz p.2.1) (tkB t sz (rn blkB t sz p.2.1)) = 9 := h9
  obtain ⟨q1, q2, q3, q4⟩ := tk9 h9'
  refine ⟨?_, q4⟩
  show tkN t sz (rn blkB t sz p.2.1) (tkB t sz (rn blkB t sz p.2.1)) p.2.2.2.1 = _
  unfold tkN
  rw [if_pos ⟨q1, q2, q3⟩, Nat.min_eq_right q4]
  rfl
theorem fa_n0 {f : Nat} {p : PS} (h : ¬ p.2.2.2.2.1 = 0) : faS f p = p := by unfold faS; rw [if_neg h]
theorem fa_0 {f : Nat} {p : PS} (h : p.2.2.2.2.1 = 0) (h2 : ¬ p.2.2.1 = 12) : faS f p = (p.1, p.2.1, p.2.2.1, p.2.2.2.1, f, nI p.1) := by unfold faS; rw [if_pos h, if_neg h2]
theorem fa_12 {f : Nat} {p : PS} (h : p.2.2.2.2.1 = 0) (h2 : p.2.2.1 = 12) : faS f p = (p.1, p.2.1, p.2.2.1, p.2.2.2.1, 1, nI p.1) := by unfold faS; rw [if_pos h, if_pos h2]
theorem fa_nu {f : Nat} {p : PS} : (faS f p).2.2.2.1 = p.2.2.2.1 := by unfold faS; split <;> rfl
theorem fa_w {f : Nat} {p : PS} (hf : ¬ f = 0) : ¬ (faS f p).2.2.2.2.1 = 0 := by
  by_cases h : p.2.2.2.2.1 = 0
  · by_cases h2 : p.2.2.1 = 12
    · rw [fa_12 h h2]; exact Nat.one_ne_zero
    · rw [fa_0 h h2]; exact hf
  · rw [fa_n0 h]; exact h
theorem PI_fa {t : Nat → Int32} {sz f : Nat} {p : PS} (h : PI t sz p) (hf : f ≤ 4) : PI t sz (faS f p) := by
  by_cases h0 : p.2.2.2.2.1 = 0
  · obtain ⟨a1, a2, a3, a4, a6, a7, a8⟩ := h
    by_cases h2 : p.2.2.1 = 12
    · rw [fa_12 h0 h2]; exact ⟨a1, a2, a3, by show 1 ≤ 4; omega, a6, a7, a8⟩
    · rw [fa_0 h0 h2]; exact ⟨a1, a2, a3, hf, a6, a7, a8⟩
  · rw [fa_n0 h0]; exact h
theorem PI_nxI {t : Nat → Int32} {sz : Nat} {p : PS} (h : PI t sz p) : PI t sz (nxS t sz p) := PI_nx h.2.1 h.2.2.2.1
theorem PI_tk {t : Nat → Int32} {sz : Nat} {lo hi : Int32} {p : PS} (h : PI t sz p) : PI t sz (tkS t sz lo hi p) := by
  unfold tkS
  split
  · split
    · exact PI_fa h (by decide)
    · exact PI_nxI h
  · exact PI_fa h (by decide)
theorem PI_ti {t : Nat → Int32} {sz k : Nat} {lo hi : Int32} {p : PS} (h : PI t sz p) : PI t sz (tiS t sz k lo hi p) := by
  unfold tiS
  split
  · exact PI_tk (PI_nxI h)
  · exact h
/-- the words of the reference's text of words -/
def wst (n : Nat) : Nat := [1, 7, 12, 17, 21, 26, 32, 38, 44].getD n 44
theorem ky_at {n j kk : Nat} (hn : n < 8) (hk : kk = wst n) (hj : j < sLen.getD n 0) : sch 8 (kk + j) = sch n j := by
  have H : ∀ (n : Fin 8) (j : Fin 5), j.1 < sLen.getD n.1 0 → sch 8 (wst n.1 + j.1) = sch n.1 j.1 := by decide +kernel
  have L : ∀ n : Fin 8, sLen.getD n.1 0 ≤ 5 := by decide +kernel
  have := L ⟨n, hn⟩
  rw [hk]
  exact H ⟨n, hn⟩ ⟨j, Nat.lt_of_lt_of_le hj this⟩ hj
theorem ky_sp {n : Nat} (hn : n < 8) : sch 8 (wst n + sLen.getD n 0) = nI 32 := by
  have H : ∀ n : Fin 8, sch 8 (wst n.1 + sLen.getD n.1 0) = nI 32 := by decide +kernel
  exact H ⟨n, hn⟩
theorem ky_ns {n j : Nat} (hn : n < 8) (hj : j < sLen.getD n 0) : ¬ sch 8 (wst n + j) = nI 32 := by
  have H : ∀ (n : Fin 8) (j : Fin 5), j.1 < sLen.getD n.1 0 → ¬ sch 8 (wst n.1 + j.1) = nI 32 := by decide +kernel
  have L : ∀ n : Fin 8, sLen.getD n.1 0 ≤ 5 := by decide +kernel
  have := L ⟨n, hn⟩
  exact H ⟨n, hn⟩ ⟨j, Nat.lt_of_lt_of_le hj this⟩ hj
theorem ky_nx {n : Nat} (hn : n < 8) : wst n + sLen.getD n 0 + 1 = wst (n + 1) ∧ wst n + sLen.getD n 0 ≤ 43 ∧ 1 ≤ wst n := by
  have H : ∀ n : Fin 8, wst n.1 + sLen.getD n.1 0 + 1 = wst (n.1 + 1) ∧ wst n.1 + sLen.getD n.1 0 ≤ 43 ∧ 1 ≤ wst n.1 := by decide +kernel
  exact H ⟨n, hn⟩
theorem ky_8 {n : Nat} (hn : n ≤ 8) : wst n ≤ 44 ∧ (n < 8 → wst n < 44) := by
  have H : ∀ n : Fin 9, wst n.1 ≤ 44 ∧ (n.1 < 8 → wst n.1 < 44) := by decide +kernel
  exact H ⟨n, by omega⟩
theorem ky_lt {n x kk : Nat} {z : Int32} (hn : n < 8) (hk : kk = wst n) (h1 : kk ≤ x) (h2 : x ≤ kk + sLen.getD n 0) (e : z = sch 8 x) (c : ¬ z = nI 32) : x < kk + sLen.getD n 0 := by
  rcases Nat.lt_or_eq_of_le h2 with h | h
  · exact h
  · exfalso; apply c; rw [e, h, hk]; exact ky_sp hn
theorem ky_eq {n x kk : Nat} {z : Int32} (hn : n < 8) (hk : kk = wst n) (h1 : kk ≤ x) (h2 : x ≤ kk + sLen.getD n 0) (e : z = sch 8 x) (c : z = nI 32) : x = kk + sLen.getD n 0 := by
  rcases Nat.lt_or_eq_of_le h2 with h | h
  · exfalso
    obtain ⟨j, rfl⟩ : ∃ j, x = kk + j := ⟨x - kk, by omega⟩
    rw [e, hk] at c
    exact ky_ns hn (by omega) c
  · exact h
theorem mt_one {t : Nat → Int32} {a n ki : Nat} (h : ∀ j, j < ki → t (a + j) = sch n j) (e : t (a + ki) = sch n ki) : ∀ j, j < ki + 1 → t (a + j) = sch n j := by
  intro j hj
  by_cases c : j = ki
  · rw [c]; exact e
  · exact h j (by omega)
theorem no_one {t : Nat → Int32} {a b n : Nat} (h : ∀ m, m < n → ¬ wMt t a b m) (e : ¬ wMt t a b n) : ∀ m, m < n + 1 → ¬ wMt t a b m := by
  intro j hj
  by_cases c : j = n
  · rw [c]; exact e
  · exact h j (by omega)
theorem rn_st {p : Int32 → Bool} {t : Nat → Int32} {sz a b : Nat} (h : rn p t sz a = rn p t sz b) (h2 : rn p t sz a = a) : a = rn p t sz b := h2.symm.trans h
theorem blk_1 {x y : Int32} (e : x = y) (h : x = nI 10) : blkB y = true := by rw [← e, h]; decide +kernel
theorem blk_2 {x y : Int32} (e : x = y) (h : x = nI 32) : blkB y = true := by rw [← e, h]; decide +kernel
theorem blk_no {x x2 y : Int32} (e : x = y) (e2 : x2 = y) (h : ¬ x = nI 10) (h2 : ¬ x2 = nI 32) : ¬ blkB y = true := by
  subst e; subst e2
  simp only [blkB, Bool.or_eq_true, decide_eq_true_eq]
  exact fun q => q.elim h h2
theorem sm_m1 : ¬ smB (-1) = true := by decide +kernel
theorem dg_m1 : ¬ dgB (-1) = true := by decide +kernel
theorem tkB_w {t : Nat → Int32} {sz a : Nat} (h : a < sz) (hs : smB (t a) = true) : tkB t sz a = rn smB t sz a := by unfold tkB; rw [if_pos h, if_pos hs]
theorem tkK_w {t : Nat → Int32} {sz a b : Nat} (h : a < sz) (hs : smB (t a) = true) : tkK t sz a b = keyOf t a b := by unfold tkK; rw [if_pos h, if_pos hs]
theorem tkN_w {t : Nat → Int32} {sz a b : Nat} {o : Int32} (hs : smB (t a) = true) : tkN t sz a b o = o := by unfold tkN; rw [if_neg (fun h => h.2.1 hs)]
theorem tkB_d {t : Nat → Int32} {sz a : Nat} (h : a < sz) (hs : ¬ smB (t a) = true) (hd : dgB (t a) = true) : tkB t sz a = rn dgB t sz a := by unfold tkB; rw [if_pos h, if_neg hs, if_pos hd]
theorem tkK_d9 {t : Nat → Int32} {sz a b : Nat} (h : a < sz) (hs : ¬ smB (t a) = true) (hd : dgB (t a) = true) (hb : b - a ≤ 3) : tkK t sz a b = 9 := by unfold tkK; rw [if_pos h, if_neg hs, if_pos hd, if_neg (by omega)]
theorem tkK_d12 {t : Nat → Int32} {sz a b : Nat} (h : a < sz) (hs : ¬ smB (t a) = true) (hd : dgB (t a) = true) (hb : 3 < b - a) : tkK t sz a b = 12 := by unfold tkK; rw [if_pos h, if_neg hs, if_pos hd, if_pos hb]
theorem tkN_d {t : Nat → Int32} {sz a b : Nat} {o : Int32} (h : a < sz) (hs : ¬ smB (t a) = true) (hd : dgB (t a) = true) : tkN t sz a b o = nuV t a (min 3 (b - a)) := by unfold tkN; rw [if_pos ⟨h, hs, hd⟩]
theorem tkB_s {t : Nat → Int32} {sz a : Nat} (h : a < sz) (hs : ¬ smB (t a) = true) (hd : ¬ dgB (t a) = true) : tkB t sz a = a + 1 := by unfold tkB; rw [if_pos h, if_neg hs, if_neg hd]
theorem tkK_10 {t : Nat → Int32} {sz a b : Nat} (h : a < sz) (hs : ¬ smB (t a) = true) (hd : ¬ dgB (t a) = true) (he : t a = nI 59) : tkK t sz a b = 10 := by unfold tkK; rw [if_pos h, if_neg hs, if_neg hd, if_pos he]
theorem tkK_12 {t : Nat → Int32} {sz a b : Nat} (h : a < sz) (hs : ¬ smB (t a) = true) (hd : ¬ dgB (t a) = true) (he : ¬ t a = nI 59) : tkK t sz a b = 12 := by unfold tkK; rw [if_pos h, if_neg hs, if_neg hd, if_neg he]
theorem tkN_s {t : Nat → Int32} {sz a b : Nat} {o : Int32} (hd : ¬ dgB (t a) = true) : tkN t sz a b o = o := by unfold tkN; rw [if_neg (fun h => hd h.2.2)]
theorem tkB_e {t : Nat → Int32} {sz a : Nat} (h : sz ≤ a) : tkB t sz a = a := by unfold tkB; rw [if_neg (by omega)]
theorem tkK_e {t : Nat → Int32} {sz a b : Nat} (h : sz ≤ a) : tkK t sz a b = 11 := by unfold tkK; rw [if_neg (by omega)]
theorem tkN_e {t : Nat → Int32} {sz a b : Nat} {o : Int32} (h : sz ≤ a) : tkN t sz a b o = o := by unfold tkN; rw [if_neg (fun q => absurd q.1 (by omega))]
theorem nu_go {t : Nat → Int32} {a b : Nat} {nq z : Int32} (h : nq = nuV t a (min 3 (b - a))) (e : z = t b) (hb : b - a < 3) (hab : a ≤ b) : nI 10 * nq + z - nI 48 = nuV t a (min 3 (b + 1 - a)) := by
  rw [h, e, Nat.min_eq_right (by omega), Nat.min_eq_right (by omega), show b + 1 - a = (b - a) + 1 by omega]
  show _ = nI 10 * nuV t a (b - a) + t (a + (b - a)) - nI 48
  rw [show a + (b - a) = b by omega]
theorem nu_st {t : Nat → Int32} {a b : Nat} {nq : Int32} (h : nq = nuV t a (min 3 (b - a))) (hb : 3 ≤ b - a) : nq = nuV t a (min 3 (b + 1 - a)) := by
  rw [h, Nat.min_eq_left (by omega), Nat.min_eq_left (by omega)]
theorem tk_ok {t : Nat → Int32} {sz : Nat} {lo hi : Int32} {p : PS} (hw : p.2.2.2.2.1 = 0) (hk : p.2.2.1 = 9) (h1 : ¬ p.2.2.2.1 < lo) (h2 : ¬ hi < p.2.2.2.1) : tkS t sz lo hi p = nxS t sz p := by unfold tkS; rw [if_pos ⟨hw, hk⟩, if_neg (fun h => h.elim h1 h2)]
theorem tk_3 {t : Nat → Int32} {sz : Nat} {lo hi : Int32} {p : PS} (hw : p.2.2.2.2.1 = 0) (hk : p.2.2.1 = 9) (h : p.2.2.2.1 < lo ∨ hi < p.2.2.2.1) : tkS t sz lo hi p = faS 3 p := by unfold tkS; rw [if_pos ⟨hw, hk⟩, if_pos h]
theorem tk_2 {t : Nat → Int32} {sz : Nat} {lo hi : Int32} {p : PS} (h : ¬ (p.2.2.2.2.1 = 0 ∧ p.2.2.1 = 9)) : tkS t sz lo hi p = faS 2 p := by unfold tkS; rw [if_neg h]
theorem ti_y {t : Nat → Int32} {sz k : Nat} {lo hi : Int32} {p : PS} (h : p.2.2.2.2.1 = 0) (h2 : p.2.2.1 = k) : tiS t sz k lo hi p = tkS t sz lo hi (nxS t sz p) := by unfold tiS; rw [if_pos ⟨h, h2⟩]
theorem ti_n {t : Nat → Int32} {sz k : Nat} {lo hi : Int32} {p : PS} (h : ¬ (p.2.2.2.2.1 = 0 ∧ p.2.2.1 = k)) : tiS t sz k lo hi p = p := by unfold tiS; rw [if_neg h]
theorem tv_y {t : Nat → Int32} {sz k : Nat} {wo : Int32} {p : PS} (h : p.2.2.2.2.1 = 0) (h2 : p.2.2.1 = k) : tiV t sz k wo p = (nxS t sz p).2.2.2.1 := by unfold tiV; rw [if_pos ⟨h, h2⟩]
theorem tv_n {t : Nat → Int32} {sz k : Nat} {wo : Int32} {p : PS} (h : ¬ (p.2.2.2.2.1 = 0 ∧ p.2.2.1 = k)) : tiV t sz k wo p = wo := by unfold tiV; rw [if_neg h]
/-- a line `smith ..`, TOKEN by TOKEN -/
noncomputable def sm1 (t : Nat → Int32) (sz : Nat) (p : PS) : PS := tkS t sz (nI 0) (nI 60) (nxS t sz p)
noncomputable def smBl (t : Nat → Int32) (sz : Nat) (p : PS) : Int32 := (nxS t sz p).2.2.2.1
noncomputable def sm2 (t : Nat → Int32) (sz : Nat) (p : PS) : PS := tiS t sz 1 (nI 0) (nI 30) (sm1 t sz p)
noncomputable def smCo (t : Nat → Int32) (sz : Nat) (p : PS) : Int32 := tiV t sz 1 (nI 5) (sm1 t sz p)
noncomputable def sm3 (t : Nat → Int32) (sz : Nat) (p : PS) : PS := tiS t sz 2 (nI 0) (nI 200) (sm2 t sz p)
noncomputable def smHe (t : Nat → Int32) (sz : Nat) (p : PS) : Int32 := tiV t sz 2 (nI 0) (sm2 t sz p)
noncomputable def sm4 (t : Nat → Int32) (sz : Nat) (p : PS) : PS := tiS t sz 3 (nI 0) (nI 200) (sm3 t sz p)
noncomputable def smLo (t : Nat → Int32) (sz : Nat) (p : PS) : Int32 := tiV t sz 3 (nI 20) (sm3 t sz p)
noncomputable def sm5 (t : Nat → Int32) (sz : Nat) (p : PS) : PS := tiS t sz 4 (smLo t sz p) (nI 200) (sm4 t sz p)
def mx100 (x : Int32) : Int32 := if nI 100 < x then x else nI 100
noncomputable def smHi (t : Nat → Int32) (sz : Nat) (p : PS) : Int32 := tiV t sz 4 (mx100 (smLo t sz p)) (sm4 t sz p)
noncomputable def sm6 (t : Nat → Int32) (sz : Nat) (p : PS) : PS := tiS t sz 5 (nI 0) (nI 20) (sm5 t sz p)
noncomputable def smPi (t : Nat → Int32) (sz : Nat) (p : PS) : Int32 := tiV t sz 5 (nI 3) (sm5 t sz p)
noncomputable def smS (t : Nat → Int32) (sz n : Nat) (p : PS) : PS := if n = 10 then faS 4 p else sm6 t sz p
noncomputable def smU (t : Nat → Int32) (sz n : Nat) (p : PS) (f : Nat → Int32) : Nat → Int32 :=
  upd (upd (upd (upd (upd (upd (upd f (4 + n) (smBl t sz p)) (14 + n) (smCo t sz p)) (24 + n) (smHe t sz p)) (34 + n) (smLo t sz p)) (44 + n) (smHi t sz p)) (54 + n) (smPi t sz p)) 0 (nI (n + 1))
noncomputable def smF (t : Nat → Int32) (sz n : Nat) (p : PS) (f : Nat → Int32) : Nat → Int32 := if n = 10 then f else if (sm6 t sz p).2.2.2.2.1 = 0 then smU t sz n p f else f
noncomputable def smN (t : Nat → Int32) (sz n : Nat) (p : PS) : Nat := if n = 10 then n else if (sm6 t sz p).2.2.2.2.1 = 0 then n + 1 else n
/-- a line `blows ..`, behind its word -/
noncomputable def bl1 (t : Nat → Int32) (sz n : Nat) (p : PS) : PS := tkS t sz (nI 0) (nI n - nI 1) p
noncomputable def blS (t : Nat → Int32) (sz n : Nat) (p : PS) : PS := tkS t sz (nI 0) (nI n - nI 1) (bl1 t sz n p)
noncomputable def blF (t : Nat → Int32) (sz n : Nat) (p : PS) (f : Nat → Int32) : Nat → Int32 := if (blS t sz n p).2.2.2.2.1 = 0 then upd f (84 + (p.2.2.2.1).toNatClampNeg) ((bl1 t sz n p).2.2.2.1 + nI 1) else f
/-- the SMITHS so far, where the reading is, the numbers so far -/
abbrev RLs := Nat × PS × (Nat → Int32)
noncomputable def lnA (t : Nat → Int32) (sz : Nat) (s : RLs) : RLs :=
  if s.2.1.2.2.1 = 0 then (smN t sz s.1 s.2.1, smS t sz s.1 s.2.1, smF t sz s.1 s.2.1 s.2.2)
  else if s.2.1.2.2.1 = 6 then (s.1, blS t sz s.1 (nxS t sz s.2.1), blF t sz s.1 (nxS t sz s.2.1) s.2.2)
  else if s.2.1.2.2.1 = 7 then (s.1, tkS t sz (nI 0) (nI 20) (nxS t sz s.2.1), upd s.2.2 2 (nxS t sz s.2.1).2.2.2.1)
  else (s.1, faS 2 s.2.1, s.2.2)
noncomputable def edS (t : Nat → Int32) (sz : Nat) (p : PS) : PS := if p.2.2.2.2.1 = 0 ∧ p.2.2.1 = 10 then nxS t sz p else faS 2 p
noncomputable def lnS (t : Nat → Int32) (sz : Nat) (s : RLs) : RLs := ((lnA t sz s).1, edS t sz (lnA t sz s).2.1, upd (lnA t sz s).2.2 3 ((lnA t sz s).2.2 3 + nI 1))
noncomputable def itS (t : Nat → Int32) (sz : Nat) (s : RLs) : Nat → RLs
  | 0 => s
  | k + 1 => lnS t sz (itS t sz s k)
def stp (s : RLs) : Prop := ¬ s.2.1.2.2.2.2.1 = 0 ∨ s.2.1.2.2.1 = 11
/-- the reading ends at s -/
def FN (t : Nat → Int32) (sz : Nat) (s0 s : RLs) : Prop := ∃ K, s = itS t sz s0 K ∧ stp s ∧ ∀ j, j < K → ¬ stp (itS t sz s0 j)
theorem smS_10 {t : Nat → Int32} {sz n : Nat} {p : PS} (h : n = 10) : smS t sz n p = faS 4 p := by unfold smS; rw [if_pos h]
theorem smS_n {t : Nat → Int32} {sz n : Nat} {p : PS} (h : ¬ n = 10) : smS t sz n p = sm6 t sz p := by unfold smS; rw [if_neg h]
theorem smF_10 {t : Nat → Int32} {sz n : Nat} {p : PS} {f : Nat → Int32} (h : n = 10) : smF t sz n p f = f := by unfold smF; rw [if_pos h]
theorem smF_0 {t : Nat → Int32} {sz n : Nat} {p : PS} {f : Nat → Int32} (h : ¬ n = 10) (h2 : (sm6 t sz p).2.2.2.2.1 = 0) : smF t sz n p f = smU t sz n p f := by unfold smF; rw [if_neg h, if_pos h2]
theorem smF_w {t : Nat → Int32} {sz n : Nat} {p : PS} {f : Nat → Int32} (h : ¬ n = 10) (h2 : ¬ (sm6 t sz p).2.2.2.2.1 = 0) : smF t sz n p f = f := by unfold smF; rw [if_neg h, if_neg h2]
theorem smN_0 {t : Nat → Int32} {sz n : Nat} {p : PS} (h : ¬ n = 10) (h2 : (sm6 t sz p).2.2.2.2.1 = 0) : smN t sz n p = n + 1 := by unfold smN; rw [if_neg h, if_pos h2]
theorem tk_w {t : Nat → Int32} {sz : Nat} {lo hi : Int32} {p : PS} (h : ¬ p.2.2.2.2.1 = 0) : tkS t sz lo hi p = p := by
  rw [tk_2 (fun q => h q.1), fa_n0 h]
theorem tk_rng {t : Nat → Int32} {sz : Nat} {lo hi : Int32} {p : PS} (h : (tkS t sz lo hi p).2.2.2.2.1 = 0) : ¬ p.2.2.2.1 < lo ∧ ¬ hi < p.2.2.2.1 ∧ p.2.2.2.2.1 = 0 := by
  by_cases c : p.2.2.2.2.1 = 0 ∧ p.2.2.1 = 9
  · by_cases c2 : p.2.2.2.1 < lo ∨ hi < p.2.2.2.1
    · rw [tk_3 c.1 c.2 c2] at h; exact absurd h (fa_w (by decide))
    · exact ⟨fun q => c2 (Or.inl q), fun q => c2 (Or.inr q), c.1⟩
  · rw [tk_2 c] at h; exact absurd h (fa_w (by decide))
theorem ti_rng {t : Nat → Int32} {sz k : Nat} {lo hi wo : Int32} {p : PS} (h : (tiS t sz k lo hi p).2.2.2.2.1 = 0) : p.2.2.2.2.1 = 0 ∧ ((¬ tiV t sz k wo p < lo ∧ ¬ hi < tiV t sz k wo p) ∨ tiV t sz k wo p = wo) := by
  by_cases c : p.2.2.2.2.1 = 0 ∧ p.2.2.1 = k
  · rw [ti_y c.1 c.2] at h
    rw [tv_y c.1 c.2]
    have := tk_rng h
    exact ⟨c.1, Or.inl ⟨this.1, this.2.1⟩⟩
  · rw [ti_n c] at h
    exact ⟨h, Or.inr (tv_n c)⟩
theorem sm1_e {t : Nat → Int32} {sz : Nat} {p : PS} : sm1 t sz p = tkS t sz (nI 0) (nI 60) (nxS t sz p) := rfl
theorem sm2_e {t : Nat → Int32} {sz : Nat} {p : PS} : sm2 t sz p = tiS t sz 1 (nI 0) (nI 30) (sm1 t sz p) := rfl
theorem sm3_e {t : Nat → Int32} {sz : Nat} {p : PS} : sm3 t sz p = tiS t sz 2 (nI 0) (nI 200) (sm2 t sz p) := rfl
theorem sm4_e {t : Nat → Int32} {sz : Nat} {p : PS} : sm4 t sz p = tiS t sz 3 (nI 0) (nI 200) (sm3 t sz p) := rfl
theorem sm5_e {t : Nat → Int32} {sz : Nat} {p : PS} : sm5 t sz p = tiS t sz 4 (smLo t sz p) (nI 200) (sm4 t sz p) := rfl
theorem sm6_e {t : Nat → Int32} {sz : Nat} {p : PS} : sm6 t sz p = tiS t sz 5 (nI 0) (nI 20) (sm5 t sz p) := rfl
theorem bl_e {t : Nat → Int32} {sz n : Nat} {p : PS} : blS t sz n p = tkS t sz (nI 0) (nI n - nI 1) (bl1 t sz n p) := rfl
theorem bl1_e {t : Nat → Int32} {sz n : Nat} {p : PS} : bl1 t sz n p = tkS t sz (nI 0) (nI n - nI 1) p := rfl
theorem sm_w {t : Nat → Int32} {sz : Nat} {p : PS} (h : (sm6 t sz p).2.2.2.2.1 = 0) : (sm5 t sz p).2.2.2.2.1 = 0 ∧ (sm4 t sz p).2.2.2.2.1 = 0 ∧ (sm3 t sz p).2.2.2.2.1 = 0 ∧ (sm2 t sz p).2.2.2.2.1 = 0 ∧ (sm1 t sz p).2.2.2.2.1 = 0 := by
  rw [sm6_e] at h
  have h5 := (ti_rng (wo := 0) h).1
  have k5 := h5
  rw [sm5_e] at k5
  have h4 := (ti_rng (wo := 0) k5).1
  have k4 := h4
  rw [sm4_e] at k4
  have h3 := (ti_rng (wo := 0) k4).1
  have k3 := h3
  rw [sm3_e] at k3
  have h2 := (ti_rng (wo := 0) k3).1
  have k2 := h2
  rw [sm2_e] at k2
  exact ⟨h5, h4, h3, h2, (ti_rng (wo := 0) k2).1⟩
theorem FR_sm {t : Nat → Int32} {sz n : Nat} {p : PS} {f : Nat → Int32} (h : FR n f) : FR (smN t sz n p) (smF t sz n p f) := by
  by_cases c : n = 10
  · rw [smF_10 c]; unfold smN; rw [if_pos c]; exact h
  · by_cases c2 : (sm6 t sz p).2.2.2.2.1 = 0
    · rw [smF_0 c c2, smN_0 c c2]
      have hlt : n < 10 := Nat.lt_of_le_of_ne h.1 c
      obtain ⟨h5, h4, h3, h2, h1⟩ := sm_w c2
      rw [sm1_e] at h1
      rw [sm2_e] at h2
      rw [sm3_e] at h3
      rw [sm6_e] at c2
      refine fr_smith h hlt ?_ ?_ ?_ ?_
      · have := tk_rng h1; exact rg_bd ⟨this.1, this.2.1⟩ (by decide)
      · exact rg_or (c := 5) (ti_rng h2).2 (by decide) (by decide)
      · exact bd_le (rg_or (c := 0) (ti_rng h3).2 (by decide) (by decide)) (show 201 ≤ 256 by decide)
      · exact rg_or (c := 3) (ti_rng c2).2 (by decide) (by decide)
    · rw [smF_w c c2]; unfold smN; rw [if_neg c, if_neg c2]; exact h
theorem bl_0 {t : Nat → Int32} {sz n a b : Nat} {p : PS} {f : Nat → Int32} (h : (blS t sz n p).2.2.2.2.1 = 0) (ea : p.2.2.2.1 = nI a) (eb : (bl1 t sz n p).2.2.2.1 = nI b) (ha : a < 10) : blF t sz n p f = upd f (84 + a) (nI (b + 1)) := by
  unfold blF; rw [if_pos h, ea, eb, nI_clamp (by omega), nI_add]
theorem bl_w {t : Nat → Int32} {sz n : Nat} {p : PS} {f : Nat → Int32} (h : ¬ (blS t sz n p).2.2.2.2.1 = 0) : blF t sz n p f = f := by unfold blF; rw [if_neg h]
theorem FR_bl {t : Nat → Int32} {sz n : Nat} {p : PS} {f : Nat → Int32} (h : FR n f) : FR n (blF t sz n p f) := by
  by_cases c : (blS t sz n p).2.2.2.2.1 = 0
  · have c' := c
    rw [bl_e] at c'
    have r2 := tk_rng c'
    have q := r2.2.2
    rw [bl1_e] at q
    have r1 := tk_rng q
    have hn := h.1
    obtain ⟨a, ha, ea⟩ := pred_bd hn r1.1 r1.2.1
    obtain ⟨b, hb, eb⟩ := pred_bd hn r2.1 r2.2.1
    rw [bl_0 c ea eb (by omega)]
    exact fr_blow h (by omega) (bd_nI (by omega))
  · rw [bl_w c]; exact h
/-- the numbers at the beginning, over what was there -/
def frI (f : Nat → Int32) : Nat → Int32 := fun j => if j < 94 then (if j = 2 then nI 20 else nI 0) else f j
theorem frI_eq {f g : Nat → Int32} (h : ∀ j, j < 94 → g j = if j = 2 then nI 20 else nI 0) (h2 : ∀ j, 94 ≤ j → g j = f j) : g = frI f := by
  funext j
  unfold frI
  by_cases c : j < 94
  · rw [if_pos c]; exact h j c
  · rw [if_neg c]; exact h2 j (by omega)
theorem ln_sm {t : Nat → Int32} {sz n : Nat} {p : PS} {f : Nat → Int32} (hk : p.2.2.1 = 0) : lnA t sz (n, p, f) = (smN t sz n p, smS t sz n p, smF t sz n p f) := by
  unfold lnA; rw [if_pos hk]
theorem ln_bl {t : Nat → Int32} {sz n : Nat} {p : PS} {f : Nat → Int32} (hk : p.2.2.1 = 6) : lnA t sz (n, p, f) = (n, blS t sz n (nxS t sz p), blF t sz n (nxS t sz p) f) := by
  unfold lnA; rw [if_neg (by show ¬ p.2.2.1 = 0; omega), if_pos hk]
theorem ln_bu {t : Nat → Int32} {sz n : Nat} {p : PS} {f : Nat → Int32} (hk : p.2.2.1 = 7) : lnA t sz (n, p, f) = (n, tkS t sz (nI 0) (nI 20) (nxS t sz p), upd f 2 (nxS t sz p).2.2.2.1) := by
  unfold lnA; rw [if_neg (by show ¬ p.2.2.1 = 0; omega), if_neg (by show ¬ p.2.2.1 = 6; omega), if_pos hk]
theorem ln_no {t : Nat → Int32} {sz n : Nat} {p : PS} {f : Nat → Int32} (h0 : ¬ p.2.2.1 = 0) (h6 : ¬ p.2.2.1 = 6) (h7 : ¬ p.2.2.1 = 7) : lnA t sz (n, p, f) = (n, faS 2 p, f) := by
  unfold lnA; rw [if_neg h0, if_neg h6, if_neg h7]
theorem ed_y {t : Nat → Int32} {sz : Nat} {p : PS} (h : p.2.2.2.2.1 = 0) (h2 : p.2.2.1 = 10) : edS t sz p = nxS t sz p := by unfold edS; rw [if_pos ⟨h, h2⟩]
theorem ed_n {t : Nat → Int32} {sz : Nat} {p : PS} (h : ¬ (p.2.2.2.2.1 = 0 ∧ p.2.2.1 = 10)) : edS t sz p = faS 2 p := by unfold edS; rw [if_neg h]
theorem PI_sm {t : Nat → Int32} {sz n : Nat} {p : PS} (h : PI t sz p) : PI t sz (smS t sz n p) := by
  unfold smS
  split
  · exact PI_fa h (by decide)
  · exact PI_ti (PI_ti (PI_ti (PI_ti (PI_ti (PI_tk (PI_nxI h))))))
theorem PI_bl {t : Nat → Int32} {sz n : Nat} {p : PS} (h : PI t sz p) : PI t sz (blS t sz n p) := PI_tk (PI_tk h)
theorem PI_ed {t : Nat → Int32} {sz : Nat} {p : PS} (h : PI t sz p) : PI t sz (edS t sz p) := by
  unfold edS
  split
  · exact PI_nxI h
  · exact PI_fa h (by decide)
/-- a new TOKEN is behind the old one, or the end -/
theorem nx_mv {t : Nat → Int32} {sz : Nat} {p : PS} (h : p.2.1 ≤ sz) : p.2.1 ≤ (nxS t sz p).2.1 ∧ ((nxS t sz p).2.2.1 = 11 ∨ p.2.1 < (nxS t sz p).2.1) := by
  have h1 := rn_ge (p := blkB) (t := t) h
  have h2 := rn_le (p := blkB) (t := t) h
  have h3 := tkB_le (t := t) h2
  refine ⟨Nat.le_trans h1 h3.1, ?_⟩
  by_cases c : rn blkB t sz p.2.1 < sz
  · exact Or.inr (Nat.lt_of_le_of_lt h1 (tkB_lt c))
  · exact Or.inl (tkK_e (by omega))
theorem fa_b {f : Nat} {p : PS} : (faS f p).2.1 = p.2.1 := by
  unfold faS; split <;> rfl
theorem tk_b {t : Nat → Int32} {sz : Nat} {lo hi : Int32} {p : PS} (h : PI t sz p) : p.2.1 ≤ (tkS t sz lo hi p).2.1 := by
  unfold tkS
  split
  · split
    · rw [fa_b]; exact Nat.le_refl _
    · exact (nx_mv h.2.1).1
  · rw [fa_b]; exact Nat.le_refl _
theorem ti_b {t : Nat → Int32} {sz k : Nat} {lo hi : Int32} {p : PS} (h : PI t sz p) : p.2.1 ≤ (tiS t sz k lo hi p).2.1 := by
  unfold tiS
  split
  · exact Nat.le_trans (nx_mv h.2.1).1 (tk_b (PI_nxI h))
  · exact Nat.le_refl _
theorem sm_b {t : Nat → Int32} {sz n : Nat} {p : PS} (h : PI t sz p) : p.2.1 ≤ (smS t sz n p).2.1 := by
  unfold smS
  split
  · rw [fa_b]; exact Nat.le_refl _
  · have q0 := PI_nxI h
    have q1 : PI t sz (sm1 t sz p) := PI_tk q0
    have q2 : PI t sz (sm2 t sz p) := PI_ti q1
    have q3 : PI t sz (sm3 t sz p) := PI_ti q2
    have q4 : PI t sz (sm4 t sz p) := PI_ti q3
    have q5 : PI t sz (sm5 t sz p) := PI_ti q4
    have b0 := (nx_mv (t := t) h.2.1).1
    have b1 : (nxS t sz p).2.1 ≤ (sm1 t sz p).2.1 := by rw [sm1_e]; exact tk_b q0
    have b2 : (sm1 t sz p).2.1 ≤ (sm2 t sz p).2.1 := by rw [sm2_e]; exact ti_b q1
    have b3 : (sm2 t sz p).2.1 ≤ (sm3 t sz p).2.1 := by rw [sm3_e]; exact ti_b q2
    have b4 : (sm3 t sz p).2.1 ≤ (sm4 t sz p).2.1 := by rw [sm4_e]; exact ti_b q3
    have b5 : (sm4 t sz p).2.1 ≤ (sm5 t sz p).2.1 := by rw [sm5_e]; exact ti_b q4
    have b6 : (sm5 t sz p).2.1 ≤ (sm6 t sz p).2.1 := by rw [sm6_e]; exact ti_b q5
    exact Nat.le_trans b0 (Nat.le_trans b1 (Nat.le_trans b2 (Nat.le_trans b3 (Nat.le_trans b4 (Nat.le_trans b5 b6)))))
theorem lnA_pi {t : Nat → Int32} {sz : Nat} {s : RLs} (h : PI t sz s.2.1) : PI t sz (lnA t sz s).2.1 ∧ s.2.1.2.1 ≤ (lnA t sz s).2.1.2.1 := by
  unfold lnA
  split
  · exact ⟨PI_sm h, sm_b h⟩
  · split
    · exact ⟨PI_bl (PI_nxI h), Nat.le_trans (nx_mv h.2.1).1 (Nat.le_trans (tk_b (PI_nxI h)) (tk_b (PI_tk (PI_nxI h))))⟩
    · split
      · exact ⟨PI_tk (PI_nxI h), Nat.le_trans (nx_mv h.2.1).1 (tk_b (PI_nxI h))⟩
      · exact ⟨PI_fa h (by decide), by show _ ≤ (faS 2 s.2.1).2.1; rw [fa_b]; exact Nat.le_refl _⟩
/-- a line further: the FAULT, the end, or a TOKEN behind -/
theorem ln_mv {t : Nat → Int32} {sz : Nat} {s : RLs} (h : PI t sz s.2.1) : PI t sz (lnS t sz s).2.1 ∧ (stp (lnS t sz s) ∨ s.2.1.2.1 < (lnS t sz s).2.1.2.1) := by
  obtain ⟨h1, h2⟩ := lnA_pi h
  refine ⟨PI_ed h1, ?_⟩
  by_cases c : (lnA t sz s).2.1.2.2.2.2.1 = 0 ∧ (lnA t sz s).2.1.2.2.1 = 10
  · have e : (lnS t sz s).2.1 = nxS t sz (lnA t sz s).2.1 := ed_y c.1 c.2
    rcases (nx_mv (t := t) h1.2.1).2 with q | q
    · exact Or.inl (Or.inr (by rw [e]; exact q))
    · exact Or.inr (by rw [e]; omega)
  · have e : (lnS t sz s).2.1 = faS 2 (lnA t sz s).2.1 := ed_n c
    exact Or.inl (Or.inl (by rw [e]; exact fa_w (by decide)))
theorem it_pi {t : Nat → Int32} {sz : Nat} {s : RLs} (h : PI t sz s.2.1) : ∀ k, PI t sz (itS t sz s k).2.1
  | 0 => h
  | k + 1 => (ln_mv (it_pi h k)).1
theorem it_mv {t : Nat → Int32} {sz : Nat} {s : RLs} (h : PI t sz s.2.1) : ∀ k, (∀ j, j < k → ¬ stp (itS t sz s j)) → (stp (itS t sz s k) ∨ s.2.1.2.1 + k ≤ (itS t sz s k).2.1.2.1)
  | 0, _ => Or.inr (Nat.le_refl _)
  | k + 1, hj => by
    rcases it_mv h k (fun j q => hj j (by omega)) with q | q
    · exact absurd q (hj k (by omega))
    · rcases (ln_mv (it_pi h k)).2 with r | r
      · exact Or.inl r
      · refine Or.inr ?_
        have r' : (itS t sz s k).2.1.2.1 < (itS t sz s (k + 1)).2.1.2.1 := r
        omega

theorem ky_l8 {n kk : Nat} (hn : n ≤ 8) (hk : kk = wst n) (h : kk < 44) : n < 8 := by
  rcases Nat.lt_or_eq_of_le hn with h1 | h1
  · exact h1
  · subst h1
    have : wst 8 = 44 := rfl
    omega

def q_f_isSmall (T : Nat → ClassId) (x : Int32) : Option Value → va_W → Prop := fun rr ww => (rr = some (.int (nI 1)) ∧ ww = [] ∧ smB x = true) ∨ (rr = some (.int (nI 0)) ∧ ww = [] ∧ ¬ smB x = true)
set_option maxHeartbeats 4000000 in
set_option maxRecDepth 100000 in
theorem f_isSmall (l : Launch) (D : va_G) (T : Nat → ClassId) (x : Int32) : Ct l yX8_isSmall cX8_isSmall 1 (some .boolean) 0 0 0 D T [.int x] [] (q_f_isSmall T x) := by
  refine Ct.of (cc := cX8_isSmall) (maxL := 1) (ret := (some .boolean)) (by decide) (Nat.le_of_ble_eq_true rfl) ?_
  intro p e s m args below meth c A ls hC hnm V hl
  obtain ⟨hx, hb, hr, hml, hown, hts, hlocks⟩ := id hC
  generalize hH : s.heap = H at V ⊢
  clear hH
  have hl : lv_has ls 1 [(0, .int x)] := hl
  generalize hlo : ([] : List Loc) = locs at V ⊢
  clear hlo
  refine lv_iload_n hx hb dX8_isSmall_0 rfl (lv_at hl 0 rfl) ?_
  refine lv_bipush (v := (nI 97)) hx hb dX8_isSmall_1 (by decide +kernel) ?_
  refine lv_icmp_lt (tgt := 16) hx hb dX8_isSmall_3 (by decide) (fun c_1 => ?_) (fun c_1 => ?_)
  · skip
    refine lv_iconst (v := (nI 0)) hx hb dX8_isSmall_16 (by decide +kernel) ?_
    exact g_zret (Qr := (q_f_isSmall T x)) hC V ⟨(Nat.le_of_ble_eq_true rfl), (Nat.le_of_ble_eq_true rfl)⟩ (by first | decide +kernel | exact rfl) (.inr ⟨rfl, rfl, (by simp only [smB, Bool.and_eq_true, decide_eq_true_eq]; first | exact ⟨by assumption, by assumption⟩ | exact fun h => h.1 (by assumption) | exact fun h => h.2 (by assumption))⟩) dX8_isSmall_17
  · skip
    refine lv_iload_n hx hb dX8_isSmall_6 rfl (lv_at hl 0 rfl) ?_
    refine lv_bipush (v := (nI 122)) hx hb dX8_isSmall_7 (by decide +kernel) ?_
    refine lv_icmp_gt (tgt := 16) hx hb dX8_isSmall_9 (by decide) (fun c_2 => ?_) (fun c_2 => ?_)
    · skip
      refine lv_iconst (v := (nI 0)) hx hb dX8_isSmall_16 (by decide +kernel) ?_
      exact g_zret (Qr := (q_f_isSmall T x)) hC V ⟨(Nat.le_of_ble_eq_true rfl), (Nat.le_of_ble_eq_true rfl)⟩ (by first | decide +kernel | exact rfl) (.inr ⟨rfl, rfl, (by simp only [smB, Bool.and_eq_true, decide_eq_true_eq]; first | exact ⟨by assumption, by assumption⟩ | exact fun h => h.1 (by assumption) | exact fun h => h.2 (by assumption))⟩) dX8_isSmall_17
    · skip
      refine lv_iconst (v := (nI 1)) hx hb dX8_isSmall_12 (by decide +kernel) ?_
      refine lv_goto (tgt := 17) hx hb dX8_isSmall_13 (by decide) ?_
      exact g_zret (Qr := (q_f_isSmall T x)) hC V ⟨(Nat.le_of_ble_eq_true rfl), (Nat.le_of_ble_eq_true rfl)⟩ (by first | decide +kernel | exact rfl) (.inl ⟨rfl, rfl, (by simp only [smB, Bool.and_eq_true, decide_eq_true_eq]; first | exact ⟨by assumption, by assumption⟩ | exact fun h => h.1 (by assumption) | exact fun h => h.2 (by assumption))⟩) dX8_isSmall_17

def q_f_isDigit (T : Nat → ClassId) (x : Int32) : Option Value → va_W → Prop := fun rr ww => (rr = some (.int (nI 1)) ∧ ww = [] ∧ dgB x = true) ∨ (rr = some (.int (nI 0)) ∧ ww = [] ∧ ¬ dgB x = true)
set_option maxHeartbeats 4000000 in
set_option maxRecDepth 100000 in
theorem f_isDigit (l : Launch) (D : va_G) (T : Nat → ClassId) (x : Int32) : Ct l yX8_isDigit cX8_isDigit 1 (some .boolean) 0 0 0 D T [.int x] [] (q_f_isDigit T x) := by
  refine Ct.of (cc := cX8_isDigit) (maxL := 1) (ret := (some .boolean)) (by decide) (Nat.le_of_ble_eq_true rfl) ?_
  intro p e s m args below meth c A ls hC hnm V hl
  obtain ⟨hx, hb, hr, hml, hown, hts, hlocks⟩ := id hC
  generalize hH : s.heap = H at V ⊢
  clear hH
  have hl : lv_has ls 1 [(0, .int x)] := hl
  generalize hlo : ([] : List Loc) = locs at V ⊢
  clear hlo
  refine lv_iload_n hx hb dX8_isDigit_0 rfl (lv_at hl 0 rfl) ?_
  refine lv_bipush (v := (nI 48)) hx hb dX8_isDigit_1 (by decide +kernel) ?_
  refine lv_icmp_lt (tgt := 16) hx hb dX8_isDigit_3 (by decide) (fun c_1 => ?_) (fun c_1 => ?_)
  · skip
    refine lv_iconst (v := (nI 0)) hx hb dX8_isDigit_16 (by decide +kernel) ?_
    exact g_zret (Qr := (q_f_isDigit T x)) hC V ⟨(Nat.le_of_ble_eq_true rfl), (Nat.le_of_ble_eq_true rfl)⟩ (by first | decide +kernel | exact rfl) (.inr ⟨rfl, rfl, (by simp only [dgB, Bool.and_eq_true, decide_eq_true_eq]; first | exact ⟨by assumption, by assumption⟩ | exact fun h => h.1 (by assumption) | exact fun h => h.2 (by assumption))⟩) dX8_isDigit_17
  · skip
    refine lv_iload_n hx hb dX8_isDigit_6 rfl (lv_at hl 0 rfl) ?_
    refine lv_bipush (v := (nI 57)) hx hb dX8_isDigit_7 (by decide +kernel) ?_
    refine lv_icmp_gt (tgt := 16) hx hb dX8_isDigit_9 (by decide) (fun c_2 => ?_) (fun c_2 => ?_)
    · skip
      refine lv_iconst (v := (nI 0)) hx hb dX8_isDigit_16 (by decide +kernel) ?_
      exact g_zret (Qr := (q_f_isDigit T x)) hC V ⟨(Nat.le_of_ble_eq_true rfl), (Nat.le_of_ble_eq_true rfl)⟩ (by first | decide +kernel | exact rfl) (.inr ⟨rfl, rfl, (by simp only [dgB, Bool.and_eq_true, decide_eq_true_eq]; first | exact ⟨by assumption, by assumption⟩ | exact fun h => h.1 (by assumption) | exact fun h => h.2 (by assumption))⟩) dX8_isDigit_17
    · skip
      refine lv_iconst (v := (nI 1)) hx hb dX8_isDigit_12 (by decide +kernel) ?_
      refine lv_goto (tgt := 17) hx hb dX8_isDigit_13 (by decide) ?_
      exact g_zret (Qr := (q_f_isDigit T x)) hC V ⟨(Nat.le_of_ble_eq_true rfl), (Nat.le_of_ble_eq_true rfl)⟩ (by first | decide +kernel | exact rfl) (.inl ⟨rfl, rfl, (by simp only [dgB, Bool.and_eq_true, decide_eq_true_eq]; first | exact ⟨by assumption, by assumption⟩ | exact fun h => h.1 (by assumption) | exact fun h => h.2 (by assumption))⟩) dX8_isDigit_17

def q_m_keyAt_f (T : Nat → ClassId) (o : Nat) (w0 : Int32) (g1 : Nat) (g2 : Nat) (g3 : Nat) (g4 : Nat) (tp : Nat) (at_ : Nat) (be : Nat) (sz : Nat) (w9 : Int32) (w10 : Int32) (w11 : Int32) (w12 : Int32) (w13 : Int32) (w14 : Int32) (g15 : Nat) (w16 : Int32) (g17 : Nat) (w18 : Int32) (w19 : Int32) (g20 : Nat) (w21 : Int32) (g22 : Nat) (g23 : Nat) (g24 : Nat) (w25 : Int32) (w26 : Int32) (w27 : Int32) (g28 : Nat) (g29 : Nat) (w30 : Int32) (g31 : Nat) (g32 : Nat) (g33 : Nat) (ft : Nat → Int32) : Option Value → va_W → Prop := fun rr ww => (∃ (z : Nat), rr = some (.int (nI z)) ∧ ww = [(o, .inr (8, [.int w0, .ref g1, .ref g2, .ref g3, .ref g4, .int (nI tp), .int (nI at_), .int (nI be), .int (nI sz), .int w9, .int w10, .int w11, .int w12, .int w13, .int w14, .ref g15, .int w16, .ref g17, .int w18, .int w19, .ref g20, .int w21, .ref g22, .ref g23, .ref g24, .int w25, .int w26, .int w27, .ref g28, .ref g29, .int w30, .ref g31, .ref g32, .ref g33])), (g3, .inl (T 0, 900, .inl ft))] ∧ z = keyOf ft at_ be)
set_option maxHeartbeats 4000000 in
set_option maxRecDepth 100000 in
theorem m_keyAt_f (l : Launch) (D : va_G) (T : Nat → ClassId) (o : Nat) (w0 : Int32) (g1 : Nat) (g2 : Nat) (g3 : Nat) (g4 : Nat) (tp : Nat) (at_ : Nat) (be : Nat) (sz : Nat) (w9 : Int32) (w10 : Int32) (w11 : Int32) (w12 : Int32) (w13 : Int32) (w14 : Int32) (g15 : Nat) (w16 : Int32) (g17 : Nat) (w18 : Int32) (w19 : Int32) (g20 : Nat) (w21 : Int32) (g22 : Nat) (g23 : Nat) (g24 : Nat) (w25 : Int32) (w26 : Int32) (w27 : Int32) (g28 : Nat) (g29 : Nat) (w30 : Int32) (g31 : Nat) (g32 : Nat) (g33 : Nat) (ft : Nat → Int32) (h_sz : sz ≤ 900) (h_ab : at_ ≤ be ∧ be ≤ sz) : Ct l yX8_keyAt cX8_keyAt 4 (some .int) 4 0 0 D T [.ref o] [(o, .inr (8, [.int w0, .ref g1, .ref g2, .ref g3, .ref g4, .int (nI tp), .int (nI at_), .int (nI be), .int (nI sz), .int w9, .int w10, .int w11, .int w12, .int w13, .int w14, .ref g15, .int w16, .ref g17, .int w18, .int w19, .ref g20, .int w21, .ref g22, .ref g23, .ref g24, .int w25, .int w26, .int w27, .ref g28, .ref g29, .int w30, .ref g31, .ref g32, .ref g33])), (g3, .inl (T 0, 900, .inl ft))] (q_m_keyAt_f T o w0 g1 g2 g3 g4 tp at_ be sz w9 w10 w11 w12 w13 w14 g15 w16 g17 w18 w19 g20 w21 g22 g23 g24 w25 w26 w27 g28 g29 w30 g31 g32 g33 ft) := by
  refine Ct.of (cc := cX8_keyAt) (maxL := 4) (ret := (some .int)) (by decide) (Nat.le_of_ble_eq_true rfl) ?_
  intro p e s m args below meth c A ls hC hnm V hl
  obtain ⟨hx, hb, hr, hml, hown, hts, hlocks⟩ := id hC
  generalize hH : s.heap = H at V ⊢
  clear hH
  have hl : lv_has ls 4 [(0, .ref o)] := hl
  generalize hlo : ([] : List Loc) = locs at V ⊢
  clear hlo
  have hs8 : sLen.getD 8 0 = 44 := rfl
  refine lv_iconst (v := (nI 0)) hx hb dX8_keyAt_0 (by decide +kernel) ?_
  refine lv_istore_n (lv' := [(1, .int (nI 0)), (0, .ref o)]) hx hb dX8_keyAt_1 rfl hl (by decide) rfl (fun ls hl => ?_)
  refine lv_iconst (v := (nI 1)) hx hb dX8_keyAt_2 (by decide +kernel) ?_
  refine lv_istore_n (lv' := [(2, .int (nI 1)), (1, .int (nI 0)), (0, .ref o)]) hx hb dX8_keyAt_3 rfl hl (by decide) rfl (fun ls hl => ?_)
  have L_1 : ∀ (fu : Nat) (nq : Nat) (kk : Nat), nq ≤ 8 → kk = wst nq → (∀ m, m < nq → ¬ wMt ft at_ be m) → 9 - nq < fu → ∀ (H : Heap) (locs : List Loc) (ls : Array Slot), gW D T A s [(o, .inr (8, [.int w0, .ref g1, .ref g2, .ref g3, .ref g4, .int (nI tp), .int (nI at_), .int (nI be), .int (nI sz), .int w9, .int w10, .int w11, .int w12, .int w13, .int w14, .ref g15, .int w16, .ref g17, .int w18, .int w19, .ref g20, .int w21, .ref g22, .ref g23, .ref g24, .int w25, .int w26, .int w27, .ref g28, .ref g29, .int w30, .ref g31, .ref g32, .ref g33])), (g3, .inl (T 0, 900, .inl ft))] H locs → lv_has ls 4 [(2, .int (nI kk)), (1, .int (nI nq)), (0, .ref o)] → W p l e (rmD 4 0 0) s m args below meth c H locs 0 0 (MQ below (gQ D A (q_m_keyAt_f T o w0 g1 g2 g3 g4 tp at_ be sz w9 w10 w11 w12 w13 w14 g15 w16 g17 w18 w19 g20 w21 g22 g23 g24 w25 w26 w27 g28 g29 w30 g31 g32 g33 ft)) args s 0 0 A) (F0 m 4 ls []) := by
    intro fu_4
    induction fu_4 with
    | zero => intro nq kk hnq hkk hno hmu; exact absurd hmu (Nat.not_lt_zero _)
    | succ fu_4 ih_4 =>
      intro nq kk hnq hkk hno hmu_4 H locs ls V hl
      have hk8 := ky_8 hnq
      refine lv_iload_n hx hb dX8_keyAt_4 rfl (lv_at hl 0 rfl) ?_
      refine g_ldcS hC V 8 rfl dX8_keyAt_5 ?_
      refine g_callZU (nA := 0) hC V hl.1 (z_length l D T 8 (by decide)) w_1042 w_327 w_328 w_12 w_329 (by decide +kernel) rfl ⟨(Nat.le_of_ble_eq_true rfl), (Nat.le_of_ble_eq_true rfl)⟩ (si := 8) (by first | assumption | decide) rfl rfl [] rfl rfl (Nat.le_of_ble_eq_true rfl) dX8_keyAt_7 ⟨(Nat.le_of_ble_eq_true rfl), (Nat.le_of_ble_eq_true rfl)⟩ rfl (fun r w1 H locs hQ V => ?_)
      obtain ⟨rfl, rfl⟩ := hQ
      have V : gW D T A s [(o, .inr (8, [.int w0, .ref g1, .ref g2, .ref g3, .ref g4, .int (nI tp), .int (nI at_), .int (nI be), .int (nI sz), .int w9, .int w10, .int w11, .int w12, .int w13, .int w14, .ref g15, .int w16, .ref g17, .int w18, .int w19, .ref g20, .int w21, .ref g22, .ref g23, .ref g24, .int w25, .int w26, .int w27, .ref g28, .ref g29, .int w30, .ref g31, .ref g32, .ref g33])), (g3, .inl (T 0, 900, .inl ft))] H locs := V _ [] rfl rfl rfl (by decide +kernel) rfl
      show W p l e _ s m args below meth c H locs _ _ _ (F0 m 10 ls [.int (nI (sLen.getD 8 0)), .int (nI kk)])
      refine lv_icmp_ge (tgt := 123) hx hb dX8_keyAt_10 (by decide) (fun c_2 => ?_) (fun c_2 => ?_)
      · skip
        have c_2 := b_le (by omega) (by omega) c_2
        refine lv_bipush (v := (nI 8)) hx hb dX8_keyAt_123 (by decide +kernel) ?_
        exact g_iret (Qr := (q_m_keyAt_f T o w0 g1 g2 g3 g4 tp at_ be sz w9 w10 w11 w12 w13 w14 g15 w16 g17 w18 w19 g20 w21 g22 g23 g24 w25 w26 w27 g28 g29 w30 g31 g32 g33 ft)) hC V ⟨(Nat.le_of_ble_eq_true rfl), (Nat.le_of_ble_eq_true rfl)⟩ ⟨8, rfl, rfl, (keyOf_no (fun i hi => hno i (by have := ky_8 hnq; omega))).symm⟩ dX8_keyAt_125
      · skip
        have c_2 := b_nle (by omega) (by omega) c_2
        have hn8 : nq < 8 := ky_l8 hnq hkk (by omega)
        obtain ⟨hq1, hq2, hq3⟩ := ky_nx hn8
        refine lv_iconst (v := (nI 0)) hx hb dX8_keyAt_13 (by decide +kernel) ?_
        refine lv_istore_n (lv' := [(3, .int (nI 0)), (2, .int (nI kk)), (1, .int (nI nq)), (0, .ref o)]) hx hb dX8_keyAt_14 rfl hl (by decide) rfl (fun ls hl => ?_)
        have L_3 : ∀ (fu : Nat) (ki : Nat), ki ≤ sLen.getD nq 0 → at_ + ki ≤ be → (∀ j, j < ki → ft (at_ + j) = sch nq j) → sLen.getD nq 0 - ki < fu → ∀ (H : Heap) (locs : List Loc) (ls : Array Slot), gW D T A s [(o, .inr (8, [.int w0, .ref g1, .ref g2, .ref g3, .ref g4, .int (nI tp), .int (nI at_), .int (nI be), .int (nI sz), .int w9, .int w10, .int w11, .int w12, .int w13, .int w14, .ref g15, .int w16, .ref g17, .int w18, .int w19, .ref g20, .int w21, .ref g22, .ref g23, .ref g24, .int w25, .int w26, .int w27, .ref g28, .ref g29, .int w30, .ref g31, .ref g32, .ref g33])), (g3, .inl (T 0, 900, .inl ft))] H locs → lv_has ls 4 [(3, .int (nI ki)), (2, .int (nI kk)), (1, .int (nI nq)), (0, .ref o)] → W p l e (rmD 4 0 0) s m args below meth c H locs 0 0 (MQ below (gQ D A (q_m_keyAt_f T o w0 g1 g2 g3 g4 tp at_ be sz w9 w10 w11 w12 w13 w14 g15 w16 g17 w18 w19 g20 w21 g22 g23 g24 w25 w26 w27 g28 g29 w30 g31 g32 g33 ft)) args s 0 0 A) (F0 m 15 ls []) := by
          intro fu_15
          induction fu_15 with
          | zero => intro ki hki hab2 hmt hmu; exact absurd hmu (Nat.not_lt_zero _)
          | succ fu_15 ih_15 =>
            intro ki hki hab2 hmt hmu_15 H locs ls V hl
            refine g_ldcS hC V 8 rfl dX8_keyAt_15 ?_
            refine lv_iload_n hx hb dX8_keyAt_17 rfl (lv_at hl 1 rfl) ?_
            refine lv_iload_n hx hb dX8_keyAt_18 rfl (lv_at hl 0 rfl) ?_
            refine lv_iadd hx hb dX8_keyAt_19 ?_
            refine g_vi (y := (nI (kk + ki))) (nI_add _ _) ?_
            refine g_callZU (nA := 1) hC V hl.1 (z_charAt l D T 8 (kk + ki) (by decide) (by omega)) w_1043 w_337 w_338 w_12 w_339 (by decide +kernel) rfl ⟨(Nat.le_of_ble_eq_true rfl), (Nat.le_of_ble_eq_true rfl)⟩ (si := 8) (by first | assumption | decide) rfl rfl [] rfl rfl (Nat.le_of_ble_eq_true rfl) dX8_keyAt_20 ⟨(Nat.le_of_ble_eq_true rfl), (Nat.le_of_ble_eq_true rfl)⟩ rfl (fun r w1 H locs hQ V => ?_)
            obtain ⟨z_4, rfl, rfl, f_5⟩ := hQ
            have V : gW D T A s [(o, .inr (8, [.int w0, .ref g1, .ref g2, .ref g3, .ref g4, .int (nI tp), .int (nI at_), .int (nI be), .int (nI sz), .int w9, .int w10, .int w11, .int w12, .int w13, .int w14, .ref g15, .int w16, .ref g17, .int w18, .int w19, .ref g20, .int w21, .ref g22, .ref g23, .ref g24, .int w25, .int w26, .int w27, .ref g28, .ref g29, .int w30, .ref g31, .ref g32, .ref g33])), (g3, .inl (T 0, 900, .inl ft))] H locs := V _ [] rfl rfl rfl (by decide +kernel) rfl
            show W p l e _ s m args below meth c H locs _ _ _ (F0 m 23 ls [.int z_4])
            refine lv_bipush (v := (nI 32)) hx hb dX8_keyAt_23 (by decide +kernel) ?_
            refine lv_icmp_eq (tgt := 69) hx hb dX8_keyAt_25 (by decide) (fun c_6 => ?_) (fun c_6 => ?_)
            · skip
              have hke := ky_eq hn8 hkk (by omega) (by omega) f_5 c_6
              refine g_ldcS hC V 8 rfl dX8_keyAt_69 ?_
              refine lv_iload_n hx hb dX8_keyAt_71 rfl (lv_at hl 1 rfl) ?_
              refine lv_iload_n hx hb dX8_keyAt_72 rfl (lv_at hl 0 rfl) ?_
              refine lv_iadd hx hb dX8_keyAt_73 ?_
              refine g_vi (y := (nI (kk + ki))) (nI_add _ _) ?_
              refine g_callZU (nA := 1) hC V hl.1 (z_charAt l D T 8 (kk + ki) (by decide) (by omega)) w_1043 w_337 w_338 w_12 w_339 (by decide +kernel) rfl ⟨(Nat.le_of_ble_eq_true rfl), (Nat.le_of_ble_eq_true rfl)⟩ (si := 8) (by first | assumption | decide) rfl rfl [] rfl rfl (Nat.le_of_ble_eq_true rfl) dX8_keyAt_74 ⟨(Nat.le_of_ble_eq_true rfl), (Nat.le_of_ble_eq_true rfl)⟩ rfl (fun r w1 H locs hQ V => ?_)
              obtain ⟨z_7, rfl, rfl, f_8⟩ := hQ
              have V : gW D T A s [(o, .inr (8, [.int w0, .ref g1, .ref g2, .ref g3, .ref g4, .int (nI tp), .int (nI at_), .int (nI be), .int (nI sz), .int w9, .int w10, .int w11, .int w12, .int w13, .int w14, .ref g15, .int w16, .ref g17, .int w18, .int w19, .ref g20, .int w21, .ref g22, .ref g23, .ref g24, .int w25, .int w26, .int w27, .ref g28, .ref g29, .int w30, .ref g31, .ref g32, .ref g33])), (g3, .inl (T 0, 900, .inl ft))] H locs := V _ [] rfl rfl rfl (by decide +kernel) rfl
              show W p l e _ s m args below meth c H locs _ _ _ (F0 m 77 ls [.int z_7])
              refine lv_bipush (v := (nI 32)) hx hb dX8_keyAt_77 (by decide +kernel) ?_
              refine lv_icmp_ne (tgt := 97) hx hb dX8_keyAt_79 (by decide) (fun c_9 => ?_) (fun c_9 => ?_)
              · skip
                exact absurd (f_8.trans (f_5.symm.trans (by assumption))) c_9
              · skip
                refine lv_aload_n hx hb dX8_keyAt_82 rfl (lv_at hl 3 rfl) ?_
                refine g_get hC V (ci := 8) uwX8 0 rfl rfl 6 (by decide) w_918 rfl rfl dX8_keyAt_83 ?_
                refine lv_iload_n hx hb dX8_keyAt_86 rfl (lv_at hl 0 rfl) ?_
                refine lv_iadd hx hb dX8_keyAt_87 ?_
                refine g_vi (y := (nI (at_ + ki))) (nI_add _ _) ?_
                refine lv_aload_n hx hb dX8_keyAt_88 rfl (lv_at hl 3 rfl) ?_
                refine g_get hC V (ci := 8) uwX8 0 rfl rfl 7 (by decide) w_919 rfl rfl dX8_keyAt_89 ?_
                refine lv_icmp_ne (tgt := 97) hx hb dX8_keyAt_92 (by decide) (fun c_10 => ?_) (fun c_10 => ?_)
                · skip
                  have c_10 := b_ne (by omega) (by omega) c_10
                  have hnw : ¬ wMt ft at_ be nq := fun h => absurd h.1 (by omega)
                  have L_11 : ∀ (fu : Nat) (kx : Nat), (kk ≤ kx ∧ kx ≤ kk + sLen.getD nq 0) → kk + sLen.getD nq 0 - kx < fu → ∀ (H : Heap) (locs : List Loc) (ls : Array Slot), gW D T A s [(o, .inr (8, [.int w0, .ref g1, .ref g2, .ref g3, .ref g4, .int (nI tp), .int (nI at_), .int (nI be), .int (nI sz), .int w9, .int w10, .int w11, .int w12, .int w13, .int w14, .ref g15, .int w16, .ref g17, .int w18, .int w19, .ref g20, .int w21, .ref g22, .ref g23, .ref g24, .int w25, .int w26, .int w27, .ref g28, .ref g29, .int w30, .ref g31, .ref g32, .ref g33])), (g3, .inl (T 0, 900, .inl ft))] H locs → lv_has ls 4 [(3, .int (nI ki)), (2, .int (nI kx)), (1, .int (nI nq)), (0, .ref o)] → W p l e (rmD 4 0 0) s m args below meth c H locs 0 0 (MQ below (gQ D A (q_m_keyAt_f T o w0 g1 g2 g3 g4 tp at_ be sz w9 w10 w11 w12 w13 w14 g15 w16 g17 w18 w19 g20 w21 g22 g23 g24 w25 w26 w27 g28 g29 w30 g31 g32 g33 ft)) args s 0 0 A) (F0 m 97 ls []) := by
                    intro fu_97
                    induction fu_97 with
                    | zero => intro kx hkx hmu; exact absurd hmu (Nat.not_lt_zero _)
                    | succ fu_97 ih_97 =>
                      intro kx hkx hmu_97 H locs ls V hl
                      refine g_ldcS hC V 8 rfl dX8_keyAt_97 ?_
                      refine lv_iload_n hx hb dX8_keyAt_99 rfl (lv_at hl 1 rfl) ?_
                      refine g_callZU (nA := 1) hC V hl.1 (z_charAt l D T 8 kx (by decide) (by omega)) w_1043 w_337 w_338 w_12 w_339 (by decide +kernel) rfl ⟨(Nat.le_of_ble_eq_true rfl), (Nat.le_of_ble_eq_true rfl)⟩ (si := 8) (by first | assumption | decide) rfl rfl [] rfl rfl (Nat.le_of_ble_eq_true rfl) dX8_keyAt_100 ⟨(Nat.le_of_ble_eq_true rfl), (Nat.le_of_ble_eq_true rfl)⟩ rfl (fun r w1 H locs hQ V => ?_)
                      obtain ⟨z_12, rfl, rfl, f_13⟩ := hQ
                      have V : gW D T A s [(o, .inr (8, [.int w0, .ref g1, .ref g2, .ref g3, .ref g4, .int (nI tp), .int (nI at_), .int (nI be), .int (nI sz), .int w9, .int w10, .int w11, .int w12, .int w13, .int w14, .ref g15, .int w16, .ref g17, .int w18, .int w19, .ref g20, .int w21, .ref g22, .ref g23, .ref g24, .int w25, .int w26, .int w27, .ref g28, .ref g29, .int w30, .ref g31, .ref g32, .ref g33])), (g3, .inl (T 0, 900, .inl ft))] H locs := V _ [] rfl rfl rfl (by decide +kernel) rfl
                      show W p l e _ s m args below meth c H locs _ _ _ (F0 m 103 ls [.int z_12])
                      refine lv_bipush (v := (nI 32)) hx hb dX8_keyAt_103 (by decide +kernel) ?_
                      refine lv_icmp_eq (tgt := 114) hx hb dX8_keyAt_105 (by decide) (fun c_14 => ?_) (fun c_14 => ?_)
                      · skip
                        have hkx2 := ky_eq hn8 hkk (by omega) (by omega) f_13 c_14
                        refine lv_iinc (v := (nI (kx + 1))) (lv' := [(2, .int (nI (kx + 1))), (3, .int (nI ki)), (1, .int (nI nq)), (0, .ref o)]) hx hb dX8_keyAt_114 hl (k := 1) rfl (nI_1 _) (by decide) rfl (fun ls hl => ?_)
                        refine lv_iinc (v := (nI (nq + 1))) (lv' := [(1, .int (nI (nq + 1))), (2, .int (nI (kx + 1))), (3, .int (nI ki)), (0, .ref o)]) hx hb dX8_keyAt_117 hl (k := 2) rfl (nI_1 _) (by decide) rfl (fun ls hl => ?_)
                        refine lv_goto (tgt := 4) hx hb dX8_keyAt_120 (by decide) ?_
                        exact ih_4 (nq + 1) (kx + 1) (by omega) (by omega) (no_one hno hnw) (by omega) _ _ _ V (lv_sub hl [1, 0, 3] rfl)
                      · skip
                        have hkx3 := ky_lt hn8 hkk (by omega) (by omega) f_13 c_14
                        refine lv_iinc (v := (nI (kx + 1))) (lv' := [(2, .int (nI (kx + 1))), (3, .int (nI ki)), (1, .int (nI nq)), (0, .ref o)]) hx hb dX8_keyAt_108 hl (k := 1) rfl (nI_1 _) (by decide) rfl (fun ls hl => ?_)
                        refine lv_goto (tgt := 97) hx hb dX8_keyAt_111 (by decide) ?_
                        exact ih_97 (kx + 1) (by omega) (by omega) _ _ _ V (lv_sub hl [1, 0, 2, 3] rfl)
                  exact L_11 _ kk (by omega) (Nat.lt_succ_self _) _ _ _ V (lv_sub hl [0, 1, 2, 3] rfl)
                · skip
                  have c_10 := b_eq (by omega) (by omega) c_10
                  refine lv_iload_n hx hb dX8_keyAt_95 rfl (lv_at hl 2 rfl) ?_
                  exact g_iret (Qr := (q_m_keyAt_f T o w0 g1 g2 g3 g4 tp at_ be sz w9 w10 w11 w12 w13 w14 g15 w16 g17 w18 w19 g20 w21 g22 g23 g24 w25 w26 w27 g28 g29 w30 g31 g32 g33 ft)) hC V ⟨(Nat.le_of_ble_eq_true rfl), (Nat.le_of_ble_eq_true rfl)⟩ ⟨nq, rfl, rfl, (keyOf_is hn8 ⟨by omega, fun j hj => hmt j (by omega)⟩).symm⟩ dX8_keyAt_96
            · skip
              have hlt := ky_lt hn8 hkk (by omega) (by omega) f_5 c_6
              refine lv_aload_n hx hb dX8_keyAt_28 rfl (lv_at hl 3 rfl) ?_
              refine g_get hC V (ci := 8) uwX8 0 rfl rfl 6 (by decide) w_918 rfl rfl dX8_keyAt_29 ?_
              refine lv_iload_n hx hb dX8_keyAt_32 rfl (lv_at hl 0 rfl) ?_
              refine lv_iadd hx hb dX8_keyAt_33 ?_
              refine g_vi (y := (nI (at_ + ki))) (nI_add _ _) ?_
              refine lv_aload_n hx hb dX8_keyAt_34 rfl (lv_at hl 3 rfl) ?_
              refine g_get hC V (ci := 8) uwX8 0 rfl rfl 7 (by decide) w_919 rfl rfl dX8_keyAt_35 ?_
              refine lv_icmp_ge (tgt := 69) hx hb dX8_keyAt_38 (by decide) (fun c_15 => ?_) (fun c_15 => ?_)
              · skip
                have c_15 := b_le (by omega) (by omega) c_15
                have hnw : ¬ wMt ft at_ be nq := fun h => absurd h.1 (by omega)
                refine g_ldcS hC V 8 rfl dX8_keyAt_69 ?_
                refine lv_iload_n hx hb dX8_keyAt_71 rfl (lv_at hl 1 rfl) ?_
                refine lv_iload_n hx hb dX8_keyAt_72 rfl (lv_at hl 0 rfl) ?_
                refine lv_iadd hx hb dX8_keyAt_73 ?_
                refine g_vi (y := (nI (kk + ki))) (nI_add _ _) ?_
                refine g_callZU (nA := 1) hC V hl.1 (z_charAt l D T 8 (kk + ki) (by decide) (by omega)) w_1043 w_337 w_338 w_12 w_339 (by decide +kernel) rfl ⟨(Nat.le_of_ble_eq_true rfl), (Nat.le_of_ble_eq_true rfl)⟩ (si := 8) (by first | assumption | decide) rfl rfl [] rfl rfl (Nat.le_of_ble_eq_true rfl) dX8_keyAt_74 ⟨(Nat.le_of_ble_eq_true rfl), (Nat.le_of_ble_eq_true rfl)⟩ rfl (fun r w1 H locs hQ V => ?_)
                obtain ⟨z_16, rfl, rfl, f_17⟩ := hQ
                have V : gW D T A s [(o, .inr (8, [.int w0, .ref g1, .ref g2, .ref g3, .ref g4, .int (nI tp), .int (nI at_), .int (nI be), .int (nI sz), .int w9, .int w10, .int w11, .int w12, .int w13, .int w14, .ref g15, .int w16, .ref g17, .int w18, .int w19, .ref g20, .int w21, .ref g22, .ref g23, .ref g24, .int w25, .int w26, .int w27, .ref g28, .ref g29, .int w30, .ref g31, .ref g32, .ref g33])), (g3, .inl (T 0, 900, .inl ft))] H locs := V _ [] rfl rfl rfl (by decide +kernel) rfl
                show W p l e _ s m args below meth c H locs _ _ _ (F0 m 77 ls [.int z_16])
                refine lv_bipush (v := (nI 32)) hx hb dX8_keyAt_77 (by decide +kernel) ?_
                refine lv_icmp_ne (tgt := 97) hx hb dX8_keyAt_79 (by decide) (fun c_18 => ?_) (fun c_18 => ?_)
                · skip
                  have L_19 : ∀ (fu : Nat) (kx : Nat), (kk ≤ kx ∧ kx ≤ kk + sLen.getD nq 0) → kk + sLen.getD nq 0 - kx < fu → ∀ (H : Heap) (locs : List Loc) (ls : Array Slot), gW D T A s [(o, .inr (8, [.int w0, .ref g1, .ref g2, .ref g3, .ref g4, .int (nI tp), .int (nI at_), .int (nI be), .int (nI sz), .int w9, .int w10, .int w11, .int w12, .int w13, .int w14, .ref g15, .int w16, .ref g17, .int w18, .int w19, .ref g20, .int w21, .ref g22, .ref g23, .ref g24, .int w25, .int w26, .int w27, .ref g28, .ref g29, .int w30, .ref g31, .ref g32, .ref g33])), (g3, .inl (T 0, 900, .inl ft))] H locs → lv_has ls 4 [(3, .int (nI ki)), (2, .int (nI kx)), (1, .int (nI nq)), (0, .ref o)] → W p l e (rmD 4 0 0) s m args below meth c H locs 0 0 (MQ below (gQ D A (q_m_keyAt_f T o w0 g1 g2 g3 g4 tp at_ be sz w9 w10 w11 w12 w13 w14 g15 w16 g17 w18 w19 g20 w21 g22 g23 g24 w25 w26 w27 g28 g29 w30 g31 g32 g33 ft)) args s 0 0 A) (F0 m 97 ls []) := by
                    intro fu_97
                    induction fu_97 with
                    | zero => intro kx hkx hmu; exact absurd hmu (Nat.not_lt_zero _)
                    | succ fu_97 ih_97 =>
                      intro kx hkx hmu_97 H locs ls V hl
                      refine g_ldcS hC V 8 rfl dX8_keyAt_97 ?_
                      refine lv_iload_n hx hb dX8_keyAt_99 rfl (lv_at hl 1 rfl) ?_
                      refine g_callZU (nA := 1) hC V hl.1 (z_charAt l D T 8 kx (by decide) (by omega)) w_1043 w_337 w_338 w_12 w_339 (by decide +kernel) rfl ⟨(Nat.le_of_ble_eq_true rfl), (Nat.le_of_ble_eq_true rfl)⟩ (si := 8) (by first | assumption | decide) rfl rfl [] rfl rfl (Nat.le_of_ble_eq_true rfl) dX8_keyAt_100 ⟨(Nat.le_of_ble_eq_true rfl), (Nat.le_of_ble_eq_true rfl)⟩ rfl (fun r w1 H locs hQ V => ?_)
                      obtain ⟨z_20, rfl, rfl, f_21⟩ := hQ
                      have V : gW D T A s [(o, .inr (8, [.int w0, .ref g1, .ref g2, .ref g3, .ref g4, .int (nI tp), .int (nI at_), .int (nI be), .int (nI sz), .int w9, .int w10, .int w11, .int w12, .int w13, .int w14, .ref g15, .int w16, .ref g17, .int w18, .int w19, .ref g20, .int w21, .ref g22, .ref g23, .ref g24, .int w25, .int w26, .int w27, .ref g28, .ref g29, .int w30, .ref g31, .ref g32, .ref g33])), (g3, .inl (T 0, 900, .inl ft))] H locs := V _ [] rfl rfl rfl (by decide +kernel) rfl
                      show W p l e _ s m args below meth c H locs _ _ _ (F0 m 103 ls [.int z_20])
                      refine lv_bipush (v := (nI 32)) hx hb dX8_keyAt_103 (by decide +kernel) ?_
                      refine lv_icmp_eq (tgt := 114) hx hb dX8_keyAt_105 (by decide) (fun c_22 => ?_) (fun c_22 => ?_)
                      · skip
                        have hkx2 := ky_eq hn8 hkk (by omega) (by omega) f_21 c_22
                        refine lv_iinc (v := (nI (kx + 1))) (lv' := [(2, .int (nI (kx + 1))), (3, .int (nI ki)), (1, .int (nI nq)), (0, .ref o)]) hx hb dX8_keyAt_114 hl (k := 1) rfl (nI_1 _) (by decide) rfl (fun ls hl => ?_)
                        refine lv_iinc (v := (nI (nq + 1))) (lv' := [(1, .int (nI (nq + 1))), (2, .int (nI (kx + 1))), (3, .int (nI ki)), (0, .ref o)]) hx hb dX8_keyAt_117 hl (k := 2) rfl (nI_1 _) (by decide) rfl (fun ls hl => ?_)
                        refine lv_goto (tgt := 4) hx hb dX8_keyAt_120 (by decide) ?_
                        exact ih_4 (nq + 1) (kx + 1) (by omega) (by omega) (no_one hno hnw) (by omega) _ _ _ V (lv_sub hl [1, 0, 3] rfl)
                      · skip
                        have hkx3 := ky_lt hn8 hkk (by omega) (by omega) f_21 c_22
                        refine lv_iinc (v := (nI (kx + 1))) (lv' := [(2, .int (nI (kx + 1))), (3, .int (nI ki)), (1, .int (nI nq)), (0, .ref o)]) hx hb dX8_keyAt_108 hl (k := 1) rfl (nI_1 _) (by decide) rfl (fun ls hl => ?_)
                        refine lv_goto (tgt := 97) hx hb dX8_keyAt_111 (by decide) ?_
                        exact ih_97 (kx + 1) (by omega) (by omega) _ _ _ V (lv_sub hl [1, 0, 2, 3] rfl)
                  exact L_19 _ kk (by omega) (Nat.lt_succ_self _) _ _ _ V (lv_sub hl [0, 1, 2, 3] rfl)
                · skip
                  have hke := ky_eq hn8 hkk (by omega) (by omega) f_17 c_18
                  exact absurd hke (by omega)
              · skip
                have c_15 := b_nle (by omega) (by omega) c_15
                refine lv_aload_n hx hb dX8_keyAt_41 rfl (lv_at hl 3 rfl) ?_
                refine g_get hC V (ci := 8) uwX8 0 rfl rfl 3 (by decide) w_915 rfl rfl dX8_keyAt_42 ?_
                refine lv_aload_n hx hb dX8_keyAt_45 rfl (lv_at hl 3 rfl) ?_
                refine g_get hC V (ci := 8) uwX8 0 rfl rfl 6 (by decide) w_918 rfl rfl dX8_keyAt_46 ?_
                refine lv_iload_n hx hb dX8_keyAt_49 rfl (lv_at hl 0 rfl) ?_
                refine lv_iadd hx hb dX8_keyAt_50 ?_
                refine g_vi (y := (nI (at_ + ki))) (nI_add _ _) ?_
                refine g_iald hC V 1 rfl (vp_in_nI (by omega) (by omega)) (v := (ft (at_ + ki))) (congrArg _ (nI_clamp (by omega))) dX8_keyAt_51 ?_
                refine g_ldcS hC V 8 rfl dX8_keyAt_52 ?_
                refine lv_iload_n hx hb dX8_keyAt_54 rfl (lv_at hl 1 rfl) ?_
                refine lv_iload_n hx hb dX8_keyAt_55 rfl (lv_at hl 0 rfl) ?_
                refine lv_iadd hx hb dX8_keyAt_56 ?_
                refine g_vi (y := (nI (kk + ki))) (nI_add _ _) ?_
                refine g_callZU (nA := 1) hC V hl.1 (z_charAt l D T 8 (kk + ki) (by decide) (by omega)) w_1043 w_337 w_338 w_12 w_339 (by decide +kernel) rfl ⟨(Nat.le_of_ble_eq_true rfl), (Nat.le_of_ble_eq_true rfl)⟩ (si := 8) (by first | assumption | decide) rfl rfl [] rfl rfl (Nat.le_of_ble_eq_true rfl) dX8_keyAt_57 ⟨(Nat.le_of_ble_eq_true rfl), (Nat.le_of_ble_eq_true rfl)⟩ rfl (fun r w1 H locs hQ V => ?_)
                obtain ⟨z_23, rfl, rfl, f_24⟩ := hQ
                have V : gW D T A s [(o, .inr (8, [.int w0, .ref g1, .ref g2, .ref g3, .ref g4, .int (nI tp), .int (nI at_), .int (nI be), .int (nI sz), .int w9, .int w10, .int w11, .int w12, .int w13, .int w14, .ref g15, .int w16, .ref g17, .int w18, .int w19, .ref g20, .int w21, .ref g22, .ref g23, .ref g24, .int w25, .int w26, .int w27, .ref g28, .ref g29, .int w30, .ref g31, .ref g32, .ref g33])), (g3, .inl (T 0, 900, .inl ft))] H locs := V _ [] rfl rfl rfl (by decide +kernel) rfl
                show W p l e _ s m args below meth c H locs _ _ _ (F0 m 60 ls [.int z_23, .int (ft (at_ + ki))])
                refine lv_icmp_ne (tgt := 69) hx hb dX8_keyAt_60 (by decide) (fun c_25 => ?_) (fun c_25 => ?_)
                · skip
                  have hnw : ¬ wMt ft at_ be nq := fun h => c_25 ((h.2 ki (by omega)).trans ((ky_at hn8 hkk (by omega)).symm.trans f_24.symm))
                  refine g_ldcS hC V 8 rfl dX8_keyAt_69 ?_
                  refine lv_iload_n hx hb dX8_keyAt_71 rfl (lv_at hl 1 rfl) ?_
                  refine lv_iload_n hx hb dX8_keyAt_72 rfl (lv_at hl 0 rfl) ?_
                  refine lv_iadd hx hb dX8_keyAt_73 ?_
                  refine g_vi (y := (nI (kk + ki))) (nI_add _ _) ?_
                  refine g_callZU (nA := 1) hC V hl.1 (z_charAt l D T 8 (kk + ki) (by decide) (by omega)) w_1043 w_337 w_338 w_12 w_339 (by decide +kernel) rfl ⟨(Nat.le_of_ble_eq_true rfl), (Nat.le_of_ble_eq_true rfl)⟩ (si := 8) (by first | assumption | decide) rfl rfl [] rfl rfl (Nat.le_of_ble_eq_true rfl) dX8_keyAt_74 ⟨(Nat.le_of_ble_eq_true rfl), (Nat.le_of_ble_eq_true rfl)⟩ rfl (fun r w1 H locs hQ V => ?_)
                  obtain ⟨z_26, rfl, rfl, f_27⟩ := hQ
                  have V : gW D T A s [(o, .inr (8, [.int w0, .ref g1, .ref g2, .ref g3, .ref g4, .int (nI tp), .int (nI at_), .int (nI be), .int (nI sz), .int w9, .int w10, .int w11, .int w12, .int w13, .int w14, .ref g15, .int w16, .ref g17, .int w18, .int w19, .ref g20, .int w21, .ref g22, .ref g23, .ref g24, .int w25, .int w26, .int w27, .ref g28, .ref g29, .int w30, .ref g31, .ref g32, .ref g33])), (g3, .inl (T 0, 900, .inl ft))] H locs := V _ [] rfl rfl rfl (by decide +kernel) rfl
                  show W p l e _ s m args below meth c H locs _ _ _ (F0 m 77 ls [.int z_26])
                  refine lv_bipush (v := (nI 32)) hx hb dX8_keyAt_77 (by decide +kernel) ?_
                  refine lv_icmp_ne (tgt := 97) hx hb dX8_keyAt_79 (by decide) (fun c_28 => ?_) (fun c_28 => ?_)
                  · skip
                    have L_29 : ∀ (fu : Nat) (kx : Nat), (kk ≤ kx ∧ kx ≤ kk + sLen.getD nq 0) → kk + sLen.getD nq 0 - kx < fu → ∀ (H : Heap) (locs : List Loc) (ls : Array Slot), gW D T A s [(o, .inr (8, [.int w0, .ref g1, .ref g2, .ref g3, .ref g4, .int (nI tp), .int (nI at_), .int (nI be), .int (nI sz), .int w9, .int w10, .int w11, .int w12, .int w13, .int w14, .ref g15, .int w16, .ref g17, .int w18, .int w19, .ref g20, .int w21, .ref g22, .ref g23, .ref g24, .int w25, .int w26, .int w27, .ref g28, .ref g29, .int w30, .ref g31, .ref g32, .ref g33])), (g3, .inl (T 0, 900, .inl ft))] H locs → lv_has ls 4 [(3, .int (nI ki)), (2, .int (nI kx)), (1, .int (nI nq)), (0, .ref o)] → W p l e (rmD 4 0 0) s m args below meth c H locs 0 0 (MQ below (gQ D A (q_m_keyAt_f T o w0 g1 g2 g3 g4 tp at_ be sz w9 w10 w11 w12 w13 w14 g15 w16 g17 w18 w19 g20 w21 g22 g23 g24 w25 w26 w27 g28 g29 w30 g31 g32 g33 ft)) args s 0 0 A) (F0 m 97 ls []) := by
                      intro fu_97
                      induction fu_97 with
                      | zero => intro kx hkx hmu; exact absurd hmu (Nat.not_lt_zero _)
                      | succ fu_97 ih_97 =>
                        intro kx hkx hmu_97 H locs ls V hl
                        refine g_ldcS hC V 8 rfl dX8_keyAt_97 ?_
                        refine lv_iload_n hx hb dX8_keyAt_99 rfl (lv_at hl 1 rfl) ?_
                        refine g_callZU (nA := 1) hC V hl.1 (z_charAt l D T 8 kx (by decide) (by omega)) w_1043 w_337 w_338 w_12 w_339 (by decide +kernel) rfl ⟨(Nat.le_of_ble_eq_true rfl), (Nat.le_of_ble_eq_true rfl)⟩ (si := 8) (by first | assumption | decide) rfl rfl [] rfl rfl (Nat.le_of_ble_eq_true rfl) dX8_keyAt_100 ⟨(Nat.le_of_ble_eq_true rfl), (Nat.le_of_ble_eq_true rfl)⟩ rfl (fun r w1 H locs hQ V => ?_)
                        obtain ⟨z_30, rfl, rfl, f_31⟩ := hQ
                        have V : gW D T A s [(o, .inr (8, [.int w0, .ref g1, .ref g2, .ref g3, .ref g4, .int (nI tp), .int (nI at_), .int (nI be), .int (nI sz), .int w9, .int w10, .int w11, .int w12, .int w13, .int w14, .ref g15, .int w16, .ref g17, .int w18, .int w19, .ref g20, .int w21, .ref g22, .ref g23, .ref g24, .int w25, .int w26, .int w27, .ref g28, .ref g29, .int w30, .ref g31, .ref g32, .ref g33])), (g3, .inl (T 0, 900, .inl ft))] H locs := V _ [] rfl rfl rfl (by decide +kernel) rfl
                        show W p l e _ s m args below meth c H locs _ _ _ (F0 m 103 ls [.int z_30])
                        refine lv_bipush (v := (nI 32)) hx hb dX8_keyAt_103 (by decide +kernel) ?_
                        refine lv_icmp_eq (tgt := 114) hx hb dX8_keyAt_105 (by decide) (fun c_32 => ?_) (fun c_32 => ?_)
                        · skip
                          have hkx2 := ky_eq hn8 hkk (by omega) (by omega) f_31 c_32
                          refine lv_iinc (v := (nI (kx + 1))) (lv' := [(2, .int (nI (kx + 1))), (3, .int (nI ki)), (1, .int (nI nq)), (0, .ref o)]) hx hb dX8_keyAt_114 hl (k := 1) rfl (nI_1 _) (by decide) rfl (fun ls hl => ?_)
                          refine lv_iinc (v := (nI (nq + 1))) (lv' := [(1, .int (nI (nq + 1))), (2, .int (nI (kx + 1))), (3, .int (nI ki)), (0, .ref o)]) hx hb dX8_keyAt_117 hl (k := 2) rfl (nI_1 _) (by decide) rfl (fun ls hl => ?_)
                          refine lv_goto (tgt := 4) hx hb dX8_keyAt_120 (by decide) ?_
                          exact ih_4 (nq + 1) (kx + 1) (by omega) (by omega) (no_one hno hnw) (by omega) _ _ _ V (lv_sub hl [1, 0, 3] rfl)
                        · skip
                          have hkx3 := ky_lt hn8 hkk (by omega) (by omega) f_31 c_32
                          refine lv_iinc (v := (nI (kx + 1))) (lv' := [(2, .int (nI (kx + 1))), (3, .int (nI ki)), (1, .int (nI nq)), (0, .ref o)]) hx hb dX8_keyAt_108 hl (k := 1) rfl (nI_1 _) (by decide) rfl (fun ls hl => ?_)
                          refine lv_goto (tgt := 97) hx hb dX8_keyAt_111 (by decide) ?_
                          exact ih_97 (kx + 1) (by omega) (by omega) _ _ _ V (lv_sub hl [1, 0, 2, 3] rfl)
                    exact L_29 _ kk (by omega) (Nat.lt_succ_self _) _ _ _ V (lv_sub hl [0, 1, 2, 3] rfl)
                  · skip
                    have hke := ky_eq hn8 hkk (by omega) (by omega) f_27 c_28
                    exact absurd hke (by omega)
                · skip
                  have hmt2 := mt_one hmt (c_25.trans (f_24.trans (ky_at hn8 hkk (by omega))))
                  refine lv_iinc (v := (nI (ki + 1))) (lv' := [(3, .int (nI (ki + 1))), (2, .int (nI kk)), (1, .int (nI nq)), (0, .ref o)]) hx hb dX8_keyAt_63 hl (k := 0) rfl (nI_1 _) (by decide) rfl (fun ls hl => ?_)
                  refine lv_goto (tgt := 15) hx hb dX8_keyAt_66 (by decide) ?_
                  exact ih_15 (ki + 1) (by omega) (by omega) hmt2 (by omega) _ _ _ V (lv_sub hl [0, 1, 2, 3] rfl)
        exact L_3 _ 0 (by omega) (by omega) (fun i h => absurd h (Nat.not_lt_zero _)) (Nat.lt_succ_self _) _ _ _ V (lv_sub hl [0, 1, 2, 3] rfl)
  exact L_1 _ 0 1 (by omega) rfl (fun i h => absurd h (Nat.not_lt_zero _)) (Nat.lt_succ_self _) _ _ _ V (lv_sub hl [0, 1, 2] rfl)

def q_m_next_f (T : Nat → ClassId) (o : Nat) (w0 : Int32) (g1 : Nat) (g2 : Nat) (g3 : Nat) (g4 : Nat) (tp : Nat) (w6 : Int32) (be : Nat) (sz : Nat) (w9 : Int32) (nu : Int32) (wr : Nat) (wa : Int32) (w13 : Int32) (w14 : Int32) (g15 : Nat) (w16 : Int32) (g17 : Nat) (w18 : Int32) (w19 : Int32) (g20 : Nat) (w21 : Int32) (g22 : Nat) (g23 : Nat) (g24 : Nat) (w25 : Int32) (w26 : Int32) (w27 : Int32) (g28 : Nat) (g29 : Nat) (w30 : Int32) (g31 : Nat) (g32 : Nat) (g33 : Nat) (ft : Nat → Int32) : Option Value → va_W → Prop := fun rr ww => (∃ (p2 : PS), rr = none ∧ ww = [(o, .inr (8, [.int w0, .ref g1, .ref g2, .ref g3, .ref g4, .int (nI tp), .int (nI p2.1), .int (nI p2.2.1), .int (nI sz), .int (nI p2.2.2.1), .int p2.2.2.2.1, .int (nI p2.2.2.2.2.1), .int p2.2.2.2.2.2, .int w13, .int w14, .ref g15, .int w16, .ref g17, .int w18, .int w19, .ref g20, .int w21, .ref g22, .ref g23, .ref g24, .int w25, .int w26, .int w27, .ref g28, .ref g29, .int w30, .ref g31, .ref g32, .ref g33])), (g3, .inl (T 0, 900, .inl ft))] ∧ p2 = nxS ft sz (0, be, 0, nu, wr, wa))
set_option maxHeartbeats 4000000 in
set_option maxRecDepth 100000 in
theorem m_next_f (l : Launch) (D : va_G) (T : Nat → ClassId) (o : Nat) (w0 : Int32) (g1 : Nat) (g2 : Nat) (g3 : Nat) (g4 : Nat) (tp : Nat) (w6 : Int32) (be : Nat) (sz : Nat) (w9 : Int32) (nu : Int32) (wr : Nat) (wa : Int32) (w13 : Int32) (w14 : Int32) (g15 : Nat) (w16 : Int32) (g17 : Nat) (w18 : Int32) (w19 : Int32) (g20 : Nat) (w21 : Int32) (g22 : Nat) (g23 : Nat) (g24 : Nat) (w25 : Int32) (w26 : Int32) (w27 : Int32) (g28 : Nat) (g29 : Nat) (w30 : Int32) (g31 : Nat) (g32 : Nat) (g33 : Nat) (ft : Nat → Int32) (h_sz : sz ≤ 900) (h_b : be ≤ sz) (h_wr : wr ≤ 4) : Ct l yX8_next cX8_next 1 none 5 0 0 D T [.ref o] [(o, .inr (8, [.int w0, .ref g1, .ref g2, .ref g3, .ref g4, .int (nI tp), .int w6, .int (nI be), .int (nI sz), .int w9, .int nu, .int (nI wr), .int wa, .int w13, .int w14, .ref g15, .int w16, .ref g17, .int w18, .int w19, .ref g20, .int w21, .ref g22, .ref g23, .ref g24, .int w25, .int w26, .int w27, .ref g28, .ref g29, .int w30, .ref g31, .ref g32, .ref g33])), (g3, .inl (T 0, 900, .inl ft))] (q_m_next_f T o w0 g1 g2 g3 g4 tp w6 be sz w9 nu wr wa w13 w14 g15 w16 g17 w18 w19 g20 w21 g22 g23 g24 w25 w26 w27 g28 g29 w30 g31 g32 g33 ft) := by
  refine Ct.of (cc := cX8_next) (maxL := 1) (ret := none) (by decide) (Nat.le_of_ble_eq_true rfl) ?_
  intro p e s m args below meth c A ls hC hnm V hl
  obtain ⟨hx, hb, hr, hml, hown, hts, hlocks⟩ := id hC
  generalize hH : s.heap = H at V ⊢
  clear hH
  have hl : lv_has ls 1 [(0, .ref o)] := hl
  generalize hlo : ([] : List Loc) = locs at V ⊢
  clear hlo
  refine lv_aload_n hx hb dX8_next_0 rfl (lv_at hl 0 rfl) ?_
  refine lv_aload_n hx hb dX8_next_1 rfl (lv_at hl 0 rfl) ?_
  refine g_get hC V (ci := 8) uwX8 0 rfl rfl 7 (by decide) w_919 rfl rfl dX8_next_2 ?_
  refine g_put hC V (ci := 8) uwX8 tyX8 tyX8_ok nmX8 0 rfl rfl 6 (by decide) w_918 rfl rfl rfl rfl (Nat.le_of_ble_eq_true rfl) (ws' := [(o, .inr (8, [.int w0, .ref g1, .ref g2, .ref g3, .ref g4, .int (nI tp), .int (nI be), .int (nI be), .int (nI sz), .int w9, .int nu, .int (nI wr), .int wa, .int w13, .int w14, .ref g15, .int w16, .ref g17, .int w18, .int w19, .ref g20, .int w21, .ref g22, .ref g23, .ref g24, .int w25, .int w26, .int w27, .ref g28, .ref g29, .int w30, .ref g31, .ref g32, .ref g33])), (g3, .inl (T 0, 900, .inl ft))]) rfl dX8_next_5 (fun H locs V => ?_)
  have J_47 : ∀ (aq : Nat), (be ≤ aq ∧ aq ≤ sz) → aq = rn blkB ft sz be → ∀ (H : Heap) (locs : List Loc) (ls : Array Slot), gW D T A s [(o, .inr (8, [.int w0, .ref g1, .ref g2, .ref g3, .ref g4, .int (nI tp), .int (nI aq), .int (nI be), .int (nI sz), .int w9, .int nu, .int (nI wr), .int wa, .int w13, .int w14, .ref g15, .int w16, .ref g17, .int w18, .int w19, .ref g20, .int w21, .ref g22, .ref g23, .ref g24, .int w25, .int w26, .int w27, .ref g28, .ref g29, .int w30, .ref g31, .ref g32, .ref g33])), (g3, .inl (T 0, 900, .inl ft))] H locs → lv_has ls 1 [(0, .ref o)] → W p l e (rmD 5 0 0) s m args below meth c H locs 0 0 (MQ below (gQ D A (q_m_next_f T o w0 g1 g2 g3 g4 tp w6 be sz w9 nu wr wa w13 w14 g15 w16 g17 w18 w19 g20 w21 g22 g23 g24 w25 w26 w27 g28 g29 w30 g31 g32 g33 ft)) args s 0 0 A) (F0 m 47 ls []) := by
    intro aq haq haq2 H locs ls V hl
    refine lv_aload_n hx hb dX8_next_47 rfl (lv_at hl 0 rfl) ?_
    refine lv_aload_n hx hb dX8_next_48 rfl (lv_at hl 0 rfl) ?_
    refine g_get hC V (ci := 8) uwX8 0 rfl rfl 6 (by decide) w_918 rfl rfl dX8_next_49 ?_
    refine g_put hC V (ci := 8) uwX8 tyX8 tyX8_ok nmX8 0 rfl rfl 7 (by decide) w_919 rfl rfl rfl rfl (Nat.le_of_ble_eq_true rfl) (ws' := [(o, .inr (8, [.int w0, .ref g1, .ref g2, .ref g3, .ref g4, .int (nI tp), .int (nI aq), .int (nI aq), .int (nI sz), .int w9, .int nu, .int (nI wr), .int wa, .int w13, .int w14, .ref g15, .int w16, .ref g17, .int w18, .int w19, .ref g20, .int w21, .ref g22, .ref g23, .ref g24, .int w25, .int w26, .int w27, .ref g28, .ref g29, .int w30, .ref g31, .ref g32, .ref g33])), (g3, .inl (T 0, 900, .inl ft))]) rfl dX8_next_52 (fun H locs V => ?_)
    refine lv_aload_n hx hb dX8_next_55 rfl (lv_at hl 0 rfl) ?_
    refine g_get hC V (ci := 8) uwX8 0 rfl rfl 6 (by decide) w_918 rfl rfl dX8_next_56 ?_
    refine lv_aload_n hx hb dX8_next_59 rfl (lv_at hl 0 rfl) ?_
    refine g_get hC V (ci := 8) uwX8 0 rfl rfl 8 (by decide) w_920 rfl rfl dX8_next_60 ?_
    refine lv_icmp_lt (tgt := 75) hx hb dX8_next_63 (by decide) (fun c_1 => ?_) (fun c_1 => ?_)
    · skip
      have c_1 := b_lt (by omega) (by omega) c_1
      refine lv_aload_n hx hb dX8_next_75 rfl (lv_at hl 0 rfl) ?_
      refine lv_aload_n hx hb dX8_next_76 rfl (lv_at hl 0 rfl) ?_
      refine g_get hC V (ci := 8) uwX8 0 rfl rfl 6 (by decide) w_918 rfl rfl dX8_next_77 ?_
      refine g_callV (wr := []) (nA := 1) hC V hl.1 (m_see l D T o aq w0 g1 g2 g3 g4 tp (nI aq) (nI aq) sz w9 nu (nI wr) wa w13 w14 g15 w16 g17 w18 w19 g20 w21 g22 g23 g24 w25 w26 w27 g28 g29 w30 g31 g32 g33 ft (by first | assumption | omega) (by first | assumption | omega)) w_1030 w_1032 w_s37 w_9 w_1033 (by decide +kernel) rfl ⟨(Nat.le_of_ble_eq_true rfl), (Nat.le_of_ble_eq_true rfl)⟩ 0 (ci := 8) rfl rfl [0, 1] [] rfl rfl rfl rfl (by decide) (Nat.le_of_ble_eq_true rfl) dX8_next_80 ⟨(Nat.le_of_ble_eq_true rfl), (Nat.le_of_ble_eq_true rfl)⟩ rfl (fun r w1 H locs hQ V => ?_)
      rcases hQ with ⟨rfl, rfl, f_2⟩ | ⟨z_3, rfl, rfl, f_4, f_5⟩
      · have V : gW D T A s [(o, .inr (8, [.int w0, .ref g1, .ref g2, .ref g3, .ref g4, .int (nI tp), .int (nI aq), .int (nI aq), .int (nI sz), .int w9, .int nu, .int (nI wr), .int wa, .int w13, .int w14, .ref g15, .int w16, .ref g17, .int w18, .int w19, .ref g20, .int w21, .ref g22, .ref g23, .ref g24, .int w25, .int w26, .int w27, .ref g28, .ref g29, .int w30, .ref g31, .ref g32, .ref g33])), (g3, .inl (T 0, 900, .inl ft))] H locs := V
        show W p l e _ s m args below meth c H locs _ _ _ (F0 m 83 ls [.int (-1)])
        exact (by omega : False).elim
      · have V : gW D T A s [(o, .inr (8, [.int w0, .ref g1, .ref g2, .ref g3, .ref g4, .int (nI tp), .int (nI aq), .int (nI aq), .int (nI sz), .int w9, .int nu, .int (nI wr), .int wa, .int w13, .int w14, .ref g15, .int w16, .ref g17, .int w18, .int w19, .ref g20, .int w21, .ref g22, .ref g23, .ref g24, .int w25, .int w26, .int w27, .ref g28, .ref g29, .int w30, .ref g31, .ref g32, .ref g33])), (g3, .inl (T 0, 900, .inl ft))] H locs := V
        show W p l e _ s m args below meth c H locs _ _ _ (F0 m 83 ls [.int z_3])
        refine g_callSU (nA := 1) hC V hl.1 (f_isSmall l D T z_3) w_1034 w_1035 w_9 w_1036 (by decide +kernel) rfl ⟨(Nat.le_of_ble_eq_true rfl), (Nat.le_of_ble_eq_true rfl)⟩ [] rfl rfl (Nat.le_of_ble_eq_true rfl) dX8_next_83 ⟨(Nat.le_of_ble_eq_true rfl), (Nat.le_of_ble_eq_true rfl)⟩ rfl (fun r w1 H locs hQ V => ?_)
        rcases hQ with ⟨rfl, rfl, f_6⟩ | ⟨rfl, rfl, f_7⟩
        · have V : gW D T A s [(o, .inr (8, [.int w0, .ref g1, .ref g2, .ref g3, .ref g4, .int (nI tp), .int (nI aq), .int (nI aq), .int (nI sz), .int w9, .int nu, .int (nI wr), .int wa, .int w13, .int w14, .ref g15, .int w16, .ref g17, .int w18, .int w19, .ref g20, .int w21, .ref g22, .ref g23, .ref g24, .int w25, .int w26, .int w27, .ref g28, .ref g29, .int w30, .ref g31, .ref g32, .ref g33])), (g3, .inl (T 0, 900, .inl ft))] H locs := V _ [] rfl rfl rfl (by decide +kernel) rfl
          show W p l e _ s m args below meth c H locs _ _ _ (F0 m 86 ls [.int (nI 1)])
          have hsm : smB (ft aq) = true := f_5 ▸ f_6
          refine lv_if_eq (tgt := 127) hx hb dX8_next_86 (by decide) (fun c => absurd (show (nI 1) = 0 from c) (by decide +kernel)) (fun _ => ?_)
          have L_8 : ∀ (fu : Nat) (bq : Nat), (aq ≤ bq ∧ bq ≤ sz) → rn smB ft sz bq = rn smB ft sz aq → sz - bq < fu → ∀ (H : Heap) (locs : List Loc) (ls : Array Slot), gW D T A s [(o, .inr (8, [.int w0, .ref g1, .ref g2, .ref g3, .ref g4, .int (nI tp), .int (nI aq), .int (nI bq), .int (nI sz), .int w9, .int nu, .int (nI wr), .int wa, .int w13, .int w14, .ref g15, .int w16, .ref g17, .int w18, .int w19, .ref g20, .int w21, .ref g22, .ref g23, .ref g24, .int w25, .int w26, .int w27, .ref g28, .ref g29, .int w30, .ref g31, .ref g32, .ref g33])), (g3, .inl (T 0, 900, .inl ft))] H locs → lv_has ls 1 [(0, .ref o)] → W p l e (rmD 5 0 0) s m args below meth c H locs 0 0 (MQ below (gQ D A (q_m_next_f T o w0 g1 g2 g3 g4 tp w6 be sz w9 nu wr wa w13 w14 g15 w16 g17 w18 w19 g20 w21 g22 g23 g24 w25 w26 w27 g28 g29 w30 g31 g32 g33 ft)) args s 0 0 A) (F0 m 89 ls []) := by
            intro fu_89
            induction fu_89 with
            | zero => intro bq hbq hrb hmu; exact absurd hmu (Nat.not_lt_zero _)
            | succ fu_89 ih_89 =>
              intro bq hbq hrb hmu_89 H locs ls V hl
              refine lv_aload_n hx hb dX8_next_89 rfl (lv_at hl 0 rfl) ?_
              refine lv_aload_n hx hb dX8_next_90 rfl (lv_at hl 0 rfl) ?_
              refine g_get hC V (ci := 8) uwX8 0 rfl rfl 7 (by decide) w_919 rfl rfl dX8_next_91 ?_
              refine g_callV (wr := []) (nA := 1) hC V hl.1 (m_see l D T o bq w0 g1 g2 g3 g4 tp (nI aq) (nI bq) sz w9 nu (nI wr) wa w13 w14 g15 w16 g17 w18 w19 g20 w21 g22 g23 g24 w25 w26 w27 g28 g29 w30 g31 g32 g33 ft (by first | assumption | omega) (by first | assumption | omega)) w_1030 w_1032 w_s37 w_9 w_1033 (by decide +kernel) rfl ⟨(Nat.le_of_ble_eq_true rfl), (Nat.le_of_ble_eq_true rfl)⟩ 0 (ci := 8) rfl rfl [0, 1] [] rfl rfl rfl rfl (by decide) (Nat.le_of_ble_eq_true rfl) dX8_next_94 ⟨(Nat.le_of_ble_eq_true rfl), (Nat.le_of_ble_eq_true rfl)⟩ rfl (fun r w1 H locs hQ V => ?_)
              rcases hQ with ⟨rfl, rfl, f_9⟩ | ⟨z_10, rfl, rfl, f_11, f_12⟩
              · have V : gW D T A s [(o, .inr (8, [.int w0, .ref g1, .ref g2, .ref g3, .ref g4, .int (nI tp), .int (nI aq), .int (nI bq), .int (nI sz), .int w9, .int nu, .int (nI wr), .int wa, .int w13, .int w14, .ref g15, .int w16, .ref g17, .int w18, .int w19, .ref g20, .int w21, .ref g22, .ref g23, .ref g24, .int w25, .int w26, .int w27, .ref g28, .ref g29, .int w30, .ref g31, .ref g32, .ref g33])), (g3, .inl (T 0, 900, .inl ft))] H locs := V
                show W p l e _ s m args below meth c H locs _ _ _ (F0 m 97 ls [.int (-1)])
                refine g_callSU (nA := 1) hC V hl.1 (f_isSmall l D T (-1)) w_1034 w_1035 w_9 w_1036 (by decide +kernel) rfl ⟨(Nat.le_of_ble_eq_true rfl), (Nat.le_of_ble_eq_true rfl)⟩ [] rfl rfl (Nat.le_of_ble_eq_true rfl) dX8_next_97 ⟨(Nat.le_of_ble_eq_true rfl), (Nat.le_of_ble_eq_true rfl)⟩ rfl (fun r w1 H locs hQ V => ?_)
                rcases hQ with ⟨rfl, rfl, f_13⟩ | ⟨rfl, rfl, f_14⟩
                · have V : gW D T A s [(o, .inr (8, [.int w0, .ref g1, .ref g2, .ref g3, .ref g4, .int (nI tp), .int (nI aq), .int (nI bq), .int (nI sz), .int w9, .int nu, .int (nI wr), .int wa, .int w13, .int w14, .ref g15, .int w16, .ref g17, .int w18, .int w19, .ref g20, .int w21, .ref g22, .ref g23, .ref g24, .int w25, .int w26, .int w27, .ref g28, .ref g29, .int w30, .ref g31, .ref g32, .ref g33])), (g3, .inl (T 0, 900, .inl ft))] H locs := V _ [] rfl rfl rfl (by decide +kernel) rfl
                  show W p l e _ s m args below meth c H locs _ _ _ (F0 m 100 ls [.int (nI 1)])
                  exact absurd f_13 sm_m1
                · have V : gW D T A s [(o, .inr (8, [.int w0, .ref g1, .ref g2, .ref g3, .ref g4, .int (nI tp), .int (nI aq), .int (nI bq), .int (nI sz), .int w9, .int nu, .int (nI wr), .int wa, .int w13, .int w14, .ref g15, .int w16, .ref g17, .int w18, .int w19, .ref g20, .int w21, .ref g22, .ref g23, .ref g24, .int w25, .int w26, .int w27, .ref g28, .ref g29, .int w30, .ref g31, .ref g32, .ref g33])), (g3, .inl (T 0, 900, .inl ft))] H locs := V _ [] rfl rfl rfl (by decide +kernel) rfl
                  show W p l e _ s m args below meth c H locs _ _ _ (F0 m 100 ls [.int (nI 0)])
                  refine lv_if_eq (tgt := 116) hx hb dX8_next_100 (by decide) (fun _ => ?_) (fun c => absurd (show (nI 0) = 0 by decide +kernel) c)
                  refine lv_aload_n hx hb dX8_next_116 rfl (lv_at hl 0 rfl) ?_
                  refine lv_aload_n hx hb dX8_next_117 rfl (lv_at hl 0 rfl) ?_
                  refine g_callV (wr := []) (nA := 0) hC V hl.1 (m_keyAt_f l D T o w0 g1 g2 g3 g4 tp aq bq sz w9 nu (nI wr) wa w13 w14 g15 w16 g17 w18 w19 g20 w21 g22 g23 g24 w25 w26 w27 g28 g29 w30 g31 g32 g33 ft (by first | assumption | omega) (by first | assumption | omega)) w_1037 w_1039 w_s38 w_9 w_1040 (by decide +kernel) rfl ⟨(Nat.le_of_ble_eq_true rfl), (Nat.le_of_ble_eq_true rfl)⟩ 0 (ci := 8) rfl rfl [0, 1] [] rfl rfl rfl rfl (by decide) (Nat.le_of_ble_eq_true rfl) dX8_next_118 ⟨(Nat.le_of_ble_eq_true rfl), (Nat.le_of_ble_eq_true rfl)⟩ rfl (fun r w1 H locs hQ V => ?_)
                  obtain ⟨z_15, rfl, rfl, f_16⟩ := hQ
                  have V : gW D T A s [(o, .inr (8, [.int w0, .ref g1, .ref g2, .ref g3, .ref g4, .int (nI tp), .int (nI aq), .int (nI bq), .int (nI sz), .int w9, .int nu, .int (nI wr), .int wa, .int w13, .int w14, .ref g15, .int w16, .ref g17, .int w18, .int w19, .ref g20, .int w21, .ref g22, .ref g23, .ref g24, .int w25, .int w26, .int w27, .ref g28, .ref g29, .int w30, .ref g31, .ref g32, .ref g33])), (g3, .inl (T 0, 900, .inl ft))] H locs := V
                  show W p l e _ s m args below meth c H locs _ _ _ (F0 m 121 ls [.int (nI z_15), .ref o])
                  refine g_put hC V (ci := 8) uwX8 tyX8 tyX8_ok nmX8 0 rfl rfl 9 (by decide) w_921 rfl rfl rfl rfl (Nat.le_of_ble_eq_true rfl) (ws' := [(o, .inr (8, [.int w0, .ref g1, .ref g2, .ref g3, .ref g4, .int (nI tp), .int (nI aq), .int (nI bq), .int (nI sz), .int (nI z_15), .int nu, .int (nI wr), .int wa, .int w13, .int w14, .ref g15, .int w16, .ref g17, .int w18, .int w19, .ref g20, .int w21, .ref g22, .ref g23, .ref g24, .int w25, .int w26, .int w27, .ref g28, .ref g29, .int w30, .ref g31, .ref g32, .ref g33])), (g3, .inl (T 0, 900, .inl ft))]) rfl dX8_next_121 (fun H locs V => ?_)
                  refine lv_goto (tgt := 270) hx hb dX8_next_124 (by decide) ?_
                  exact g_vret (Qr := (q_m_next_f T o w0 g1 g2 g3 g4 tp w6 be sz w9 nu wr wa w13 w14 g15 w16 g17 w18 w19 g20 w21 g22 g23 g24 w25 w26 w27 g28 g29 w30 g31 g32 g33 ft)) hC V ⟨(Nat.le_of_ble_eq_true rfl), (Nat.le_of_ble_eq_true rfl)⟩ ⟨(aq, bq, z_15, nu, wr, wa), rfl, rfl, (nx_eq (p := (0, be, 0, nu, wr, wa)) (a := aq) haq2 (Eq.symm (Eq.trans (tkB_w (by omega) hsm) (Eq.symm (by first | exact rn_st hrb (rn_no hgsn) | exact rn_st hrb (rn_end (by omega)))))) (f_16.trans (tkK_w (by omega) hsm).symm) (tkN_w hsm).symm rfl rfl)⟩ dX8_next_270
              · have V : gW D T A s [(o, .inr (8, [.int w0, .ref g1, .ref g2, .ref g3, .ref g4, .int (nI tp), .int (nI aq), .int (nI bq), .int (nI sz), .int w9, .int nu, .int (nI wr), .int wa, .int w13, .int w14, .ref g15, .int w16, .ref g17, .int w18, .int w19, .ref g20, .int w21, .ref g22, .ref g23, .ref g24, .int w25, .int w26, .int w27, .ref g28, .ref g29, .int w30, .ref g31, .ref g32, .ref g33])), (g3, .inl (T 0, 900, .inl ft))] H locs := V
                show W p l e _ s m args below meth c H locs _ _ _ (F0 m 97 ls [.int z_10])
                refine g_callSU (nA := 1) hC V hl.1 (f_isSmall l D T z_10) w_1034 w_1035 w_9 w_1036 (by decide +kernel) rfl ⟨(Nat.le_of_ble_eq_true rfl), (Nat.le_of_ble_eq_true rfl)⟩ [] rfl rfl (Nat.le_of_ble_eq_true rfl) dX8_next_97 ⟨(Nat.le_of_ble_eq_true rfl), (Nat.le_of_ble_eq_true rfl)⟩ rfl (fun r w1 H locs hQ V => ?_)
                rcases hQ with ⟨rfl, rfl, f_17⟩ | ⟨rfl, rfl, f_18⟩
                · have V : gW D T A s [(o, .inr (8, [.int w0, .ref g1, .ref g2, .ref g3, .ref g4, .int (nI tp), .int (nI aq), .int (nI bq), .int (nI sz), .int w9, .int nu, .int (nI wr), .int wa, .int w13, .int w14, .ref g15, .int w16, .ref g17, .int w18, .int w19, .ref g20, .int w21, .ref g22, .ref g23, .ref g24, .int w25, .int w26, .int w27, .ref g28, .ref g29, .int w30, .ref g31, .ref g32, .ref g33])), (g3, .inl (T 0, 900, .inl ft))] H locs := V _ [] rfl rfl rfl (by decide +kernel) rfl
                  show W p l e _ s m args below meth c H locs _ _ _ (F0 m 100 ls [.int (nI 1)])
                  have hgs : smB (ft bq) = true := f_12 ▸ f_17
                  refine lv_if_eq (tgt := 116) hx hb dX8_next_100 (by decide) (fun c => absurd (show (nI 1) = 0 from c) (by decide +kernel)) (fun _ => ?_)
                  refine lv_aload_n hx hb dX8_next_103 rfl (lv_at hl 0 rfl) ?_
                  refine lv_dup hx hb dX8_next_104 rfl ?_
                  refine g_get hC V (ci := 8) uwX8 0 rfl rfl 7 (by decide) w_919 rfl rfl dX8_next_105 ?_
                  refine lv_iconst (v := (nI 1)) hx hb dX8_next_108 (by decide +kernel) ?_
                  refine lv_iadd hx hb dX8_next_109 ?_
                  refine g_vi (y := (nI (bq + 1))) (nI_add _ _) ?_
                  refine g_put hC V (ci := 8) uwX8 tyX8 tyX8_ok nmX8 0 rfl rfl 7 (by decide) w_919 rfl rfl rfl rfl (Nat.le_of_ble_eq_true rfl) (ws' := [(o, .inr (8, [.int w0, .ref g1, .ref g2, .ref g3, .ref g4, .int (nI tp), .int (nI aq), .int (nI (bq + 1)), .int (nI sz), .int w9, .int nu, .int (nI wr), .int wa, .int w13, .int w14, .ref g15, .int w16, .ref g17, .int w18, .int w19, .ref g20, .int w21, .ref g22, .ref g23, .ref g24, .int w25, .int w26, .int w27, .ref g28, .ref g29, .int w30, .ref g31, .ref g32, .ref g33])), (g3, .inl (T 0, 900, .inl ft))]) rfl dX8_next_110 (fun H locs V => ?_)
                  refine lv_goto (tgt := 89) hx hb dX8_next_113 (by decide) ?_
                  exact ih_89 (bq + 1) (by omega) ((rn_go (by omega) hgs).symm.trans hrb) (by omega) _ _ _ V (lv_sub hl [0] rfl)
                · have V : gW D T A s [(o, .inr (8, [.int w0, .ref g1, .ref g2, .ref g3, .ref g4, .int (nI tp), .int (nI aq), .int (nI bq), .int (nI sz), .int w9, .int nu, .int (nI wr), .int wa, .int w13, .int w14, .ref g15, .int w16, .ref g17, .int w18, .int w19, .ref g20, .int w21, .ref g22, .ref g23, .ref g24, .int w25, .int w26, .int w27, .ref g28, .ref g29, .int w30, .ref g31, .ref g32, .ref g33])), (g3, .inl (T 0, 900, .inl ft))] H locs := V _ [] rfl rfl rfl (by decide +kernel) rfl
                  show W p l e _ s m args below meth c H locs _ _ _ (F0 m 100 ls [.int (nI 0)])
                  have hgsn : ¬ smB (ft bq) = true := f_12 ▸ f_18
                  refine lv_if_eq (tgt := 116) hx hb dX8_next_100 (by decide) (fun _ => ?_) (fun c => absurd (show (nI 0) = 0 by decide +kernel) c)
                  refine lv_aload_n hx hb dX8_next_116 rfl (lv_at hl 0 rfl) ?_
                  refine lv_aload_n hx hb dX8_next_117 rfl (lv_at hl 0 rfl) ?_
                  refine g_callV (wr := []) (nA := 0) hC V hl.1 (m_keyAt_f l D T o w0 g1 g2 g3 g4 tp aq bq sz w9 nu (nI wr) wa w13 w14 g15 w16 g17 w18 w19 g20 w21 g22 g23 g24 w25 w26 w27 g28 g29 w30 g31 g32 g33 ft (by first | assumption | omega) (by first | assumption | omega)) w_1037 w_1039 w_s38 w_9 w_1040 (by decide +kernel) rfl ⟨(Nat.le_of_ble_eq_true rfl), (Nat.le_of_ble_eq_true rfl)⟩ 0 (ci := 8) rfl rfl [0, 1] [] rfl rfl rfl rfl (by decide) (Nat.le_of_ble_eq_true rfl) dX8_next_118 ⟨(Nat.le_of_ble_eq_true rfl), (Nat.le_of_ble_eq_true rfl)⟩ rfl (fun r w1 H locs hQ V => ?_)
                  obtain ⟨z_19, rfl, rfl, f_20⟩ := hQ
                  have V : gW D T A s [(o, .inr (8, [.int w0, .ref g1, .ref g2, .ref g3, .ref g4, .int (nI tp), .int (nI aq), .int (nI bq), .int (nI sz), .int w9, .int nu, .int (nI wr), .int wa, .int w13, .int w14, .ref g15, .int w16, .ref g17, .int w18, .int w19, .ref g20, .int w21, .ref g22, .ref g23, .ref g24, .int w25, .int w26, .int w27, .ref g28, .ref g29, .int w30, .ref g31, .ref g32, .ref g33])), (g3, .inl (T 0, 900, .inl ft))] H locs := V
                  show W p l e _ s m args below meth c H locs _ _ _ (F0 m 121 ls [.int (nI z_19), .ref o])
                  refine g_put hC V (ci := 8) uwX8 tyX8 tyX8_ok nmX8 0 rfl rfl 9 (by decide) w_921 rfl rfl rfl rfl (Nat.le_of_ble_eq_true rfl) (ws' := [(o, .inr (8, [.int w0, .ref g1, .ref g2, .ref g3, .ref g4, .int (nI tp), .int (nI aq), .int (nI bq), .int (nI sz), .int (nI z_19), .int nu, .int (nI wr), .int wa, .int w13, .int w14, .ref g15, .int w16, .ref g17, .int w18, .int w19, .ref g20, .int w21, .ref g22, .ref g23, .ref g24, .int w25, .int w26, .int w27, .ref g28, .ref g29, .int w30, .ref g31, .ref g32, .ref g33])), (g3, .inl (T 0, 900, .inl ft))]) rfl dX8_next_121 (fun H locs V => ?_)
                  refine lv_goto (tgt := 270) hx hb dX8_next_124 (by decide) ?_
                  exact g_vret (Qr := (q_m_next_f T o w0 g1 g2 g3 g4 tp w6 be sz w9 nu wr wa w13 w14 g15 w16 g17 w18 w19 g20 w21 g22 g23 g24 w25 w26 w27 g28 g29 w30 g31 g32 g33 ft)) hC V ⟨(Nat.le_of_ble_eq_true rfl), (Nat.le_of_ble_eq_true rfl)⟩ ⟨(aq, bq, z_19, nu, wr, wa), rfl, rfl, (nx_eq (p := (0, be, 0, nu, wr, wa)) (a := aq) haq2 (Eq.symm (Eq.trans (tkB_w (by omega) hsm) (Eq.symm (by first | exact rn_st hrb (rn_no hgsn) | exact rn_st hrb (rn_end (by omega)))))) (f_20.trans (tkK_w (by omega) hsm).symm) (tkN_w hsm).symm rfl rfl)⟩ dX8_next_270
          exact L_8 _ aq (by omega) rfl (Nat.lt_succ_self _) _ _ _ V (lv_sub hl [0] rfl)
        · have V : gW D T A s [(o, .inr (8, [.int w0, .ref g1, .ref g2, .ref g3, .ref g4, .int (nI tp), .int (nI aq), .int (nI aq), .int (nI sz), .int w9, .int nu, .int (nI wr), .int wa, .int w13, .int w14, .ref g15, .int w16, .ref g17, .int w18, .int w19, .ref g20, .int w21, .ref g22, .ref g23, .ref g24, .int w25, .int w26, .int w27, .ref g28, .ref g29, .int w30, .ref g31, .ref g32, .ref g33])), (g3, .inl (T 0, 900, .inl ft))] H locs := V _ [] rfl rfl rfl (by decide +kernel) rfl
          show W p l e _ s m args below meth c H locs _ _ _ (F0 m 86 ls [.int (nI 0)])
          have hsmn : ¬ smB (ft aq) = true := f_5 ▸ f_7
          refine lv_if_eq (tgt := 127) hx hb dX8_next_86 (by decide) (fun _ => ?_) (fun c => absurd (show (nI 0) = 0 by decide +kernel) c)
          refine lv_aload_n hx hb dX8_next_127 rfl (lv_at hl 0 rfl) ?_
          refine lv_aload_n hx hb dX8_next_128 rfl (lv_at hl 0 rfl) ?_
          refine g_get hC V (ci := 8) uwX8 0 rfl rfl 6 (by decide) w_918 rfl rfl dX8_next_129 ?_
          refine g_callV (wr := []) (nA := 1) hC V hl.1 (m_see l D T o aq w0 g1 g2 g3 g4 tp (nI aq) (nI aq) sz w9 nu (nI wr) wa w13 w14 g15 w16 g17 w18 w19 g20 w21 g22 g23 g24 w25 w26 w27 g28 g29 w30 g31 g32 g33 ft (by first | assumption | omega) (by first | assumption | omega)) w_1030 w_1032 w_s37 w_9 w_1033 (by decide +kernel) rfl ⟨(Nat.le_of_ble_eq_true rfl), (Nat.le_of_ble_eq_true rfl)⟩ 0 (ci := 8) rfl rfl [0, 1] [] rfl rfl rfl rfl (by decide) (Nat.le_of_ble_eq_true rfl) dX8_next_132 ⟨(Nat.le_of_ble_eq_true rfl), (Nat.le_of_ble_eq_true rfl)⟩ rfl (fun r w1 H locs hQ V => ?_)
          rcases hQ with ⟨rfl, rfl, f_21⟩ | ⟨z_22, rfl, rfl, f_23, f_24⟩
          · have V : gW D T A s [(o, .inr (8, [.int w0, .ref g1, .ref g2, .ref g3, .ref g4, .int (nI tp), .int (nI aq), .int (nI aq), .int (nI sz), .int w9, .int nu, .int (nI wr), .int wa, .int w13, .int w14, .ref g15, .int w16, .ref g17, .int w18, .int w19, .ref g20, .int w21, .ref g22, .ref g23, .ref g24, .int w25, .int w26, .int w27, .ref g28, .ref g29, .int w30, .ref g31, .ref g32, .ref g33])), (g3, .inl (T 0, 900, .inl ft))] H locs := V
            show W p l e _ s m args below meth c H locs _ _ _ (F0 m 135 ls [.int (-1)])
            exact (by omega : False).elim
          · have V : gW D T A s [(o, .inr (8, [.int w0, .ref g1, .ref g2, .ref g3, .ref g4, .int (nI tp), .int (nI aq), .int (nI aq), .int (nI sz), .int w9, .int nu, .int (nI wr), .int wa, .int w13, .int w14, .ref g15, .int w16, .ref g17, .int w18, .int w19, .ref g20, .int w21, .ref g22, .ref g23, .ref g24, .int w25, .int w26, .int w27, .ref g28, .ref g29, .int w30, .ref g31, .ref g32, .ref g33])), (g3, .inl (T 0, 900, .inl ft))] H locs := V
            show W p l e _ s m args below meth c H locs _ _ _ (F0 m 135 ls [.int z_22])
            refine g_callSU (nA := 1) hC V hl.1 (f_isDigit l D T z_22) w_1044 w_1045 w_9 w_1046 (by decide +kernel) rfl ⟨(Nat.le_of_ble_eq_true rfl), (Nat.le_of_ble_eq_true rfl)⟩ [] rfl rfl (Nat.le_of_ble_eq_true rfl) dX8_next_135 ⟨(Nat.le_of_ble_eq_true rfl), (Nat.le_of_ble_eq_true rfl)⟩ rfl (fun r w1 H locs hQ V => ?_)
            rcases hQ with ⟨rfl, rfl, f_25⟩ | ⟨rfl, rfl, f_26⟩
            · have V : gW D T A s [(o, .inr (8, [.int w0, .ref g1, .ref g2, .ref g3, .ref g4, .int (nI tp), .int (nI aq), .int (nI aq), .int (nI sz), .int w9, .int nu, .int (nI wr), .int wa, .int w13, .int w14, .ref g15, .int w16, .ref g17, .int w18, .int w19, .ref g20, .int w21, .ref g22, .ref g23, .ref g24, .int w25, .int w26, .int w27, .ref g28, .ref g29, .int w30, .ref g31, .ref g32, .ref g33])), (g3, .inl (T 0, 900, .inl ft))] H locs := V _ [] rfl rfl rfl (by decide +kernel) rfl
              show W p l e _ s m args below meth c H locs _ _ _ (F0 m 138 ls [.int (nI 1)])
              have hdg : dgB (ft aq) = true := f_24 ▸ f_25
              refine lv_if_eq (tgt := 236) hx hb dX8_next_138 (by decide) (fun c => absurd (show (nI 1) = 0 from c) (by decide +kernel)) (fun _ => ?_)
              refine lv_aload_n hx hb dX8_next_141 rfl (lv_at hl 0 rfl) ?_
              refine lv_iconst (v := (nI 0)) hx hb dX8_next_142 (by decide +kernel) ?_
              refine g_put hC V (ci := 8) uwX8 tyX8 tyX8_ok nmX8 0 rfl rfl 10 (by decide) w_922 rfl rfl rfl rfl (Nat.le_of_ble_eq_true rfl) (ws' := [(o, .inr (8, [.int w0, .ref g1, .ref g2, .ref g3, .ref g4, .int (nI tp), .int (nI aq), .int (nI aq), .int (nI sz), .int w9, .int (nI 0), .int (nI wr), .int wa, .int w13, .int w14, .ref g15, .int w16, .ref g17, .int w18, .int w19, .ref g20, .int w21, .ref g22, .ref g23, .ref g24, .int w25, .int w26, .int w27, .ref g28, .ref g29, .int w30, .ref g31, .ref g32, .ref g33])), (g3, .inl (T 0, 900, .inl ft))]) rfl dX8_next_143 (fun H locs V => ?_)
              have L_27 : ∀ (fu : Nat) (bq : Nat) (nq : Int32), (aq ≤ bq ∧ bq ≤ sz) → rn dgB ft sz bq = rn dgB ft sz aq → nq = nuV ft aq (min 3 (bq - aq)) → sz - bq < fu → ∀ (H : Heap) (locs : List Loc) (ls : Array Slot), gW D T A s [(o, .inr (8, [.int w0, .ref g1, .ref g2, .ref g3, .ref g4, .int (nI tp), .int (nI aq), .int (nI bq), .int (nI sz), .int w9, .int nq, .int (nI wr), .int wa, .int w13, .int w14, .ref g15, .int w16, .ref g17, .int w18, .int w19, .ref g20, .int w21, .ref g22, .ref g23, .ref g24, .int w25, .int w26, .int w27, .ref g28, .ref g29, .int w30, .ref g31, .ref g32, .ref g33])), (g3, .inl (T 0, 900, .inl ft))] H locs → lv_has ls 1 [(0, .ref o)] → W p l e (rmD 5 0 0) s m args below meth c H locs 0 0 (MQ below (gQ D A (q_m_next_f T o w0 g1 g2 g3 g4 tp w6 be sz w9 nu wr wa w13 w14 g15 w16 g17 w18 w19 g20 w21 g22 g23 g24 w25 w26 w27 g28 g29 w30 g31 g32 g33 ft)) args s 0 0 A) (F0 m 146 ls []) := by
                intro fu_146
                induction fu_146 with
                | zero => intro bq nq hbq hrb hnq hmu; exact absurd hmu (Nat.not_lt_zero _)
                | succ fu_146 ih_146 =>
                  intro bq nq hbq hrb hnq hmu_146 H locs ls V hl
                  refine lv_aload_n hx hb dX8_next_146 rfl (lv_at hl 0 rfl) ?_
                  refine lv_aload_n hx hb dX8_next_147 rfl (lv_at hl 0 rfl) ?_
                  refine g_get hC V (ci := 8) uwX8 0 rfl rfl 7 (by decide) w_919 rfl rfl dX8_next_148 ?_
                  refine g_callV (wr := []) (nA := 1) hC V hl.1 (m_see l D T o bq w0 g1 g2 g3 g4 tp (nI aq) (nI bq) sz w9 nq (nI wr) wa w13 w14 g15 w16 g17 w18 w19 g20 w21 g22 g23 g24 w25 w26 w27 g28 g29 w30 g31 g32 g33 ft (by first | assumption | omega) (by first | assumption | omega)) w_1030 w_1032 w_s37 w_9 w_1033 (by decide +kernel) rfl ⟨(Nat.le_of_ble_eq_true rfl), (Nat.le_of_ble_eq_true rfl)⟩ 0 (ci := 8) rfl rfl [0, 1] [] rfl rfl rfl rfl (by decide) (Nat.le_of_ble_eq_true rfl) dX8_next_151 ⟨(Nat.le_of_ble_eq_true rfl), (Nat.le_of_ble_eq_true rfl)⟩ rfl (fun r w1 H locs hQ V => ?_)
                  rcases hQ with ⟨rfl, rfl, f_28⟩ | ⟨z_29, rfl, rfl, f_30, f_31⟩
                  · have V : gW D T A s [(o, .inr (8, [.int w0, .ref g1, .ref g2, .ref g3, .ref g4, .int (nI tp), .int (nI aq), .int (nI bq), .int (nI sz), .int w9, .int nq, .int (nI wr), .int wa, .int w13, .int w14, .ref g15, .int w16, .ref g17, .int w18, .int w19, .ref g20, .int w21, .ref g22, .ref g23, .ref g24, .int w25, .int w26, .int w27, .ref g28, .ref g29, .int w30, .ref g31, .ref g32, .ref g33])), (g3, .inl (T 0, 900, .inl ft))] H locs := V
                    show W p l e _ s m args below meth c H locs _ _ _ (F0 m 154 ls [.int (-1)])
                    refine g_callSU (nA := 1) hC V hl.1 (f_isDigit l D T (-1)) w_1044 w_1045 w_9 w_1046 (by decide +kernel) rfl ⟨(Nat.le_of_ble_eq_true rfl), (Nat.le_of_ble_eq_true rfl)⟩ [] rfl rfl (Nat.le_of_ble_eq_true rfl) dX8_next_154 ⟨(Nat.le_of_ble_eq_true rfl), (Nat.le_of_ble_eq_true rfl)⟩ rfl (fun r w1 H locs hQ V => ?_)
                    rcases hQ with ⟨rfl, rfl, f_32⟩ | ⟨rfl, rfl, f_33⟩
                    · have V : gW D T A s [(o, .inr (8, [.int w0, .ref g1, .ref g2, .ref g3, .ref g4, .int (nI tp), .int (nI aq), .int (nI bq), .int (nI sz), .int w9, .int nq, .int (nI wr), .int wa, .int w13, .int w14, .ref g15, .int w16, .ref g17, .int w18, .int w19, .ref g20, .int w21, .ref g22, .ref g23, .ref g24, .int w25, .int w26, .int w27, .ref g28, .ref g29, .int w30, .ref g31, .ref g32, .ref g33])), (g3, .inl (T 0, 900, .inl ft))] H locs := V _ [] rfl rfl rfl (by decide +kernel) rfl
                      show W p l e _ s m args below meth c H locs _ _ _ (F0 m 157 ls [.int (nI 1)])
                      exact absurd f_32 dg_m1
                    · have V : gW D T A s [(o, .inr (8, [.int w0, .ref g1, .ref g2, .ref g3, .ref g4, .int (nI tp), .int (nI aq), .int (nI bq), .int (nI sz), .int w9, .int nq, .int (nI wr), .int wa, .int w13, .int w14, .ref g15, .int w16, .ref g17, .int w18, .int w19, .ref g20, .int w21, .ref g22, .ref g23, .ref g24, .int w25, .int w26, .int w27, .ref g28, .ref g29, .int w30, .ref g31, .ref g32, .ref g33])), (g3, .inl (T 0, 900, .inl ft))] H locs := V _ [] rfl rfl rfl (by decide +kernel) rfl
                      show W p l e _ s m args below meth c H locs _ _ _ (F0 m 157 ls [.int (nI 0)])
                      refine lv_if_eq (tgt := 209) hx hb dX8_next_157 (by decide) (fun _ => ?_) (fun c => absurd (show (nI 0) = 0 by decide +kernel) c)
                      refine lv_aload_n hx hb dX8_next_209 rfl (lv_at hl 0 rfl) ?_
                      refine lv_aload_n hx hb dX8_next_210 rfl (lv_at hl 0 rfl) ?_
                      refine g_get hC V (ci := 8) uwX8 0 rfl rfl 7 (by decide) w_919 rfl rfl dX8_next_211 ?_
                      refine lv_aload_n hx hb dX8_next_214 rfl (lv_at hl 0 rfl) ?_
                      refine g_get hC V (ci := 8) uwX8 0 rfl rfl 6 (by decide) w_918 rfl rfl dX8_next_215 ?_
                      refine lv_isub hx hb dX8_next_218 ?_
                      refine g_vi (y := (nI (bq - aq))) (nI_sub (by omega)) ?_
                      refine lv_iconst (v := (nI 3)) hx hb dX8_next_219 (by decide +kernel) ?_
                      refine lv_icmp_le (tgt := 228) hx hb dX8_next_220 (by decide) (fun c_34 => ?_) (fun c_34 => ?_)
                      · skip
                        have c_34 := b_le (by omega) (by omega) c_34
                        refine lv_bipush (v := (nI 9)) hx hb dX8_next_228 (by decide +kernel) ?_
                        refine g_put hC V (ci := 8) uwX8 tyX8 tyX8_ok nmX8 0 rfl rfl 9 (by decide) w_921 rfl rfl rfl rfl (Nat.le_of_ble_eq_true rfl) (ws' := [(o, .inr (8, [.int w0, .ref g1, .ref g2, .ref g3, .ref g4, .int (nI tp), .int (nI aq), .int (nI bq), .int (nI sz), .int (nI 9), .int nq, .int (nI wr), .int wa, .int w13, .int w14, .ref g15, .int w16, .ref g17, .int w18, .int w19, .ref g20, .int w21, .ref g22, .ref g23, .ref g24, .int w25, .int w26, .int w27, .ref g28, .ref g29, .int w30, .ref g31, .ref g32, .ref g33])), (g3, .inl (T 0, 900, .inl ft))]) rfl dX8_next_230 (fun H locs V => ?_)
                        refine lv_goto (tgt := 270) hx hb dX8_next_233 (by decide) ?_
                        exact g_vret (Qr := (q_m_next_f T o w0 g1 g2 g3 g4 tp w6 be sz w9 nu wr wa w13 w14 g15 w16 g17 w18 w19 g20 w21 g22 g23 g24 w25 w26 w27 g28 g29 w30 g31 g32 g33 ft)) hC V ⟨(Nat.le_of_ble_eq_true rfl), (Nat.le_of_ble_eq_true rfl)⟩ ⟨(aq, bq, 9, nq, wr, wa), rfl, rfl, (nx_eq (p := (0, be, 0, nu, wr, wa)) (a := aq) haq2 (Eq.symm (Eq.trans (tkB_d (by omega) hsmn hdg) (Eq.symm (by first | exact rn_st hrb (rn_no hgdn) | exact rn_st hrb (rn_end (by omega)))))) (tkK_d9 (by omega) hsmn hdg (by omega)).symm (hnq.trans (tkN_d (by omega) hsmn hdg).symm) rfl rfl)⟩ dX8_next_270
                      · skip
                        have c_34 := b_nle (by omega) (by omega) c_34
                        refine lv_bipush (v := (nI 12)) hx hb dX8_next_223 (by decide +kernel) ?_
                        refine lv_goto (tgt := 230) hx hb dX8_next_225 (by decide) ?_
                        refine g_put hC V (ci := 8) uwX8 tyX8 tyX8_ok nmX8 0 rfl rfl 9 (by decide) w_921 rfl rfl rfl rfl (Nat.le_of_ble_eq_true rfl) (ws' := [(o, .inr (8, [.int w0, .ref g1, .ref g2, .ref g3, .ref g4, .int (nI tp), .int (nI aq), .int (nI bq), .int (nI sz), .int (nI 12), .int nq, .int (nI wr), .int wa, .int w13, .int w14, .ref g15, .int w16, .ref g17, .int w18, .int w19, .ref g20, .int w21, .ref g22, .ref g23, .ref g24, .int w25, .int w26, .int w27, .ref g28, .ref g29, .int w30, .ref g31, .ref g32, .ref g33])), (g3, .inl (T 0, 900, .inl ft))]) rfl dX8_next_230 (fun H locs V => ?_)
                        refine lv_goto (tgt := 270) hx hb dX8_next_233 (by decide) ?_
                        exact g_vret (Qr := (q_m_next_f T o w0 g1 g2 g3 g4 tp w6 be sz w9 nu wr wa w13 w14 g15 w16 g17 w18 w19 g20 w21 g22 g23 g24 w25 w26 w27 g28 g29 w30 g31 g32 g33 ft)) hC V ⟨(Nat.le_of_ble_eq_true rfl), (Nat.le_of_ble_eq_true rfl)⟩ ⟨(aq, bq, 12, nq, wr, wa), rfl, rfl, (nx_eq (p := (0, be, 0, nu, wr, wa)) (a := aq) haq2 (Eq.symm (Eq.trans (tkB_d (by omega) hsmn hdg) (Eq.symm (by first | exact rn_st hrb (rn_no hgdn) | exact rn_st hrb (rn_end (by omega)))))) (tkK_d12 (by omega) hsmn hdg (by omega)).symm (hnq.trans (tkN_d (by omega) hsmn hdg).symm) rfl rfl)⟩ dX8_next_270
                  · have V : gW D T A s [(o, .inr (8, [.int w0, .ref g1, .ref g2, .ref g3, .ref g4, .int (nI tp), .int (nI aq), .int (nI bq), .int (nI sz), .int w9, .int nq, .int (nI wr), .int wa, .int w13, .int w14, .ref g15, .int w16, .ref g17, .int w18, .int w19, .ref g20, .int w21, .ref g22, .ref g23, .ref g24, .int w25, .int w26, .int w27, .ref g28, .ref g29, .int w30, .ref g31, .ref g32, .ref g33])), (g3, .inl (T 0, 900, .inl ft))] H locs := V
                    show W p l e _ s m args below meth c H locs _ _ _ (F0 m 154 ls [.int z_29])
                    refine g_callSU (nA := 1) hC V hl.1 (f_isDigit l D T z_29) w_1044 w_1045 w_9 w_1046 (by decide +kernel) rfl ⟨(Nat.le_of_ble_eq_true rfl), (Nat.le_of_ble_eq_true rfl)⟩ [] rfl rfl (Nat.le_of_ble_eq_true rfl) dX8_next_154 ⟨(Nat.le_of_ble_eq_true rfl), (Nat.le_of_ble_eq_true rfl)⟩ rfl (fun r w1 H locs hQ V => ?_)
                    rcases hQ with ⟨rfl, rfl, f_35⟩ | ⟨rfl, rfl, f_36⟩
                    · have V : gW D T A s [(o, .inr (8, [.int w0, .ref g1, .ref g2, .ref g3, .ref g4, .int (nI tp), .int (nI aq), .int (nI bq), .int (nI sz), .int w9, .int nq, .int (nI wr), .int wa, .int w13, .int w14, .ref g15, .int w16, .ref g17, .int w18, .int w19, .ref g20, .int w21, .ref g22, .ref g23, .ref g24, .int w25, .int w26, .int w27, .ref g28, .ref g29, .int w30, .ref g31, .ref g32, .ref g33])), (g3, .inl (T 0, 900, .inl ft))] H locs := V _ [] rfl rfl rfl (by decide +kernel) rfl
                      show W p l e _ s m args below meth c H locs _ _ _ (F0 m 157 ls [.int (nI 1)])
                      have hgd : dgB (ft bq) = true := f_31 ▸ f_35
                      refine lv_if_eq (tgt := 209) hx hb dX8_next_157 (by decide) (fun c => absurd (show (nI 1) = 0 from c) (by decide +kernel)) (fun _ => ?_)
                      refine lv_aload_n hx hb dX8_next_160 rfl (lv_at hl 0 rfl) ?_
                      refine g_get hC V (ci := 8) uwX8 0 rfl rfl 7 (by decide) w_919 rfl rfl dX8_next_161 ?_
                      refine lv_aload_n hx hb dX8_next_164 rfl (lv_at hl 0 rfl) ?_
                      refine g_get hC V (ci := 8) uwX8 0 rfl rfl 6 (by decide) w_918 rfl rfl dX8_next_165 ?_
                      refine lv_isub hx hb dX8_next_168 ?_
                      refine g_vi (y := (nI (bq - aq))) (nI_sub (by omega)) ?_
                      refine lv_iconst (v := (nI 3)) hx hb dX8_next_169 (by decide +kernel) ?_
                      refine lv_icmp_ge (tgt := 196) hx hb dX8_next_170 (by decide) (fun c_37 => ?_) (fun c_37 => ?_)
                      · skip
                        have c_37 := b_le (by omega) (by omega) c_37
                        refine lv_aload_n hx hb dX8_next_196 rfl (lv_at hl 0 rfl) ?_
                        refine lv_dup hx hb dX8_next_197 rfl ?_
                        refine g_get hC V (ci := 8) uwX8 0 rfl rfl 7 (by decide) w_919 rfl rfl dX8_next_198 ?_
                        refine lv_iconst (v := (nI 1)) hx hb dX8_next_201 (by decide +kernel) ?_
                        refine lv_iadd hx hb dX8_next_202 ?_
                        refine g_vi (y := (nI (bq + 1))) (nI_add _ _) ?_
                        refine g_put hC V (ci := 8) uwX8 tyX8 tyX8_ok nmX8 0 rfl rfl 7 (by decide) w_919 rfl rfl rfl rfl (Nat.le_of_ble_eq_true rfl) (ws' := [(o, .inr (8, [.int w0, .ref g1, .ref g2, .ref g3, .ref g4, .int (nI tp), .int (nI aq), .int (nI (bq + 1)), .int (nI sz), .int w9, .int nq, .int (nI wr), .int wa, .int w13, .int w14, .ref g15, .int w16, .ref g17, .int w18, .int w19, .ref g20, .int w21, .ref g22, .ref g23, .ref g24, .int w25, .int w26, .int w27, .ref g28, .ref g29, .int w30, .ref g31, .ref g32, .ref g33])), (g3, .inl (T 0, 900, .inl ft))]) rfl dX8_next_203 (fun H locs V => ?_)
                        refine lv_goto (tgt := 146) hx hb dX8_next_206 (by decide) ?_
                        exact ih_146 (bq + 1) nq (by omega) ((rn_go (by omega) hgd).symm.trans hrb) (nu_st hnq (by omega)) (by omega) _ _ _ V (lv_sub hl [0] rfl)
                      · skip
                        have c_37 := b_nle (by omega) (by omega) c_37
                        refine lv_aload_n hx hb dX8_next_173 rfl (lv_at hl 0 rfl) ?_
                        refine lv_bipush (v := (nI 10)) hx hb dX8_next_174 (by decide +kernel) ?_
                        refine lv_aload_n hx hb dX8_next_176 rfl (lv_at hl 0 rfl) ?_
                        refine g_get hC V (ci := 8) uwX8 0 rfl rfl 10 (by decide) w_922 rfl rfl dX8_next_177 ?_
                        refine lv_imul hx hb dX8_next_180 ?_
                        refine lv_aload_n hx hb dX8_next_181 rfl (lv_at hl 0 rfl) ?_
                        refine lv_aload_n hx hb dX8_next_182 rfl (lv_at hl 0 rfl) ?_
                        refine g_get hC V (ci := 8) uwX8 0 rfl rfl 7 (by decide) w_919 rfl rfl dX8_next_183 ?_
                        refine g_callV (wr := []) (nA := 1) hC V hl.1 (m_see l D T o bq w0 g1 g2 g3 g4 tp (nI aq) (nI bq) sz w9 nq (nI wr) wa w13 w14 g15 w16 g17 w18 w19 g20 w21 g22 g23 g24 w25 w26 w27 g28 g29 w30 g31 g32 g33 ft (by first | assumption | omega) (by first | assumption | omega)) w_1030 w_1032 w_s37 w_9 w_1033 (by decide +kernel) rfl ⟨(Nat.le_of_ble_eq_true rfl), (Nat.le_of_ble_eq_true rfl)⟩ 0 (ci := 8) rfl rfl [0, 1] [] rfl rfl rfl rfl (by decide) (Nat.le_of_ble_eq_true rfl) dX8_next_186 ⟨(Nat.le_of_ble_eq_true rfl), (Nat.le_of_ble_eq_true rfl)⟩ rfl (fun r w1 H locs hQ V => ?_)
                        rcases hQ with ⟨rfl, rfl, f_38⟩ | ⟨z_39, rfl, rfl, f_40, f_41⟩
                        · have V : gW D T A s [(o, .inr (8, [.int w0, .ref g1, .ref g2, .ref g3, .ref g4, .int (nI tp), .int (nI aq), .int (nI bq), .int (nI sz), .int w9, .int nq, .int (nI wr), .int wa, .int w13, .int w14, .ref g15, .int w16, .ref g17, .int w18, .int w19, .ref g20, .int w21, .ref g22, .ref g23, .ref g24, .int w25, .int w26, .int w27, .ref g28, .ref g29, .int w30, .ref g31, .ref g32, .ref g33])), (g3, .inl (T 0, 900, .inl ft))] H locs := V
                          show W p l e _ s m args below meth c H locs _ _ _ (F0 m 189 ls [.int (-1), .int ((nI 10) * nq), .ref o])
                          exact (by omega : False).elim
                        · have V : gW D T A s [(o, .inr (8, [.int w0, .ref g1, .ref g2, .ref g3, .ref g4, .int (nI tp), .int (nI aq), .int (nI bq), .int (nI sz), .int w9, .int nq, .int (nI wr), .int wa, .int w13, .int w14, .ref g15, .int w16, .ref g17, .int w18, .int w19, .ref g20, .int w21, .ref g22, .ref g23, .ref g24, .int w25, .int w26, .int w27, .ref g28, .ref g29, .int w30, .ref g31, .ref g32, .ref g33])), (g3, .inl (T 0, 900, .inl ft))] H locs := V
                          show W p l e _ s m args below meth c H locs _ _ _ (F0 m 189 ls [.int z_39, .int ((nI 10) * nq), .ref o])
                          refine lv_iadd hx hb dX8_next_189 ?_
                          refine lv_bipush (v := (nI 48)) hx hb dX8_next_190 (by decide +kernel) ?_
                          refine lv_isub hx hb dX8_next_192 ?_
                          refine g_put hC V (ci := 8) uwX8 tyX8 tyX8_ok nmX8 0 rfl rfl 10 (by decide) w_922 rfl rfl rfl rfl (Nat.le_of_ble_eq_true rfl) (ws' := [(o, .inr (8, [.int w0, .ref g1, .ref g2, .ref g3, .ref g4, .int (nI tp), .int (nI aq), .int (nI bq), .int (nI sz), .int w9, .int ((((nI 10) * nq) + z_39) - (nI 48)), .int (nI wr), .int wa, .int w13, .int w14, .ref g15, .int w16, .ref g17, .int w18, .int w19, .ref g20, .int w21, .ref g22, .ref g23, .ref g24, .int w25, .int w26, .int w27, .ref g28, .ref g29, .int w30, .ref g31, .ref g32, .ref g33])), (g3, .inl (T 0, 900, .inl ft))]) rfl dX8_next_193 (fun H locs V => ?_)
                          refine lv_aload_n hx hb dX8_next_196 rfl (lv_at hl 0 rfl) ?_
                          refine lv_dup hx hb dX8_next_197 rfl ?_
                          refine g_get hC V (ci := 8) uwX8 0 rfl rfl 7 (by decide) w_919 rfl rfl dX8_next_198 ?_
                          refine lv_iconst (v := (nI 1)) hx hb dX8_next_201 (by decide +kernel) ?_
                          refine lv_iadd hx hb dX8_next_202 ?_
                          refine g_vi (y := (nI (bq + 1))) (nI_add _ _) ?_
                          refine g_put hC V (ci := 8) uwX8 tyX8 tyX8_ok nmX8 0 rfl rfl 7 (by decide) w_919 rfl rfl rfl rfl (Nat.le_of_ble_eq_true rfl) (ws' := [(o, .inr (8, [.int w0, .ref g1, .ref g2, .ref g3, .ref g4, .int (nI tp), .int (nI aq), .int (nI (bq + 1)), .int (nI sz), .int w9, .int ((((nI 10) * nq) + z_39) - (nI 48)), .int (nI wr), .int wa, .int w13, .int w14, .ref g15, .int w16, .ref g17, .int w18, .int w19, .ref g20, .int w21, .ref g22, .ref g23, .ref g24, .int w25, .int w26, .int w27, .ref g28, .ref g29, .int w30, .ref g31, .ref g32, .ref g33])), (g3, .inl (T 0, 900, .inl ft))]) rfl dX8_next_203 (fun H locs V => ?_)
                          refine lv_goto (tgt := 146) hx hb dX8_next_206 (by decide) ?_
                          exact ih_146 (bq + 1) ((((nI 10) * nq) + z_39) - (nI 48)) (by omega) ((rn_go (by omega) hgd).symm.trans hrb) (nu_go hnq f_41 (by omega) (by omega)) (by omega) _ _ _ V (lv_sub hl [0] rfl)
                    · have V : gW D T A s [(o, .inr (8, [.int w0, .ref g1, .ref g2, .ref g3, .ref g4, .int (nI tp), .int (nI aq), .int (nI bq), .int (nI sz), .int w9, .int nq, .int (nI wr), .int wa, .int w13, .int w14, .ref g15, .int w16, .ref g17, .int w18, .int w19, .ref g20, .int w21, .ref g22, .ref g23, .ref g24, .int w25, .int w26, .int w27, .ref g28, .ref g29, .int w30, .ref g31, .ref g32, .ref g33])), (g3, .inl (T 0, 900, .inl ft))] H locs := V _ [] rfl rfl rfl (by decide +kernel) rfl
                      show W p l e _ s m args below meth c H locs _ _ _ (F0 m 157 ls [.int (nI 0)])
                      have hgdn : ¬ dgB (ft bq) = true := f_31 ▸ f_36
                      refine lv_if_eq (tgt := 209) hx hb dX8_next_157 (by decide) (fun _ => ?_) (fun c => absurd (show (nI 0) = 0 by decide +kernel) c)
                      refine lv_aload_n hx hb dX8_next_209 rfl (lv_at hl 0 rfl) ?_
                      refine lv_aload_n hx hb dX8_next_210 rfl (lv_at hl 0 rfl) ?_
                      refine g_get hC V (ci := 8) uwX8 0 rfl rfl 7 (by decide) w_919 rfl rfl dX8_next_211 ?_
                      refine lv_aload_n hx hb dX8_next_214 rfl (lv_at hl 0 rfl) ?_
                      refine g_get hC V (ci := 8) uwX8 0 rfl rfl 6 (by decide) w_918 rfl rfl dX8_next_215 ?_
                      refine lv_isub hx hb dX8_next_218 ?_
                      refine g_vi (y := (nI (bq - aq))) (nI_sub (by omega)) ?_
                      refine lv_iconst (v := (nI 3)) hx hb dX8_next_219 (by decide +kernel) ?_
                      refine lv_icmp_le (tgt := 228) hx hb dX8_next_220 (by decide) (fun c_42 => ?_) (fun c_42 => ?_)
                      · skip
                        have c_42 := b_le (by omega) (by omega) c_42
                        refine lv_bipush (v := (nI 9)) hx hb dX8_next_228 (by decide +kernel) ?_
                        refine g_put hC V (ci := 8) uwX8 tyX8 tyX8_ok nmX8 0 rfl rfl 9 (by decide) w_921 rfl rfl rfl rfl (Nat.le_of_ble_eq_true rfl) (ws' := [(o, .inr (8, [.int w0, .ref g1, .ref g2, .ref g3, .ref g4, .int (nI tp), .int (nI aq), .int (nI bq), .int (nI sz), .int (nI 9), .int nq, .int (nI wr), .int wa, .int w13, .int w14, .ref g15, .int w16, .ref g17, .int w18, .int w19, .ref g20, .int w21, .ref g22, .ref g23, .ref g24, .int w25, .int w26, .int w27, .ref g28, .ref g29, .int w30, .ref g31, .ref g32, .ref g33])), (g3, .inl (T 0, 900, .inl ft))]) rfl dX8_next_230 (fun H locs V => ?_)
                        refine lv_goto (tgt := 270) hx hb dX8_next_233 (by decide) ?_
                        exact g_vret (Qr := (q_m_next_f T o w0 g1 g2 g3 g4 tp w6 be sz w9 nu wr wa w13 w14 g15 w16 g17 w18 w19 g20 w21 g22 g23 g24 w25 w26 w27 g28 g29 w30 g31 g32 g33 ft)) hC V ⟨(Nat.le_of_ble_eq_true rfl), (Nat.le_of_ble_eq_true rfl)⟩ ⟨(aq, bq, 9, nq, wr, wa), rfl, rfl, (nx_eq (p := (0, be, 0, nu, wr, wa)) (a := aq) haq2 (Eq.symm (Eq.trans (tkB_d (by omega) hsmn hdg) (Eq.symm (by first | exact rn_st hrb (rn_no hgdn) | exact rn_st hrb (rn_end (by omega)))))) (tkK_d9 (by omega) hsmn hdg (by omega)).symm (hnq.trans (tkN_d (by omega) hsmn hdg).symm) rfl rfl)⟩ dX8_next_270
                      · skip
                        have c_42 := b_nle (by omega) (by omega) c_42
                        refine lv_bipush (v := (nI 12)) hx hb dX8_next_223 (by decide +kernel) ?_
                        refine lv_goto (tgt := 230) hx hb dX8_next_225 (by decide) ?_
                        refine g_put hC V (ci := 8) uwX8 tyX8 tyX8_ok nmX8 0 rfl rfl 9 (by decide) w_921 rfl rfl rfl rfl (Nat.le_of_ble_eq_true rfl) (ws' := [(o, .inr (8, [.int w0, .ref g1, .ref g2, .ref g3, .ref g4, .int (nI tp), .int (nI aq), .int (nI bq), .int (nI sz), .int (nI 12), .int nq, .int (nI wr), .int wa, .int w13, .int w14, .ref g15, .int w16, .ref g17, .int w18, .int w19, .ref g20, .int w21, .ref g22, .ref g23, .ref g24, .int w25, .int w26, .int w27, .ref g28, .ref g29, .int w30, .ref g31, .ref g32, .ref g33])), (g3, .inl (T 0, 900, .inl ft))]) rfl dX8_next_230 (fun H locs V => ?_)
                        refine lv_goto (tgt := 270) hx hb dX8_next_233 (by decide) ?_
                        exact g_vret (Qr := (q_m_next_f T o w0 g1 g2 g3 g4 tp w6 be sz w9 nu wr wa w13 w14 g15 w16 g17 w18 w19 g20 w21 g22 g23 g24 w25 w26 w27 g28 g29 w30 g31 g32 g33 ft)) hC V ⟨(Nat.le_of_ble_eq_true rfl), (Nat.le_of_ble_eq_true rfl)⟩ ⟨(aq, bq, 12, nq, wr, wa), rfl, rfl, (nx_eq (p := (0, be, 0, nu, wr, wa)) (a := aq) haq2 (Eq.symm (Eq.trans (tkB_d (by omega) hsmn hdg) (Eq.symm (by first | exact rn_st hrb (rn_no hgdn) | exact rn_st hrb (rn_end (by omega)))))) (tkK_d12 (by omega) hsmn hdg (by omega)).symm (hnq.trans (tkN_d (by omega) hsmn hdg).symm) rfl rfl)⟩ dX8_next_270
              exact L_27 _ aq (nI 0) (by omega) rfl (by rw [Nat.sub_self]; rfl) (Nat.lt_succ_self _) _ _ _ V (lv_sub hl [0] rfl)
            · have V : gW D T A s [(o, .inr (8, [.int w0, .ref g1, .ref g2, .ref g3, .ref g4, .int (nI tp), .int (nI aq), .int (nI aq), .int (nI sz), .int w9, .int nu, .int (nI wr), .int wa, .int w13, .int w14, .ref g15, .int w16, .ref g17, .int w18, .int w19, .ref g20, .int w21, .ref g22, .ref g23, .ref g24, .int w25, .int w26, .int w27, .ref g28, .ref g29, .int w30, .ref g31, .ref g32, .ref g33])), (g3, .inl (T 0, 900, .inl ft))] H locs := V _ [] rfl rfl rfl (by decide +kernel) rfl
              show W p l e _ s m args below meth c H locs _ _ _ (F0 m 138 ls [.int (nI 0)])
              have hdgn : ¬ dgB (ft aq) = true := f_24 ▸ f_26
              refine lv_if_eq (tgt := 236) hx hb dX8_next_138 (by decide) (fun _ => ?_) (fun c => absurd (show (nI 0) = 0 by decide +kernel) c)
              refine lv_aload_n hx hb dX8_next_236 rfl (lv_at hl 0 rfl) ?_
              refine lv_dup hx hb dX8_next_237 rfl ?_
              refine g_get hC V (ci := 8) uwX8 0 rfl rfl 7 (by decide) w_919 rfl rfl dX8_next_238 ?_
              refine lv_iconst (v := (nI 1)) hx hb dX8_next_241 (by decide +kernel) ?_
              refine lv_iadd hx hb dX8_next_242 ?_
              refine g_vi (y := (nI (aq + 1))) (nI_add _ _) ?_
              refine g_put hC V (ci := 8) uwX8 tyX8 tyX8_ok nmX8 0 rfl rfl 7 (by decide) w_919 rfl rfl rfl rfl (Nat.le_of_ble_eq_true rfl) (ws' := [(o, .inr (8, [.int w0, .ref g1, .ref g2, .ref g3, .ref g4, .int (nI tp), .int (nI aq), .int (nI (aq + 1)), .int (nI sz), .int w9, .int nu, .int (nI wr), .int wa, .int w13, .int w14, .ref g15, .int w16, .ref g17, .int w18, .int w19, .ref g20, .int w21, .ref g22, .ref g23, .ref g24, .int w25, .int w26, .int w27, .ref g28, .ref g29, .int w30, .ref g31, .ref g32, .ref g33])), (g3, .inl (T 0, 900, .inl ft))]) rfl dX8_next_243 (fun H locs V => ?_)
              refine lv_aload_n hx hb dX8_next_246 rfl (lv_at hl 0 rfl) ?_
              refine lv_aload_n hx hb dX8_next_247 rfl (lv_at hl 0 rfl) ?_
              refine lv_aload_n hx hb dX8_next_248 rfl (lv_at hl 0 rfl) ?_
              refine g_get hC V (ci := 8) uwX8 0 rfl rfl 6 (by decide) w_918 rfl rfl dX8_next_249 ?_
              refine g_callV (wr := []) (nA := 1) hC V hl.1 (m_see l D T o aq w0 g1 g2 g3 g4 tp (nI aq) (nI (aq + 1)) sz w9 nu (nI wr) wa w13 w14 g15 w16 g17 w18 w19 g20 w21 g22 g23 g24 w25 w26 w27 g28 g29 w30 g31 g32 g33 ft (by first | assumption | omega) (by first | assumption | omega)) w_1030 w_1032 w_s37 w_9 w_1033 (by decide +kernel) rfl ⟨(Nat.le_of_ble_eq_true rfl), (Nat.le_of_ble_eq_true rfl)⟩ 0 (ci := 8) rfl rfl [0, 1] [] rfl rfl rfl rfl (by decide) (Nat.le_of_ble_eq_true rfl) dX8_next_252 ⟨(Nat.le_of_ble_eq_true rfl), (Nat.le_of_ble_eq_true rfl)⟩ rfl (fun r w1 H locs hQ V => ?_)
              rcases hQ with ⟨rfl, rfl, f_43⟩ | ⟨z_44, rfl, rfl, f_45, f_46⟩
              · have V : gW D T A s [(o, .inr (8, [.int w0, .ref g1, .ref g2, .ref g3, .ref g4, .int (nI tp), .int (nI aq), .int (nI (aq + 1)), .int (nI sz), .int w9, .int nu, .int (nI wr), .int wa, .int w13, .int w14, .ref g15, .int w16, .ref g17, .int w18, .int w19, .ref g20, .int w21, .ref g22, .ref g23, .ref g24, .int w25, .int w26, .int w27, .ref g28, .ref g29, .int w30, .ref g31, .ref g32, .ref g33])), (g3, .inl (T 0, 900, .inl ft))] H locs := V
                show W p l e _ s m args below meth c H locs _ _ _ (F0 m 255 ls [.int (-1), .ref o])
                exact (by omega : False).elim
              · have V : gW D T A s [(o, .inr (8, [.int w0, .ref g1, .ref g2, .ref g3, .ref g4, .int (nI tp), .int (nI aq), .int (nI (aq + 1)), .int (nI sz), .int w9, .int nu, .int (nI wr), .int wa, .int w13, .int w14, .ref g15, .int w16, .ref g17, .int w18, .int w19, .ref g20, .int w21, .ref g22, .ref g23, .ref g24, .int w25, .int w26, .int w27, .ref g28, .ref g29, .int w30, .ref g31, .ref g32, .ref g33])), (g3, .inl (T 0, 900, .inl ft))] H locs := V
                show W p l e _ s m args below meth c H locs _ _ _ (F0 m 255 ls [.int z_44, .ref o])
                refine lv_bipush (v := (nI 59)) hx hb dX8_next_255 (by decide +kernel) ?_
                refine lv_icmp_ne (tgt := 265) hx hb dX8_next_257 (by decide) (fun c_47 => ?_) (fun c_47 => ?_)
                · skip
                  refine lv_bipush (v := (nI 12)) hx hb dX8_next_265 (by decide +kernel) ?_
                  refine g_put hC V (ci := 8) uwX8 tyX8 tyX8_ok nmX8 0 rfl rfl 9 (by decide) w_921 rfl rfl rfl rfl (Nat.le_of_ble_eq_true rfl) (ws' := [(o, .inr (8, [.int w0, .ref g1, .ref g2, .ref g3, .ref g4, .int (nI tp), .int (nI aq), .int (nI (aq + 1)), .int (nI sz), .int (nI 12), .int nu, .int (nI wr), .int wa, .int w13, .int w14, .ref g15, .int w16, .ref g17, .int w18, .int w19, .ref g20, .int w21, .ref g22, .ref g23, .ref g24, .int w25, .int w26, .int w27, .ref g28, .ref g29, .int w30, .ref g31, .ref g32, .ref g33])), (g3, .inl (T 0, 900, .inl ft))]) rfl dX8_next_267 (fun H locs V => ?_)
                  exact g_vret (Qr := (q_m_next_f T o w0 g1 g2 g3 g4 tp w6 be sz w9 nu wr wa w13 w14 g15 w16 g17 w18 w19 g20 w21 g22 g23 g24 w25 w26 w27 g28 g29 w30 g31 g32 g33 ft)) hC V ⟨(Nat.le_of_ble_eq_true rfl), (Nat.le_of_ble_eq_true rfl)⟩ ⟨(aq, aq + 1, 12, nu, wr, wa), rfl, rfl, (nx_eq (p := (0, be, 0, nu, wr, wa)) (a := aq) haq2 (tkB_s (by omega) hsmn hdgn).symm (tkK_12 (by omega) hsmn hdgn (fun e => c_47 (f_46.trans e))).symm (tkN_s hdgn).symm rfl rfl)⟩ dX8_next_270
                · skip
                  refine lv_bipush (v := (nI 10)) hx hb dX8_next_260 (by decide +kernel) ?_
                  refine lv_goto (tgt := 267) hx hb dX8_next_262 (by decide) ?_
                  refine g_put hC V (ci := 8) uwX8 tyX8 tyX8_ok nmX8 0 rfl rfl 9 (by decide) w_921 rfl rfl rfl rfl (Nat.le_of_ble_eq_true rfl) (ws' := [(o, .inr (8, [.int w0, .ref g1, .ref g2, .ref g3, .ref g4, .int (nI tp), .int (nI aq), .int (nI (aq + 1)), .int (nI sz), .int (nI 10), .int nu, .int (nI wr), .int wa, .int w13, .int w14, .ref g15, .int w16, .ref g17, .int w18, .int w19, .ref g20, .int w21, .ref g22, .ref g23, .ref g24, .int w25, .int w26, .int w27, .ref g28, .ref g29, .int w30, .ref g31, .ref g32, .ref g33])), (g3, .inl (T 0, 900, .inl ft))]) rfl dX8_next_267 (fun H locs V => ?_)
                  exact g_vret (Qr := (q_m_next_f T o w0 g1 g2 g3 g4 tp w6 be sz w9 nu wr wa w13 w14 g15 w16 g17 w18 w19 g20 w21 g22 g23 g24 w25 w26 w27 g28 g29 w30 g31 g32 g33 ft)) hC V ⟨(Nat.le_of_ble_eq_true rfl), (Nat.le_of_ble_eq_true rfl)⟩ ⟨(aq, aq + 1, 10, nu, wr, wa), rfl, rfl, (nx_eq (p := (0, be, 0, nu, wr, wa)) (a := aq) haq2 (tkB_s (by omega) hsmn hdgn).symm (tkK_10 (by omega) hsmn hdgn (f_46.symm.trans c_47)).symm (tkN_s hdgn).symm rfl rfl)⟩ dX8_next_270
    · skip
      have c_1 := b_nlt (by omega) (by omega) c_1
      refine lv_aload_n hx hb dX8_next_66 rfl (lv_at hl 0 rfl) ?_
      refine lv_bipush (v := (nI 11)) hx hb dX8_next_67 (by decide +kernel) ?_
      refine g_put hC V (ci := 8) uwX8 tyX8 tyX8_ok nmX8 0 rfl rfl 9 (by decide) w_921 rfl rfl rfl rfl (Nat.le_of_ble_eq_true rfl) (ws' := [(o, .inr (8, [.int w0, .ref g1, .ref g2, .ref g3, .ref g4, .int (nI tp), .int (nI aq), .int (nI aq), .int (nI sz), .int (nI 11), .int nu, .int (nI wr), .int wa, .int w13, .int w14, .ref g15, .int w16, .ref g17, .int w18, .int w19, .ref g20, .int w21, .ref g22, .ref g23, .ref g24, .int w25, .int w26, .int w27, .ref g28, .ref g29, .int w30, .ref g31, .ref g32, .ref g33])), (g3, .inl (T 0, 900, .inl ft))]) rfl dX8_next_69 (fun H locs V => ?_)
      refine lv_goto (tgt := 270) hx hb dX8_next_72 (by decide) ?_
      exact g_vret (Qr := (q_m_next_f T o w0 g1 g2 g3 g4 tp w6 be sz w9 nu wr wa w13 w14 g15 w16 g17 w18 w19 g20 w21 g22 g23 g24 w25 w26 w27 g28 g29 w30 g31 g32 g33 ft)) hC V ⟨(Nat.le_of_ble_eq_true rfl), (Nat.le_of_ble_eq_true rfl)⟩ ⟨(aq, aq, 11, nu, wr, wa), rfl, rfl, (nx_eq (p := (0, be, 0, nu, wr, wa)) (a := aq) haq2 (tkB_e (by omega)).symm (tkK_e (by omega)).symm (tkN_e (by omega)).symm rfl rfl)⟩ dX8_next_270
  have L_48 : ∀ (fu : Nat) (aq : Nat), (be ≤ aq ∧ aq ≤ sz) → rn blkB ft sz aq = rn blkB ft sz be → sz - aq < fu → ∀ (H : Heap) (locs : List Loc) (ls : Array Slot), gW D T A s [(o, .inr (8, [.int w0, .ref g1, .ref g2, .ref g3, .ref g4, .int (nI tp), .int (nI aq), .int (nI be), .int (nI sz), .int w9, .int nu, .int (nI wr), .int wa, .int w13, .int w14, .ref g15, .int w16, .ref g17, .int w18, .int w19, .ref g20, .int w21, .ref g22, .ref g23, .ref g24, .int w25, .int w26, .int w27, .ref g28, .ref g29, .int w30, .ref g31, .ref g32, .ref g33])), (g3, .inl (T 0, 900, .inl ft))] H locs → lv_has ls 1 [(0, .ref o)] → W p l e (rmD 5 0 0) s m args below meth c H locs 0 0 (MQ below (gQ D A (q_m_next_f T o w0 g1 g2 g3 g4 tp w6 be sz w9 nu wr wa w13 w14 g15 w16 g17 w18 w19 g20 w21 g22 g23 g24 w25 w26 w27 g28 g29 w30 g31 g32 g33 ft)) args s 0 0 A) (F0 m 8 ls []) := by
    intro fu_8
    induction fu_8 with
    | zero => intro aq haq hrn hmu; exact absurd hmu (Nat.not_lt_zero _)
    | succ fu_8 ih_8 =>
      intro aq haq hrn hmu_8 H locs ls V hl
      refine lv_aload_n hx hb dX8_next_8 rfl (lv_at hl 0 rfl) ?_
      refine lv_aload_n hx hb dX8_next_9 rfl (lv_at hl 0 rfl) ?_
      refine g_get hC V (ci := 8) uwX8 0 rfl rfl 6 (by decide) w_918 rfl rfl dX8_next_10 ?_
      refine g_callV (wr := []) (nA := 1) hC V hl.1 (m_see l D T o aq w0 g1 g2 g3 g4 tp (nI aq) (nI be) sz w9 nu (nI wr) wa w13 w14 g15 w16 g17 w18 w19 g20 w21 g22 g23 g24 w25 w26 w27 g28 g29 w30 g31 g32 g33 ft (by first | assumption | omega) (by first | assumption | omega)) w_1030 w_1032 w_s37 w_9 w_1033 (by decide +kernel) rfl ⟨(Nat.le_of_ble_eq_true rfl), (Nat.le_of_ble_eq_true rfl)⟩ 0 (ci := 8) rfl rfl [0, 1] [] rfl rfl rfl rfl (by decide) (Nat.le_of_ble_eq_true rfl) dX8_next_13 ⟨(Nat.le_of_ble_eq_true rfl), (Nat.le_of_ble_eq_true rfl)⟩ rfl (fun r w1 H locs hQ V => ?_)
      rcases hQ with ⟨rfl, rfl, f_49⟩ | ⟨z_50, rfl, rfl, f_51, f_52⟩
      · have V : gW D T A s [(o, .inr (8, [.int w0, .ref g1, .ref g2, .ref g3, .ref g4, .int (nI tp), .int (nI aq), .int (nI be), .int (nI sz), .int w9, .int nu, .int (nI wr), .int wa, .int w13, .int w14, .ref g15, .int w16, .ref g17, .int w18, .int w19, .ref g20, .int w21, .ref g22, .ref g23, .ref g24, .int w25, .int w26, .int w27, .ref g28, .ref g29, .int w30, .ref g31, .ref g32, .ref g33])), (g3, .inl (T 0, 900, .inl ft))] H locs := V
        show W p l e _ s m args below meth c H locs _ _ _ (F0 m 16 ls [.int (-1)])
        refine lv_bipush (v := (nI 10)) hx hb dX8_next_16 (by decide +kernel) ?_
        refine lv_icmp_eq (tgt := 34) hx hb dX8_next_18 (by decide) (fun c => absurd (show (-1 : Int32) = (nI 10) from c) (by decide +kernel)) (fun _ => ?_)
        refine lv_aload_n hx hb dX8_next_21 rfl (lv_at hl 0 rfl) ?_
        refine lv_aload_n hx hb dX8_next_22 rfl (lv_at hl 0 rfl) ?_
        refine g_get hC V (ci := 8) uwX8 0 rfl rfl 6 (by decide) w_918 rfl rfl dX8_next_23 ?_
        refine g_callV (wr := []) (nA := 1) hC V hl.1 (m_see l D T o aq w0 g1 g2 g3 g4 tp (nI aq) (nI be) sz w9 nu (nI wr) wa w13 w14 g15 w16 g17 w18 w19 g20 w21 g22 g23 g24 w25 w26 w27 g28 g29 w30 g31 g32 g33 ft (by first | assumption | omega) (by first | assumption | omega)) w_1030 w_1032 w_s37 w_9 w_1033 (by decide +kernel) rfl ⟨(Nat.le_of_ble_eq_true rfl), (Nat.le_of_ble_eq_true rfl)⟩ 0 (ci := 8) rfl rfl [0, 1] [] rfl rfl rfl rfl (by decide) (Nat.le_of_ble_eq_true rfl) dX8_next_26 ⟨(Nat.le_of_ble_eq_true rfl), (Nat.le_of_ble_eq_true rfl)⟩ rfl (fun r w1 H locs hQ V => ?_)
        rcases hQ with ⟨rfl, rfl, f_53⟩ | ⟨z_54, rfl, rfl, f_55, f_56⟩
        · have V : gW D T A s [(o, .inr (8, [.int w0, .ref g1, .ref g2, .ref g3, .ref g4, .int (nI tp), .int (nI aq), .int (nI be), .int (nI sz), .int w9, .int nu, .int (nI wr), .int wa, .int w13, .int w14, .ref g15, .int w16, .ref g17, .int w18, .int w19, .ref g20, .int w21, .ref g22, .ref g23, .ref g24, .int w25, .int w26, .int w27, .ref g28, .ref g29, .int w30, .ref g31, .ref g32, .ref g33])), (g3, .inl (T 0, 900, .inl ft))] H locs := V
          show W p l e _ s m args below meth c H locs _ _ _ (F0 m 29 ls [.int (-1)])
          refine lv_bipush (v := (nI 32)) hx hb dX8_next_29 (by decide +kernel) ?_
          refine lv_icmp_ne (tgt := 47) hx hb dX8_next_31 (by decide) (fun _ => ?_) (fun c => absurd (show (-1 : Int32) = (nI 32) from c) (by decide +kernel))
          exact J_47 aq (by omega) (by first | exact rn_st hrn hst | exact rn_st hrn (rn_end (by omega))) _ _ _ V (lv_sub hl [0] rfl)
        · have V : gW D T A s [(o, .inr (8, [.int w0, .ref g1, .ref g2, .ref g3, .ref g4, .int (nI tp), .int (nI aq), .int (nI be), .int (nI sz), .int w9, .int nu, .int (nI wr), .int wa, .int w13, .int w14, .ref g15, .int w16, .ref g17, .int w18, .int w19, .ref g20, .int w21, .ref g22, .ref g23, .ref g24, .int w25, .int w26, .int w27, .ref g28, .ref g29, .int w30, .ref g31, .ref g32, .ref g33])), (g3, .inl (T 0, 900, .inl ft))] H locs := V
          show W p l e _ s m args below meth c H locs _ _ _ (F0 m 29 ls [.int z_54])
          refine lv_bipush (v := (nI 32)) hx hb dX8_next_29 (by decide +kernel) ?_
          refine lv_icmp_ne (tgt := 47) hx hb dX8_next_31 (by decide) (fun c_57 => ?_) (fun c_57 => ?_)
          · skip
            exact J_47 aq (by omega) (by first | exact rn_st hrn hst | exact rn_st hrn (rn_end (by omega))) _ _ _ V (lv_sub hl [0] rfl)
          · skip
            have hgo := blk_2 f_56 c_57
            refine lv_aload_n hx hb dX8_next_34 rfl (lv_at hl 0 rfl) ?_
            refine lv_dup hx hb dX8_next_35 rfl ?_
            refine g_get hC V (ci := 8) uwX8 0 rfl rfl 6 (by decide) w_918 rfl rfl dX8_next_36 ?_
            refine lv_iconst (v := (nI 1)) hx hb dX8_next_39 (by decide +kernel) ?_
            refine lv_iadd hx hb dX8_next_40 ?_
            refine g_vi (y := (nI (aq + 1))) (nI_add _ _) ?_
            refine g_put hC V (ci := 8) uwX8 tyX8 tyX8_ok nmX8 0 rfl rfl 6 (by decide) w_918 rfl rfl rfl rfl (Nat.le_of_ble_eq_true rfl) (ws' := [(o, .inr (8, [.int w0, .ref g1, .ref g2, .ref g3, .ref g4, .int (nI tp), .int (nI (aq + 1)), .int (nI be), .int (nI sz), .int w9, .int nu, .int (nI wr), .int wa, .int w13, .int w14, .ref g15, .int w16, .ref g17, .int w18, .int w19, .ref g20, .int w21, .ref g22, .ref g23, .ref g24, .int w25, .int w26, .int w27, .ref g28, .ref g29, .int w30, .ref g31, .ref g32, .ref g33])), (g3, .inl (T 0, 900, .inl ft))]) rfl dX8_next_41 (fun H locs V => ?_)
            refine lv_goto (tgt := 8) hx hb dX8_next_44 (by decide) ?_
            exact ih_8 (aq + 1) (by omega) ((rn_go (by omega) hgo).symm.trans hrn) (by omega) _ _ _ V (lv_sub hl [0] rfl)
      · have V : gW D T A s [(o, .inr (8, [.int w0, .ref g1, .ref g2, .ref g3, .ref g4, .int (nI tp), .int (nI aq), .int (nI be), .int (nI sz), .int w9, .int nu, .int (nI wr), .int wa, .int w13, .int w14, .ref g15, .int w16, .ref g17, .int w18, .int w19, .ref g20, .int w21, .ref g22, .ref g23, .ref g24, .int w25, .int w26, .int w27, .ref g28, .ref g29, .int w30, .ref g31, .ref g32, .ref g33])), (g3, .inl (T 0, 900, .inl ft))] H locs := V
        show W p l e _ s m args below meth c H locs _ _ _ (F0 m 16 ls [.int z_50])
        refine lv_bipush (v := (nI 10)) hx hb dX8_next_16 (by decide +kernel) ?_
        refine lv_icmp_eq (tgt := 34) hx hb dX8_next_18 (by decide) (fun c_58 => ?_) (fun c_58 => ?_)
        · skip
          have hgo := blk_1 f_52 c_58
          refine lv_aload_n hx hb dX8_next_34 rfl (lv_at hl 0 rfl) ?_
          refine lv_dup hx hb dX8_next_35 rfl ?_
          refine g_get hC V (ci := 8) uwX8 0 rfl rfl 6 (by decide) w_918 rfl rfl dX8_next_36 ?_
          refine lv_iconst (v := (nI 1)) hx hb dX8_next_39 (by decide +kernel) ?_
          refine lv_iadd hx hb dX8_next_40 ?_
          refine g_vi (y := (nI (aq + 1))) (nI_add _ _) ?_
          refine g_put hC V (ci := 8) uwX8 tyX8 tyX8_ok nmX8 0 rfl rfl 6 (by decide) w_918 rfl rfl rfl rfl (Nat.le_of_ble_eq_true rfl) (ws' := [(o, .inr (8, [.int w0, .ref g1, .ref g2, .ref g3, .ref g4, .int (nI tp), .int (nI (aq + 1)), .int (nI be), .int (nI sz), .int w9, .int nu, .int (nI wr), .int wa, .int w13, .int w14, .ref g15, .int w16, .ref g17, .int w18, .int w19, .ref g20, .int w21, .ref g22, .ref g23, .ref g24, .int w25, .int w26, .int w27, .ref g28, .ref g29, .int w30, .ref g31, .ref g32, .ref g33])), (g3, .inl (T 0, 900, .inl ft))]) rfl dX8_next_41 (fun H locs V => ?_)
          refine lv_goto (tgt := 8) hx hb dX8_next_44 (by decide) ?_
          exact ih_8 (aq + 1) (by omega) ((rn_go (by omega) hgo).symm.trans hrn) (by omega) _ _ _ V (lv_sub hl [0] rfl)
        · skip
          refine lv_aload_n hx hb dX8_next_21 rfl (lv_at hl 0 rfl) ?_
          refine lv_aload_n hx hb dX8_next_22 rfl (lv_at hl 0 rfl) ?_
          refine g_get hC V (ci := 8) uwX8 0 rfl rfl 6 (by decide) w_918 rfl rfl dX8_next_23 ?_
          refine g_callV (wr := []) (nA := 1) hC V hl.1 (m_see l D T o aq w0 g1 g2 g3 g4 tp (nI aq) (nI be) sz w9 nu (nI wr) wa w13 w14 g15 w16 g17 w18 w19 g20 w21 g22 g23 g24 w25 w26 w27 g28 g29 w30 g31 g32 g33 ft (by first | assumption | omega) (by first | assumption | omega)) w_1030 w_1032 w_s37 w_9 w_1033 (by decide +kernel) rfl ⟨(Nat.le_of_ble_eq_true rfl), (Nat.le_of_ble_eq_true rfl)⟩ 0 (ci := 8) rfl rfl [0, 1] [] rfl rfl rfl rfl (by decide) (Nat.le_of_ble_eq_true rfl) dX8_next_26 ⟨(Nat.le_of_ble_eq_true rfl), (Nat.le_of_ble_eq_true rfl)⟩ rfl (fun r w1 H locs hQ V => ?_)
          rcases hQ with ⟨rfl, rfl, f_59⟩ | ⟨z_60, rfl, rfl, f_61, f_62⟩
          · have V : gW D T A s [(o, .inr (8, [.int w0, .ref g1, .ref g2, .ref g3, .ref g4, .int (nI tp), .int (nI aq), .int (nI be), .int (nI sz), .int w9, .int nu, .int (nI wr), .int wa, .int w13, .int w14, .ref g15, .int w16, .ref g17, .int w18, .int w19, .ref g20, .int w21, .ref g22, .ref g23, .ref g24, .int w25, .int w26, .int w27, .ref g28, .ref g29, .int w30, .ref g31, .ref g32, .ref g33])), (g3, .inl (T 0, 900, .inl ft))] H locs := V
            show W p l e _ s m args below meth c H locs _ _ _ (F0 m 29 ls [.int (-1)])
            refine lv_bipush (v := (nI 32)) hx hb dX8_next_29 (by decide +kernel) ?_
            refine lv_icmp_ne (tgt := 47) hx hb dX8_next_31 (by decide) (fun _ => ?_) (fun c => absurd (show (-1 : Int32) = (nI 32) from c) (by decide +kernel))
            exact J_47 aq (by omega) (by first | exact rn_st hrn hst | exact rn_st hrn (rn_end (by omega))) _ _ _ V (lv_sub hl [0] rfl)
          · have V : gW D T A s [(o, .inr (8, [.int w0, .ref g1, .ref g2, .ref g3, .ref g4, .int (nI tp), .int (nI aq), .int (nI be), .int (nI sz), .int w9, .int nu, .int (nI wr), .int wa, .int w13, .int w14, .ref g15, .int w16, .ref g17, .int w18, .int w19, .ref g20, .int w21, .ref g22, .ref g23, .ref g24, .int w25, .int w26, .int w27, .ref g28, .ref g29, .int w30, .ref g31, .ref g32, .ref g33])), (g3, .inl (T 0, 900, .inl ft))] H locs := V
            show W p l e _ s m args below meth c H locs _ _ _ (F0 m 29 ls [.int z_60])
            refine lv_bipush (v := (nI 32)) hx hb dX8_next_29 (by decide +kernel) ?_
            refine lv_icmp_ne (tgt := 47) hx hb dX8_next_31 (by decide) (fun c_63 => ?_) (fun c_63 => ?_)
            · skip
              have hst := rn_no (sz := sz) (blk_no f_52 f_62 c_58 c_63)
              exact J_47 aq (by omega) (by first | exact rn_st hrn hst | exact rn_st hrn (rn_end (by omega))) _ _ _ V (lv_sub hl [0] rfl)
            · skip
              have hgo := blk_2 f_62 c_63
              refine lv_aload_n hx hb dX8_next_34 rfl (lv_at hl 0 rfl) ?_
              refine lv_dup hx hb dX8_next_35 rfl ?_
              refine g_get hC V (ci := 8) uwX8 0 rfl rfl 6 (by decide) w_918 rfl rfl dX8_next_36 ?_
              refine lv_iconst (v := (nI 1)) hx hb dX8_next_39 (by decide +kernel) ?_
              refine lv_iadd hx hb dX8_next_40 ?_
              refine g_vi (y := (nI (aq + 1))) (nI_add _ _) ?_
              refine g_put hC V (ci := 8) uwX8 tyX8 tyX8_ok nmX8 0 rfl rfl 6 (by decide) w_918 rfl rfl rfl rfl (Nat.le_of_ble_eq_true rfl) (ws' := [(o, .inr (8, [.int w0, .ref g1, .ref g2, .ref g3, .ref g4, .int (nI tp), .int (nI (aq + 1)), .int (nI be), .int (nI sz), .int w9, .int nu, .int (nI wr), .int wa, .int w13, .int w14, .ref g15, .int w16, .ref g17, .int w18, .int w19, .ref g20, .int w21, .ref g22, .ref g23, .ref g24, .int w25, .int w26, .int w27, .ref g28, .ref g29, .int w30, .ref g31, .ref g32, .ref g33])), (g3, .inl (T 0, 900, .inl ft))]) rfl dX8_next_41 (fun H locs V => ?_)
              refine lv_goto (tgt := 8) hx hb dX8_next_44 (by decide) ?_
              exact ih_8 (aq + 1) (by omega) ((rn_go (by omega) hgo).symm.trans hrn) (by omega) _ _ _ V (lv_sub hl [0] rfl)
  exact L_48 _ be (by omega) rfl (Nat.lt_succ_self _) _ _ _ V (lv_sub hl [0] rfl)

def q_m_fails_f (T : Nat → ClassId) (ps : PS) (sz : Nat) (o : Nat) (f : Nat) (w0 : Int32) (g1 : Nat) (g2 : Nat) (g3 : Nat) (g4 : Nat) (tp : Nat) (w13 : Int32) (w14 : Int32) (g15 : Nat) (w16 : Int32) (g17 : Nat) (w18 : Int32) (w19 : Int32) (g20 : Nat) (w21 : Int32) (g22 : Nat) (g23 : Nat) (g24 : Nat) (w25 : Int32) (w26 : Int32) (w27 : Int32) (g28 : Nat) (g29 : Nat) (w30 : Int32) (g31 : Nat) (g32 : Nat) (g33 : Nat) : Option Value → va_W → Prop := fun rr ww => (∃ (p2 : PS), rr = none ∧ ww = [(o, .inr (8, [.int w0, .ref g1, .ref g2, .ref g3, .ref g4, .int (nI tp), .int (nI p2.1), .int (nI p2.2.1), .int (nI sz), .int (nI p2.2.2.1), .int p2.2.2.2.1, .int (nI p2.2.2.2.2.1), .int p2.2.2.2.2.2, .int w13, .int w14, .ref g15, .int w16, .ref g17, .int w18, .int w19, .ref g20, .int w21, .ref g22, .ref g23, .ref g24, .int w25, .int w26, .int w27, .ref g28, .ref g29, .int w30, .ref g31, .ref g32, .ref g33]))] ∧ p2 = faS f ps)
set_option maxHeartbeats 4000000 in
set_option maxRecDepth 100000 in
theorem m_fails_f (l : Launch) (D : va_G) (T : Nat → ClassId) (ps : PS) (sz : Nat) (o : Nat) (f : Nat) (w0 : Int32) (g1 : Nat) (g2 : Nat) (g3 : Nat) (g4 : Nat) (tp : Nat) (w13 : Int32) (w14 : Int32) (g15 : Nat) (w16 : Int32) (g17 : Nat) (w18 : Int32) (w19 : Int32) (g20 : Nat) (w21 : Int32) (g22 : Nat) (g23 : Nat) (g24 : Nat) (w25 : Int32) (w26 : Int32) (w27 : Int32) (g28 : Nat) (g29 : Nat) (w30 : Int32) (g31 : Nat) (g32 : Nat) (g33 : Nat) (h_k : ps.2.2.1 ≤ 12) (h_w : ps.2.2.2.2.1 ≤ 4) : Ct l yX8_fails cX8_fails 2 none 0 0 0 D T [.ref o, .int (nI f)] [(o, .inr (8, [.int w0, .ref g1, .ref g2, .ref g3, .ref g4, .int (nI tp), .int (nI ps.1), .int (nI ps.2.1), .int (nI sz), .int (nI ps.2.2.1), .int ps.2.2.2.1, .int (nI ps.2.2.2.2.1), .int ps.2.2.2.2.2, .int w13, .int w14, .ref g15, .int w16, .ref g17, .int w18, .int w19, .ref g20, .int w21, .ref g22, .ref g23, .ref g24, .int w25, .int w26, .int w27, .ref g28, .ref g29, .int w30, .ref g31, .ref g32, .ref g33]))] (q_m_fails_f T ps sz o f w0 g1 g2 g3 g4 tp w13 w14 g15 w16 g17 w18 w19 g20 w21 g22 g23 g24 w25 w26 w27 g28 g29 w30 g31 g32 g33) := by
  refine Ct.of (cc := cX8_fails) (maxL := 2) (ret := none) (by decide) (Nat.le_of_ble_eq_true rfl) ?_
  intro p e s m args below meth c A ls hC hnm V hl
  obtain ⟨hx, hb, hr, hml, hown, hts, hlocks⟩ := id hC
  generalize hH : s.heap = H at V ⊢
  clear hH
  have hl : lv_has ls 2 [(0, .ref o), (1, .int (nI f))] := hl
  generalize hlo : ([] : List Loc) = locs at V ⊢
  clear hlo
  refine lv_aload_n hx hb dX8_fails_0 rfl (lv_at hl 0 rfl) ?_
  refine g_get hC V (ci := 8) uwX8 0 rfl rfl 11 (by decide) w_923 rfl rfl dX8_fails_1 ?_
  refine lv_if_eq (tgt := 8) hx hb dX8_fails_4 (by decide) (fun c_1 => ?_) (fun c_1 => ?_)
  · skip
    rw [show (0 : Int32) = nI 0 from rfl] at c_1
    have c_1 := b_eq (by omega) (by omega) c_1
    refine lv_aload_n hx hb dX8_fails_8 rfl (lv_at hl 0 rfl) ?_
    refine lv_aload_n hx hb dX8_fails_9 rfl (lv_at hl 0 rfl) ?_
    refine g_get hC V (ci := 8) uwX8 0 rfl rfl 9 (by decide) w_921 rfl rfl dX8_fails_10 ?_
    refine lv_bipush (v := (nI 12)) hx hb dX8_fails_13 (by decide +kernel) ?_
    refine lv_icmp_ne (tgt := 22) hx hb dX8_fails_15 (by decide) (fun c_2 => ?_) (fun c_2 => ?_)
    · skip
      have c_2 := b_ne (by omega) (by omega) c_2
      refine lv_iload_n hx hb dX8_fails_22 rfl (lv_at hl 1 rfl) ?_
      refine g_put hC V (ci := 8) uwX8 tyX8 tyX8_ok nmX8 0 rfl rfl 11 (by decide) w_923 rfl rfl rfl rfl (Nat.le_of_ble_eq_true rfl) (ws' := [(o, .inr (8, [.int w0, .ref g1, .ref g2, .ref g3, .ref g4, .int (nI tp), .int (nI ps.1), .int (nI ps.2.1), .int (nI sz), .int (nI ps.2.2.1), .int ps.2.2.2.1, .int (nI f), .int ps.2.2.2.2.2, .int w13, .int w14, .ref g15, .int w16, .ref g17, .int w18, .int w19, .ref g20, .int w21, .ref g22, .ref g23, .ref g24, .int w25, .int w26, .int w27, .ref g28, .ref g29, .int w30, .ref g31, .ref g32, .ref g33]))]) rfl dX8_fails_23 (fun H locs V => ?_)
      refine lv_aload_n hx hb dX8_fails_26 rfl (lv_at hl 0 rfl) ?_
      refine lv_aload_n hx hb dX8_fails_27 rfl (lv_at hl 0 rfl) ?_
      refine g_get hC V (ci := 8) uwX8 0 rfl rfl 6 (by decide) w_918 rfl rfl dX8_fails_28 ?_
      refine g_put hC V (ci := 8) uwX8 tyX8 tyX8_ok nmX8 0 rfl rfl 12 (by decide) w_924 rfl rfl rfl rfl (Nat.le_of_ble_eq_true rfl) (ws' := [(o, .inr (8, [.int w0, .ref g1, .ref g2, .ref g3, .ref g4, .int (nI tp), .int (nI ps.1), .int (nI ps.2.1), .int (nI sz), .int (nI ps.2.2.1), .int ps.2.2.2.1, .int (nI f), .int (nI ps.1), .int w13, .int w14, .ref g15, .int w16, .ref g17, .int w18, .int w19, .ref g20, .int w21, .ref g22, .ref g23, .ref g24, .int w25, .int w26, .int w27, .ref g28, .ref g29, .int w30, .ref g31, .ref g32, .ref g33]))]) rfl dX8_fails_31 (fun H locs V => ?_)
      exact g_vret (Qr := (q_m_fails_f T ps sz o f w0 g1 g2 g3 g4 tp w13 w14 g15 w16 g17 w18 w19 g20 w21 g22 g23 g24 w25 w26 w27 g28 g29 w30 g31 g32 g33)) hC V ⟨(Nat.le_of_ble_eq_true rfl), (Nat.le_of_ble_eq_true rfl)⟩ ⟨(ps.1, ps.2.1, ps.2.2.1, ps.2.2.2.1, f, nI ps.1), rfl, rfl, (fa_0 (by omega) (by omega)).symm⟩ dX8_fails_34
    · skip
      have c_2 := b_eq (by omega) (by omega) c_2
      refine lv_iconst (v := (nI 1)) hx hb dX8_fails_18 (by decide +kernel) ?_
      refine lv_goto (tgt := 23) hx hb dX8_fails_19 (by decide) ?_
      refine g_put hC V (ci := 8) uwX8 tyX8 tyX8_ok nmX8 0 rfl rfl 11 (by decide) w_923 rfl rfl rfl rfl (Nat.le_of_ble_eq_true rfl) (ws' := [(o, .inr (8, [.int w0, .ref g1, .ref g2, .ref g3, .ref g4, .int (nI tp), .int (nI ps.1), .int (nI ps.2.1), .int (nI sz), .int (nI ps.2.2.1), .int ps.2.2.2.1, .int (nI 1), .int ps.2.2.2.2.2, .int w13, .int w14, .ref g15, .int w16, .ref g17, .int w18, .int w19, .ref g20, .int w21, .ref g22, .ref g23, .ref g24, .int w25, .int w26, .int w27, .ref g28, .ref g29, .int w30, .ref g31, .ref g32, .ref g33]))]) rfl dX8_fails_23 (fun H locs V => ?_)
      refine lv_aload_n hx hb dX8_fails_26 rfl (lv_at hl 0 rfl) ?_
      refine lv_aload_n hx hb dX8_fails_27 rfl (lv_at hl 0 rfl) ?_
      refine g_get hC V (ci := 8) uwX8 0 rfl rfl 6 (by decide) w_918 rfl rfl dX8_fails_28 ?_
      refine g_put hC V (ci := 8) uwX8 tyX8 tyX8_ok nmX8 0 rfl rfl 12 (by decide) w_924 rfl rfl rfl rfl (Nat.le_of_ble_eq_true rfl) (ws' := [(o, .inr (8, [.int w0, .ref g1, .ref g2, .ref g3, .ref g4, .int (nI tp), .int (nI ps.1), .int (nI ps.2.1), .int (nI sz), .int (nI ps.2.2.1), .int ps.2.2.2.1, .int (nI 1), .int (nI ps.1), .int w13, .int w14, .ref g15, .int w16, .ref g17, .int w18, .int w19, .ref g20, .int w21, .ref g22, .ref g23, .ref g24, .int w25, .int w26, .int w27, .ref g28, .ref g29, .int w30, .ref g31, .ref g32, .ref g33]))]) rfl dX8_fails_31 (fun H locs V => ?_)
      exact g_vret (Qr := (q_m_fails_f T ps sz o f w0 g1 g2 g3 g4 tp w13 w14 g15 w16 g17 w18 w19 g20 w21 g22 g23 g24 w25 w26 w27 g28 g29 w30 g31 g32 g33)) hC V ⟨(Nat.le_of_ble_eq_true rfl), (Nat.le_of_ble_eq_true rfl)⟩ ⟨(ps.1, ps.2.1, ps.2.2.1, ps.2.2.2.1, 1, nI ps.1), rfl, rfl, (fa_12 (by omega) (by omega)).symm⟩ dX8_fails_34
  · skip
    rw [show (0 : Int32) = nI 0 from rfl] at c_1
    have c_1 := b_ne (by omega) (by omega) c_1
    exact g_vret (Qr := (q_m_fails_f T ps sz o f w0 g1 g2 g3 g4 tp w13 w14 g15 w16 g17 w18 w19 g20 w21 g22 g23 g24 w25 w26 w27 g28 g29 w30 g31 g32 g33)) hC V ⟨(Nat.le_of_ble_eq_true rfl), (Nat.le_of_ble_eq_true rfl)⟩ ⟨ps, rfl, rfl, (fa_n0 (by omega)).symm⟩ dX8_fails_7

def q_m_is_f (T : Nat → ClassId) (ps : PS) (sz : Nat) (o : Nat) (k : Nat) (w0 : Int32) (g1 : Nat) (g2 : Nat) (g3 : Nat) (g4 : Nat) (tp : Nat) (w13 : Int32) (w14 : Int32) (g15 : Nat) (w16 : Int32) (g17 : Nat) (w18 : Int32) (w19 : Int32) (g20 : Nat) (w21 : Int32) (g22 : Nat) (g23 : Nat) (g24 : Nat) (w25 : Int32) (w26 : Int32) (w27 : Int32) (g28 : Nat) (g29 : Nat) (w30 : Int32) (g31 : Nat) (g32 : Nat) (g33 : Nat) : Option Value → va_W → Prop := fun rr ww => (rr = some (.int (nI 1)) ∧ ww = [(o, .inr (8, [.int w0, .ref g1, .ref g2, .ref g3, .ref g4, .int (nI tp), .int (nI ps.1), .int (nI ps.2.1), .int (nI sz), .int (nI ps.2.2.1), .int ps.2.2.2.1, .int (nI ps.2.2.2.2.1), .int ps.2.2.2.2.2, .int w13, .int w14, .ref g15, .int w16, .ref g17, .int w18, .int w19, .ref g20, .int w21, .ref g22, .ref g23, .ref g24, .int w25, .int w26, .int w27, .ref g28, .ref g29, .int w30, .ref g31, .ref g32, .ref g33]))] ∧ ps.2.2.2.2.1 = 0 ∧ ps.2.2.1 = k) ∨ (rr = some (.int (nI 0)) ∧ ww = [(o, .inr (8, [.int w0, .ref g1, .ref g2, .ref g3, .ref g4, .int (nI tp), .int (nI ps.1), .int (nI ps.2.1), .int (nI sz), .int (nI ps.2.2.1), .int ps.2.2.2.1, .int (nI ps.2.2.2.2.1), .int ps.2.2.2.2.2, .int w13, .int w14, .ref g15, .int w16, .ref g17, .int w18, .int w19, .ref g20, .int w21, .ref g22, .ref g23, .ref g24, .int w25, .int w26, .int w27, .ref g28, .ref g29, .int w30, .ref g31, .ref g32, .ref g33]))] ∧ (¬ (ps.2.2.2.2.1 = 0 ∧ ps.2.2.1 = k)))
set_option maxHeartbeats 4000000 in
set_option maxRecDepth 100000 in
theorem m_is_f (l : Launch) (D : va_G) (T : Nat → ClassId) (ps : PS) (sz : Nat) (o : Nat) (k : Nat) (w0 : Int32) (g1 : Nat) (g2 : Nat) (g3 : Nat) (g4 : Nat) (tp : Nat) (w13 : Int32) (w14 : Int32) (g15 : Nat) (w16 : Int32) (g17 : Nat) (w18 : Int32) (w19 : Int32) (g20 : Nat) (w21 : Int32) (g22 : Nat) (g23 : Nat) (g24 : Nat) (w25 : Int32) (w26 : Int32) (w27 : Int32) (g28 : Nat) (g29 : Nat) (w30 : Int32) (g31 : Nat) (g32 : Nat) (g33 : Nat) (h_k : ps.2.2.1 ≤ 12) (h_w : ps.2.2.2.2.1 ≤ 4) (h_k12 : k ≤ 12) : Ct l yX8_is cX8_is 2 (some .boolean) 0 0 0 D T [.ref o, .int (nI k)] [(o, .inr (8, [.int w0, .ref g1, .ref g2, .ref g3, .ref g4, .int (nI tp), .int (nI ps.1), .int (nI ps.2.1), .int (nI sz), .int (nI ps.2.2.1), .int ps.2.2.2.1, .int (nI ps.2.2.2.2.1), .int ps.2.2.2.2.2, .int w13, .int w14, .ref g15, .int w16, .ref g17, .int w18, .int w19, .ref g20, .int w21, .ref g22, .ref g23, .ref g24, .int w25, .int w26, .int w27, .ref g28, .ref g29, .int w30, .ref g31, .ref g32, .ref g33]))] (q_m_is_f T ps sz o k w0 g1 g2 g3 g4 tp w13 w14 g15 w16 g17 w18 w19 g20 w21 g22 g23 g24 w25 w26 w27 g28 g29 w30 g31 g32 g33) := by
  refine Ct.of (cc := cX8_is) (maxL := 2) (ret := (some .boolean)) (by decide) (Nat.le_of_ble_eq_true rfl) ?_
  intro p e s m args below meth c A ls hC hnm V hl
  obtain ⟨hx, hb, hr, hml, hown, hts, hlocks⟩ := id hC
  generalize hH : s.heap = H at V ⊢
  clear hH
  have hl : lv_has ls 2 [(0, .ref o), (1, .int (nI k))] := hl
  generalize hlo : ([] : List Loc) = locs at V ⊢
  clear hlo
  refine lv_aload_n hx hb dX8_is_0 rfl (lv_at hl 0 rfl) ?_
  refine g_get hC V (ci := 8) uwX8 0 rfl rfl 11 (by decide) w_923 rfl rfl dX8_is_1 ?_
  refine lv_if_ne (tgt := 19) hx hb dX8_is_4 (by decide) (fun c_1 => ?_) (fun c_1 => ?_)
  · skip
    rw [show (0 : Int32) = nI 0 from rfl] at c_1
    have c_1 := b_ne (by omega) (by omega) c_1
    refine lv_iconst (v := (nI 0)) hx hb dX8_is_19 (by decide +kernel) ?_
    exact g_zret (Qr := (q_m_is_f T ps sz o k w0 g1 g2 g3 g4 tp w13 w14 g15 w16 g17 w18 w19 g20 w21 g22 g23 g24 w25 w26 w27 g28 g29 w30 g31 g32 g33)) hC V ⟨(Nat.le_of_ble_eq_true rfl), (Nat.le_of_ble_eq_true rfl)⟩ (by first | decide +kernel | exact rfl) (.inr ⟨rfl, rfl, (by omega)⟩) dX8_is_20
  · skip
    rw [show (0 : Int32) = nI 0 from rfl] at c_1
    have c_1 := b_eq (by omega) (by omega) c_1
    refine lv_aload_n hx hb dX8_is_7 rfl (lv_at hl 0 rfl) ?_
    refine g_get hC V (ci := 8) uwX8 0 rfl rfl 9 (by decide) w_921 rfl rfl dX8_is_8 ?_
    refine lv_iload_n hx hb dX8_is_11 rfl (lv_at hl 1 rfl) ?_
    refine lv_icmp_ne (tgt := 19) hx hb dX8_is_12 (by decide) (fun c_2 => ?_) (fun c_2 => ?_)
    · skip
      have c_2 := b_ne (by omega) (by omega) c_2
      refine lv_iconst (v := (nI 0)) hx hb dX8_is_19 (by decide +kernel) ?_
      exact g_zret (Qr := (q_m_is_f T ps sz o k w0 g1 g2 g3 g4 tp w13 w14 g15 w16 g17 w18 w19 g20 w21 g22 g23 g24 w25 w26 w27 g28 g29 w30 g31 g32 g33)) hC V ⟨(Nat.le_of_ble_eq_true rfl), (Nat.le_of_ble_eq_true rfl)⟩ (by first | decide +kernel | exact rfl) (.inr ⟨rfl, rfl, (by omega)⟩) dX8_is_20
    · skip
      have c_2 := b_eq (by omega) (by omega) c_2
      refine lv_iconst (v := (nI 1)) hx hb dX8_is_15 (by decide +kernel) ?_
      refine lv_goto (tgt := 20) hx hb dX8_is_16 (by decide) ?_
      exact g_zret (Qr := (q_m_is_f T ps sz o k w0 g1 g2 g3 g4 tp w13 w14 g15 w16 g17 w18 w19 g20 w21 g22 g23 g24 w25 w26 w27 g28 g29 w30 g31 g32 g33)) hC V ⟨(Nat.le_of_ble_eq_true rfl), (Nat.le_of_ble_eq_true rfl)⟩ (by first | decide +kernel | exact rfl) (.inl ⟨rfl, rfl, (by omega), (by omega)⟩) dX8_is_20

def q_m_eats_f (T : Nat → ClassId) (ps : PS) (o : Nat) (k : Nat) (w0 : Int32) (g1 : Nat) (g2 : Nat) (g3 : Nat) (g4 : Nat) (tp : Nat) (sz : Nat) (w13 : Int32) (w14 : Int32) (g15 : Nat) (w16 : Int32) (g17 : Nat) (w18 : Int32) (w19 : Int32) (g20 : Nat) (w21 : Int32) (g22 : Nat) (g23 : Nat) (g24 : Nat) (w25 : Int32) (w26 : Int32) (w27 : Int32) (g28 : Nat) (g29 : Nat) (w30 : Int32) (g31 : Nat) (g32 : Nat) (g33 : Nat) (ft : Nat → Int32) : Option Value → va_W → Prop := fun rr ww => (∃ (p2 : PS), rr = some (.int (nI 1)) ∧ ww = [(o, .inr (8, [.int w0, .ref g1, .ref g2, .ref g3, .ref g4, .int (nI tp), .int (nI p2.1), .int (nI p2.2.1), .int (nI sz), .int (nI p2.2.2.1), .int p2.2.2.2.1, .int (nI p2.2.2.2.2.1), .int p2.2.2.2.2.2, .int w13, .int w14, .ref g15, .int w16, .ref g17, .int w18, .int w19, .ref g20, .int w21, .ref g22, .ref g23, .ref g24, .int w25, .int w26, .int w27, .ref g28, .ref g29, .int w30, .ref g31, .ref g32, .ref g33])), (g3, .inl (T 0, 900, .inl ft))] ∧ p2 = nxS ft sz ps ∧ ps.2.2.2.2.1 = 0 ∧ ps.2.2.1 = k) ∨ (rr = some (.int (nI 0)) ∧ ww = [(o, .inr (8, [.int w0, .ref g1, .ref g2, .ref g3, .ref g4, .int (nI tp), .int (nI ps.1), .int (nI ps.2.1), .int (nI sz), .int (nI ps.2.2.1), .int ps.2.2.2.1, .int (nI ps.2.2.2.2.1), .int ps.2.2.2.2.2, .int w13, .int w14, .ref g15, .int w16, .ref g17, .int w18, .int w19, .ref g20, .int w21, .ref g22, .ref g23, .ref g24, .int w25, .int w26, .int w27, .ref g28, .ref g29, .int w30, .ref g31, .ref g32, .ref g33])), (g3, .inl (T 0, 900, .inl ft))] ∧ (¬ (ps.2.2.2.2.1 = 0 ∧ ps.2.2.1 = k)))
set_option maxHeartbeats 4000000 in
set_option maxRecDepth 100000 in
theorem m_eats_f (l : Launch) (D : va_G) (T : Nat → ClassId) (ps : PS) (o : Nat) (k : Nat) (w0 : Int32) (g1 : Nat) (g2 : Nat) (g3 : Nat) (g4 : Nat) (tp : Nat) (sz : Nat) (w13 : Int32) (w14 : Int32) (g15 : Nat) (w16 : Int32) (g17 : Nat) (w18 : Int32) (w19 : Int32) (g20 : Nat) (w21 : Int32) (g22 : Nat) (g23 : Nat) (g24 : Nat) (w25 : Int32) (w26 : Int32) (w27 : Int32) (g28 : Nat) (g29 : Nat) (w30 : Int32) (g31 : Nat) (g32 : Nat) (g33 : Nat) (ft : Nat → Int32) (h_sz : sz ≤ 900) (h_p : PI ft sz ps) (h_k12 : k ≤ 12) : Ct l yX8_eats cX8_eats 2 (some .boolean) 6 0 0 D T [.ref o, .int (nI k)] [(o, .inr (8, [.int w0, .ref g1, .ref g2, .ref g3, .ref g4, .int (nI tp), .int (nI ps.1), .int (nI ps.2.1), .int (nI sz), .int (nI ps.2.2.1), .int ps.2.2.2.1, .int (nI ps.2.2.2.2.1), .int ps.2.2.2.2.2, .int w13, .int w14, .ref g15, .int w16, .ref g17, .int w18, .int w19, .ref g20, .int w21, .ref g22, .ref g23, .ref g24, .int w25, .int w26, .int w27, .ref g28, .ref g29, .int w30, .ref g31, .ref g32, .ref g33])), (g3, .inl (T 0, 900, .inl ft))] (q_m_eats_f T ps o k w0 g1 g2 g3 g4 tp sz w13 w14 g15 w16 g17 w18 w19 g20 w21 g22 g23 g24 w25 w26 w27 g28 g29 w30 g31 g32 g33 ft) := by
  refine Ct.of (cc := cX8_eats) (maxL := 2) (ret := (some .boolean)) (by decide) (Nat.le_of_ble_eq_true rfl) ?_
  intro p e s m args below meth c A ls hC hnm V hl
  obtain ⟨hx, hb, hr, hml, hown, hts, hlocks⟩ := id hC
  generalize hH : s.heap = H at V ⊢
  clear hH
  have hl : lv_has ls 2 [(0, .ref o), (1, .int (nI k))] := hl
  generalize hlo : ([] : List Loc) = locs at V ⊢
  clear hlo
  obtain ⟨_, _, _, _, -⟩ := id h_p
  refine lv_aload_n hx hb dX8_eats_0 rfl (lv_at hl 0 rfl) ?_
  refine lv_iload_n hx hb dX8_eats_1 rfl (lv_at hl 1 rfl) ?_
  refine g_callVU (nA := 1) hC V hl.1 (m_is_f l D T ps sz o k w0 g1 g2 g3 g4 tp w13 w14 g15 w16 g17 w18 w19 g20 w21 g22 g23 g24 w25 w26 w27 g28 g29 w30 g31 g32 g33 (by first | assumption | omega) (by first | assumption | omega) (by first | assumption | omega)) w_1047 w_1049 w_s39 w_9 w_1050 (by decide +kernel) rfl ⟨(Nat.le_of_ble_eq_true rfl), (Nat.le_of_ble_eq_true rfl)⟩ 0 (ci := 8) rfl rfl [0] rfl rfl (Nat.le_of_ble_eq_true rfl) dX8_eats_2 ⟨(Nat.le_of_ble_eq_true rfl), (Nat.le_of_ble_eq_true rfl)⟩ rfl (fun r w1 H locs hQ V => ?_)
  rcases hQ with ⟨rfl, rfl, f_1, f_2⟩ | ⟨rfl, rfl, f_3⟩
  · have V : gW D T A s [(o, .inr (8, [.int w0, .ref g1, .ref g2, .ref g3, .ref g4, .int (nI tp), .int (nI ps.1), .int (nI ps.2.1), .int (nI sz), .int (nI ps.2.2.1), .int ps.2.2.2.1, .int (nI ps.2.2.2.2.1), .int ps.2.2.2.2.2, .int w13, .int w14, .ref g15, .int w16, .ref g17, .int w18, .int w19, .ref g20, .int w21, .ref g22, .ref g23, .ref g24, .int w25, .int w26, .int w27, .ref g28, .ref g29, .int w30, .ref g31, .ref g32, .ref g33])), (g3, .inl (T 0, 900, .inl ft))] H locs := V _ [0] rfl rfl rfl (by decide +kernel) rfl
    show W p l e _ s m args below meth c H locs _ _ _ (F0 m 5 ls [.int (nI 1)])
    refine lv_if_ne (tgt := 10) hx hb dX8_eats_5 (by decide) (fun _ => ?_) (fun c => absurd (show (nI 1) = 0 from c) (by decide +kernel))
    refine lv_aload_n hx hb dX8_eats_10 rfl (lv_at hl 0 rfl) ?_
    refine g_callV (wr := []) (nA := 0) hC V hl.1 (m_next_f l D T o w0 g1 g2 g3 g4 tp (nI ps.1) ps.2.1 sz (nI ps.2.2.1) ps.2.2.2.1 ps.2.2.2.2.1 ps.2.2.2.2.2 w13 w14 g15 w16 g17 w18 w19 g20 w21 g22 g23 g24 w25 w26 w27 g28 g29 w30 g31 g32 g33 ft (by first | assumption | omega) (by first | assumption | omega) (by first | assumption | omega)) w_1026 w_1028 w_s36 w_9 w_1029 (by decide +kernel) rfl ⟨(Nat.le_of_ble_eq_true rfl), (Nat.le_of_ble_eq_true rfl)⟩ 0 (ci := 8) rfl rfl [0, 1] [] rfl rfl rfl rfl (by decide) (Nat.le_of_ble_eq_true rfl) dX8_eats_11 ⟨(Nat.le_of_ble_eq_true rfl), (Nat.le_of_ble_eq_true rfl)⟩ rfl (fun r w1 H locs hQ V => ?_)
    obtain ⟨p2_4, rfl, rfl, f_5⟩ := hQ
    have V : gW D T A s [(o, .inr (8, [.int w0, .ref g1, .ref g2, .ref g3, .ref g4, .int (nI tp), .int (nI p2_4.1), .int (nI p2_4.2.1), .int (nI sz), .int (nI p2_4.2.2.1), .int p2_4.2.2.2.1, .int (nI p2_4.2.2.2.2.1), .int p2_4.2.2.2.2.2, .int w13, .int w14, .ref g15, .int w16, .ref g17, .int w18, .int w19, .ref g20, .int w21, .ref g22, .ref g23, .ref g24, .int w25, .int w26, .int w27, .ref g28, .ref g29, .int w30, .ref g31, .ref g32, .ref g33])), (g3, .inl (T 0, 900, .inl ft))] H locs := V
    show W p l e _ s m args below meth c H locs _ _ _ (F0 m 14 ls [])
    refine lv_iconst (v := (nI 1)) hx hb dX8_eats_14 (by decide +kernel) ?_
    exact g_zret (Qr := (q_m_eats_f T ps o k w0 g1 g2 g3 g4 tp sz w13 w14 g15 w16 g17 w18 w19 g20 w21 g22 g23 g24 w25 w26 w27 g28 g29 w30 g31 g32 g33 ft)) hC V ⟨(Nat.le_of_ble_eq_true rfl), (Nat.le_of_ble_eq_true rfl)⟩ (by first | decide +kernel | exact rfl) (.inl ⟨p2_4, rfl, rfl, f_5, (by assumption), (by assumption)⟩) dX8_eats_15
  · have V : gW D T A s [(o, .inr (8, [.int w0, .ref g1, .ref g2, .ref g3, .ref g4, .int (nI tp), .int (nI ps.1), .int (nI ps.2.1), .int (nI sz), .int (nI ps.2.2.1), .int ps.2.2.2.1, .int (nI ps.2.2.2.2.1), .int ps.2.2.2.2.2, .int w13, .int w14, .ref g15, .int w16, .ref g17, .int w18, .int w19, .ref g20, .int w21, .ref g22, .ref g23, .ref g24, .int w25, .int w26, .int w27, .ref g28, .ref g29, .int w30, .ref g31, .ref g32, .ref g33])), (g3, .inl (T 0, 900, .inl ft))] H locs := V _ [0] rfl rfl rfl (by decide +kernel) rfl
    show W p l e _ s m args below meth c H locs _ _ _ (F0 m 5 ls [.int (nI 0)])
    refine lv_if_ne (tgt := 10) hx hb dX8_eats_5 (by decide) (fun c => absurd (show (nI 0) = 0 by decide +kernel) c) (fun _ => ?_)
    refine lv_iconst (v := (nI 0)) hx hb dX8_eats_8 (by decide +kernel) ?_
    exact g_zret (Qr := (q_m_eats_f T ps o k w0 g1 g2 g3 g4 tp sz w13 w14 g15 w16 g17 w18 w19 g20 w21 g22 g23 g24 w25 w26 w27 g28 g29 w30 g31 g32 g33 ft)) hC V ⟨(Nat.le_of_ble_eq_true rfl), (Nat.le_of_ble_eq_true rfl)⟩ (by first | decide +kernel | exact rfl) (.inr ⟨rfl, rfl, (by assumption)⟩) dX8_eats_9

def q_m_takes_f (T : Nat → ClassId) (ps : PS) (o : Nat) (lo : Int32) (hi : Int32) (w0 : Int32) (g1 : Nat) (g2 : Nat) (g3 : Nat) (g4 : Nat) (tp : Nat) (sz : Nat) (w13 : Int32) (w14 : Int32) (g15 : Nat) (w16 : Int32) (g17 : Nat) (w18 : Int32) (w19 : Int32) (g20 : Nat) (w21 : Int32) (g22 : Nat) (g23 : Nat) (g24 : Nat) (w25 : Int32) (w26 : Int32) (w27 : Int32) (g28 : Nat) (g29 : Nat) (w30 : Int32) (g31 : Nat) (g32 : Nat) (g33 : Nat) (ft : Nat → Int32) : Option Value → va_W → Prop := fun rr ww => (∃ (p2 : PS), rr = some (.int ps.2.2.2.1) ∧ ww = [(o, .inr (8, [.int w0, .ref g1, .ref g2, .ref g3, .ref g4, .int (nI tp), .int (nI p2.1), .int (nI p2.2.1), .int (nI sz), .int (nI p2.2.2.1), .int p2.2.2.2.1, .int (nI p2.2.2.2.2.1), .int p2.2.2.2.2.2, .int w13, .int w14, .ref g15, .int w16, .ref g17, .int w18, .int w19, .ref g20, .int w21, .ref g22, .ref g23, .ref g24, .int w25, .int w26, .int w27, .ref g28, .ref g29, .int w30, .ref g31, .ref g32, .ref g33])), (g3, .inl (T 0, 900, .inl ft))] ∧ p2 = tkS ft sz lo hi ps)
set_option maxHeartbeats 4000000 in
set_option maxRecDepth 100000 in
theorem m_takes_f (l : Launch) (D : va_G) (T : Nat → ClassId) (ps : PS) (o : Nat) (lo : Int32) (hi : Int32) (w0 : Int32) (g1 : Nat) (g2 : Nat) (g3 : Nat) (g4 : Nat) (tp : Nat) (sz : Nat) (w13 : Int32) (w14 : Int32) (g15 : Nat) (w16 : Int32) (g17 : Nat) (w18 : Int32) (w19 : Int32) (g20 : Nat) (w21 : Int32) (g22 : Nat) (g23 : Nat) (g24 : Nat) (w25 : Int32) (w26 : Int32) (w27 : Int32) (g28 : Nat) (g29 : Nat) (w30 : Int32) (g31 : Nat) (g32 : Nat) (g33 : Nat) (ft : Nat → Int32) (h_sz : sz ≤ 900) (h_p : PI ft sz ps) : Ct l yX8_takes cX8_takes 4 (some .int) 6 0 0 D T [.ref o, .int lo, .int hi] [(o, .inr (8, [.int w0, .ref g1, .ref g2, .ref g3, .ref g4, .int (nI tp), .int (nI ps.1), .int (nI ps.2.1), .int (nI sz), .int (nI ps.2.2.1), .int ps.2.2.2.1, .int (nI ps.2.2.2.2.1), .int ps.2.2.2.2.2, .int w13, .int w14, .ref g15, .int w16, .ref g17, .int w18, .int w19, .ref g20, .int w21, .ref g22, .ref g23, .ref g24, .int w25, .int w26, .int w27, .ref g28, .ref g29, .int w30, .ref g31, .ref g32, .ref g33])), (g3, .inl (T 0, 900, .inl ft))] (q_m_takes_f T ps o lo hi w0 g1 g2 g3 g4 tp sz w13 w14 g15 w16 g17 w18 w19 g20 w21 g22 g23 g24 w25 w26 w27 g28 g29 w30 g31 g32 g33 ft) := by
  refine Ct.of (cc := cX8_takes) (maxL := 4) (ret := (some .int)) (by decide) (Nat.le_of_ble_eq_true rfl) ?_
  intro p e s m args below meth c A ls hC hnm V hl
  obtain ⟨hx, hb, hr, hml, hown, hts, hlocks⟩ := id hC
  generalize hH : s.heap = H at V ⊢
  clear hH
  have hl : lv_has ls 4 [(0, .ref o), (1, .int lo), (2, .int hi)] := hl
  generalize hlo : ([] : List Loc) = locs at V ⊢
  clear hlo
  obtain ⟨_, _, _, _, -⟩ := id h_p
  refine lv_aload_n hx hb dX8_takes_0 rfl (lv_at hl 0 rfl) ?_
  refine lv_bipush (v := (nI 9)) hx hb dX8_takes_1 (by decide +kernel) ?_
  refine g_callVU (nA := 1) hC V hl.1 (m_is_f l D T ps sz o 9 w0 g1 g2 g3 g4 tp w13 w14 g15 w16 g17 w18 w19 g20 w21 g22 g23 g24 w25 w26 w27 g28 g29 w30 g31 g32 g33 (by first | assumption | omega) (by first | assumption | omega) (by first | assumption | omega)) w_1047 w_1049 w_s39 w_9 w_1050 (by decide +kernel) rfl ⟨(Nat.le_of_ble_eq_true rfl), (Nat.le_of_ble_eq_true rfl)⟩ 0 (ci := 8) rfl rfl [0] rfl rfl (Nat.le_of_ble_eq_true rfl) dX8_takes_3 ⟨(Nat.le_of_ble_eq_true rfl), (Nat.le_of_ble_eq_true rfl)⟩ rfl (fun r w1 H locs hQ V => ?_)
  rcases hQ with ⟨rfl, rfl, f_1, f_2⟩ | ⟨rfl, rfl, f_3⟩
  · have V : gW D T A s [(o, .inr (8, [.int w0, .ref g1, .ref g2, .ref g3, .ref g4, .int (nI tp), .int (nI ps.1), .int (nI ps.2.1), .int (nI sz), .int (nI ps.2.2.1), .int ps.2.2.2.1, .int (nI ps.2.2.2.2.1), .int ps.2.2.2.2.2, .int w13, .int w14, .ref g15, .int w16, .ref g17, .int w18, .int w19, .ref g20, .int w21, .ref g22, .ref g23, .ref g24, .int w25, .int w26, .int w27, .ref g28, .ref g29, .int w30, .ref g31, .ref g32, .ref g33])), (g3, .inl (T 0, 900, .inl ft))] H locs := V _ [0] rfl rfl rfl (by decide +kernel) rfl
    show W p l e _ s m args below meth c H locs _ _ _ (F0 m 6 ls [.int (nI 1)])
    refine lv_if_ne (tgt := 17) hx hb dX8_takes_6 (by decide) (fun _ => ?_) (fun c => absurd (show (nI 1) = 0 from c) (by decide +kernel))
    refine lv_aload_n hx hb dX8_takes_17 rfl (lv_at hl 0 rfl) ?_
    refine g_get hC V (ci := 8) uwX8 0 rfl rfl 10 (by decide) w_922 rfl rfl dX8_takes_18 ?_
    refine lv_i2l (v := ps.2.2.2.1.toInt64) hx hb dX8_takes_21 rfl ?_
    refine lv_iload_n hx hb dX8_takes_22 rfl (lv_at hl 1 rfl) ?_
    refine lv_i2l (v := lo.toInt64) hx hb dX8_takes_23 rfl ?_
    refine lv_iload_n hx hb dX8_takes_24 rfl (lv_at hl 2 rfl) ?_
    refine lv_i2l (v := hi.toInt64) hx hb dX8_takes_25 rfl ?_
    refine g_callSU (nA := 3) hC V hl.1 (m_within l D T ps.2.2.2.1 lo hi) w_1023 w_1024 w_9 w_1025 (by decide +kernel) rfl ⟨(Nat.le_of_ble_eq_true rfl), (Nat.le_of_ble_eq_true rfl)⟩ [] rfl rfl (Nat.le_of_ble_eq_true rfl) dX8_takes_26 ⟨(Nat.le_of_ble_eq_true rfl), (Nat.le_of_ble_eq_true rfl)⟩ rfl (fun r w1 H locs hQ V => ?_)
    rcases hQ with ⟨rfl, rfl, f_4, f_5⟩ | ⟨rfl, rfl, f_6⟩
    · have V : gW D T A s [(o, .inr (8, [.int w0, .ref g1, .ref g2, .ref g3, .ref g4, .int (nI tp), .int (nI ps.1), .int (nI ps.2.1), .int (nI sz), .int (nI ps.2.2.1), .int ps.2.2.2.1, .int (nI ps.2.2.2.2.1), .int ps.2.2.2.2.2, .int w13, .int w14, .ref g15, .int w16, .ref g17, .int w18, .int w19, .ref g20, .int w21, .ref g22, .ref g23, .ref g24, .int w25, .int w26, .int w27, .ref g28, .ref g29, .int w30, .ref g31, .ref g32, .ref g33])), (g3, .inl (T 0, 900, .inl ft))] H locs := V _ [] rfl rfl rfl (by decide +kernel) rfl
      show W p l e _ s m args below meth c H locs _ _ _ (F0 m 29 ls [.int (nI 1)])
      refine lv_if_ne (tgt := 37) hx hb dX8_takes_29 (by decide) (fun _ => ?_) (fun c => absurd (show (nI 1) = 0 from c) (by decide +kernel))
      refine lv_aload_n hx hb dX8_takes_37 rfl (lv_at hl 0 rfl) ?_
      refine g_get hC V (ci := 8) uwX8 0 rfl rfl 10 (by decide) w_922 rfl rfl dX8_takes_38 ?_
      refine lv_istore_n (lv' := [(3, .int ps.2.2.2.1), (0, .ref o), (1, .int lo), (2, .int hi)]) hx hb dX8_takes_41 rfl hl (by decide) rfl (fun ls hl => ?_)
      refine lv_aload_n hx hb dX8_takes_42 rfl (lv_at hl 1 rfl) ?_
      refine g_get hC V (ci := 8) uwX8 0 rfl rfl 11 (by decide) w_923 rfl rfl dX8_takes_43 ?_
      refine lv_if_ne (tgt := 53) hx hb dX8_takes_46 (by decide) (fun c_7 => ?_) (fun c_7 => ?_)
      · skip
        rw [show (0 : Int32) = nI 0 from rfl] at c_7
        have c_7 := b_ne (by omega) (by omega) c_7
        exact (by omega : False).elim
      · skip
        rw [show (0 : Int32) = nI 0 from rfl] at c_7
        have c_7 := b_eq (by omega) (by omega) c_7
        refine lv_aload_n hx hb dX8_takes_49 rfl (lv_at hl 1 rfl) ?_
        refine g_callV (wr := []) (nA := 0) hC V hl.1 (m_next_f l D T o w0 g1 g2 g3 g4 tp (nI ps.1) ps.2.1 sz (nI ps.2.2.1) ps.2.2.2.1 ps.2.2.2.2.1 ps.2.2.2.2.2 w13 w14 g15 w16 g17 w18 w19 g20 w21 g22 g23 g24 w25 w26 w27 g28 g29 w30 g31 g32 g33 ft (by first | assumption | omega) (by first | assumption | omega) (by first | assumption | omega)) w_1026 w_1028 w_s36 w_9 w_1029 (by decide +kernel) rfl ⟨(Nat.le_of_ble_eq_true rfl), (Nat.le_of_ble_eq_true rfl)⟩ 0 (ci := 8) rfl rfl [0, 1] [] rfl rfl rfl rfl (by decide) (Nat.le_of_ble_eq_true rfl) dX8_takes_50 ⟨(Nat.le_of_ble_eq_true rfl), (Nat.le_of_ble_eq_true rfl)⟩ rfl (fun r w1 H locs hQ V => ?_)
        obtain ⟨p2_8, rfl, rfl, f_9⟩ := hQ
        have V : gW D T A s [(o, .inr (8, [.int w0, .ref g1, .ref g2, .ref g3, .ref g4, .int (nI tp), .int (nI p2_8.1), .int (nI p2_8.2.1), .int (nI sz), .int (nI p2_8.2.2.1), .int p2_8.2.2.2.1, .int (nI p2_8.2.2.2.2.1), .int p2_8.2.2.2.2.2, .int w13, .int w14, .ref g15, .int w16, .ref g17, .int w18, .int w19, .ref g20, .int w21, .ref g22, .ref g23, .ref g24, .int w25, .int w26, .int w27, .ref g28, .ref g29, .int w30, .ref g31, .ref g32, .ref g33])), (g3, .inl (T 0, 900, .inl ft))] H locs := V
        show W p l e _ s m args below meth c H locs _ _ _ (F0 m 53 ls [])
        refine lv_iload_n hx hb dX8_takes_53 rfl (lv_at hl 0 rfl) ?_
        exact g_iret (Qr := (q_m_takes_f T ps o lo hi w0 g1 g2 g3 g4 tp sz w13 w14 g15 w16 g17 w18 w19 g20 w21 g22 g23 g24 w25 w26 w27 g28 g29 w30 g31 g32 g33 ft)) hC V ⟨(Nat.le_of_ble_eq_true rfl), (Nat.le_of_ble_eq_true rfl)⟩ ⟨p2_8, rfl, rfl, (Eq.trans f_9 (tk_ok (by assumption) (by assumption) (by assumption) (by assumption)).symm)⟩ dX8_takes_54
    · have V : gW D T A s [(o, .inr (8, [.int w0, .ref g1, .ref g2, .ref g3, .ref g4, .int (nI tp), .int (nI ps.1), .int (nI ps.2.1), .int (nI sz), .int (nI ps.2.2.1), .int ps.2.2.2.1, .int (nI ps.2.2.2.2.1), .int ps.2.2.2.2.2, .int w13, .int w14, .ref g15, .int w16, .ref g17, .int w18, .int w19, .ref g20, .int w21, .ref g22, .ref g23, .ref g24, .int w25, .int w26, .int w27, .ref g28, .ref g29, .int w30, .ref g31, .ref g32, .ref g33])), (g3, .inl (T 0, 900, .inl ft))] H locs := V _ [] rfl rfl rfl (by decide +kernel) rfl
      show W p l e _ s m args below meth c H locs _ _ _ (F0 m 29 ls [.int (nI 0)])
      refine lv_if_ne (tgt := 37) hx hb dX8_takes_29 (by decide) (fun c => absurd (show (nI 0) = 0 by decide +kernel) c) (fun _ => ?_)
      refine lv_aload_n hx hb dX8_takes_32 rfl (lv_at hl 0 rfl) ?_
      refine lv_iconst (v := (nI 3)) hx hb dX8_takes_33 (by decide +kernel) ?_
      refine g_callVU (nA := 1) hC V hl.1 (m_fails_f l D T ps sz o 3 w0 g1 g2 g3 g4 tp w13 w14 g15 w16 g17 w18 w19 g20 w21 g22 g23 g24 w25 w26 w27 g28 g29 w30 g31 g32 g33 (by first | assumption | omega) (by first | assumption | omega)) w_1055 w_1057 w_s41 w_9 w_1058 (by decide +kernel) rfl ⟨(Nat.le_of_ble_eq_true rfl), (Nat.le_of_ble_eq_true rfl)⟩ 0 (ci := 8) rfl rfl [0] rfl rfl (Nat.le_of_ble_eq_true rfl) dX8_takes_34 ⟨(Nat.le_of_ble_eq_true rfl), (Nat.le_of_ble_eq_true rfl)⟩ rfl (fun r w1 H locs hQ V => ?_)
      obtain ⟨p2_10, rfl, rfl, f_11⟩ := hQ
      have V : gW D T A s [(o, .inr (8, [.int w0, .ref g1, .ref g2, .ref g3, .ref g4, .int (nI tp), .int (nI p2_10.1), .int (nI p2_10.2.1), .int (nI sz), .int (nI p2_10.2.2.1), .int p2_10.2.2.2.1, .int (nI p2_10.2.2.2.2.1), .int p2_10.2.2.2.2.2, .int w13, .int w14, .ref g15, .int w16, .ref g17, .int w18, .int w19, .ref g20, .int w21, .ref g22, .ref g23, .ref g24, .int w25, .int w26, .int w27, .ref g28, .ref g29, .int w30, .ref g31, .ref g32, .ref g33])), (g3, .inl (T 0, 900, .inl ft))] H locs := V _ [0] rfl rfl rfl (by decide +kernel) rfl
      show W p l e _ s m args below meth c H locs _ _ _ (F0 m 37 ls [])
      have hwp2_10 : ¬ p2_10.2.2.2.2.1 = 0 := by rw [f_11]; exact fa_w (by decide)
      have hPp2_10 : PI ft sz p2_10 := by rw [f_11]; exact PI_fa h_p (by decide)
      obtain ⟨_, _, _, _, -⟩ := id hPp2_10
      refine lv_aload_n hx hb dX8_takes_37 rfl (lv_at hl 0 rfl) ?_
      refine g_get hC V (ci := 8) uwX8 0 rfl rfl 10 (by decide) w_922 rfl rfl dX8_takes_38 ?_
      refine g_vi (y := ps.2.2.2.1) (by rw [f_11]; exact fa_nu) ?_
      refine lv_istore_n (lv' := [(3, .int ps.2.2.2.1), (0, .ref o), (1, .int lo), (2, .int hi)]) hx hb dX8_takes_41 rfl hl (by decide) rfl (fun ls hl => ?_)
      refine lv_aload_n hx hb dX8_takes_42 rfl (lv_at hl 1 rfl) ?_
      refine g_get hC V (ci := 8) uwX8 0 rfl rfl 11 (by decide) w_923 rfl rfl dX8_takes_43 ?_
      refine lv_if_ne (tgt := 53) hx hb dX8_takes_46 (by decide) (fun c_12 => ?_) (fun c_12 => ?_)
      · skip
        rw [show (0 : Int32) = nI 0 from rfl] at c_12
        have c_12 := b_ne (by omega) (by omega) c_12
        refine lv_iload_n hx hb dX8_takes_53 rfl (lv_at hl 0 rfl) ?_
        exact g_iret (Qr := (q_m_takes_f T ps o lo hi w0 g1 g2 g3 g4 tp sz w13 w14 g15 w16 g17 w18 w19 g20 w21 g22 g23 g24 w25 w26 w27 g28 g29 w30 g31 g32 g33 ft)) hC V ⟨(Nat.le_of_ble_eq_true rfl), (Nat.le_of_ble_eq_true rfl)⟩ ⟨p2_10, rfl, rfl, (f_11.trans (tk_3 (by assumption) (by assumption) (by assumption)).symm)⟩ dX8_takes_54
      · skip
        rw [show (0 : Int32) = nI 0 from rfl] at c_12
        have c_12 := b_eq (by omega) (by omega) c_12
        exact (by omega : False).elim
  · have V : gW D T A s [(o, .inr (8, [.int w0, .ref g1, .ref g2, .ref g3, .ref g4, .int (nI tp), .int (nI ps.1), .int (nI ps.2.1), .int (nI sz), .int (nI ps.2.2.1), .int ps.2.2.2.1, .int (nI ps.2.2.2.2.1), .int ps.2.2.2.2.2, .int w13, .int w14, .ref g15, .int w16, .ref g17, .int w18, .int w19, .ref g20, .int w21, .ref g22, .ref g23, .ref g24, .int w25, .int w26, .int w27, .ref g28, .ref g29, .int w30, .ref g31, .ref g32, .ref g33])), (g3, .inl (T 0, 900, .inl ft))] H locs := V _ [0] rfl rfl rfl (by decide +kernel) rfl
    show W p l e _ s m args below meth c H locs _ _ _ (F0 m 6 ls [.int (nI 0)])
    refine lv_if_ne (tgt := 17) hx hb dX8_takes_6 (by decide) (fun c => absurd (show (nI 0) = 0 by decide +kernel) c) (fun _ => ?_)
    refine lv_aload_n hx hb dX8_takes_9 rfl (lv_at hl 0 rfl) ?_
    refine lv_iconst (v := (nI 2)) hx hb dX8_takes_10 (by decide +kernel) ?_
    refine g_callVU (nA := 1) hC V hl.1 (m_fails_f l D T ps sz o 2 w0 g1 g2 g3 g4 tp w13 w14 g15 w16 g17 w18 w19 g20 w21 g22 g23 g24 w25 w26 w27 g28 g29 w30 g31 g32 g33 (by first | assumption | omega) (by first | assumption | omega)) w_1055 w_1057 w_s41 w_9 w_1058 (by decide +kernel) rfl ⟨(Nat.le_of_ble_eq_true rfl), (Nat.le_of_ble_eq_true rfl)⟩ 0 (ci := 8) rfl rfl [0] rfl rfl (Nat.le_of_ble_eq_true rfl) dX8_takes_11 ⟨(Nat.le_of_ble_eq_true rfl), (Nat.le_of_ble_eq_true rfl)⟩ rfl (fun r w1 H locs hQ V => ?_)
    obtain ⟨p2_13, rfl, rfl, f_14⟩ := hQ
    have V : gW D T A s [(o, .inr (8, [.int w0, .ref g1, .ref g2, .ref g3, .ref g4, .int (nI tp), .int (nI p2_13.1), .int (nI p2_13.2.1), .int (nI sz), .int (nI p2_13.2.2.1), .int p2_13.2.2.2.1, .int (nI p2_13.2.2.2.2.1), .int p2_13.2.2.2.2.2, .int w13, .int w14, .ref g15, .int w16, .ref g17, .int w18, .int w19, .ref g20, .int w21, .ref g22, .ref g23, .ref g24, .int w25, .int w26, .int w27, .ref g28, .ref g29, .int w30, .ref g31, .ref g32, .ref g33])), (g3, .inl (T 0, 900, .inl ft))] H locs := V _ [0] rfl rfl rfl (by decide +kernel) rfl
    show W p l e _ s m args below meth c H locs _ _ _ (F0 m 14 ls [])
    have hwp2_13 : ¬ p2_13.2.2.2.2.1 = 0 := by rw [f_14]; exact fa_w (by decide)
    have hPp2_13 : PI ft sz p2_13 := by rw [f_14]; exact PI_fa h_p (by decide)
    obtain ⟨_, _, _, _, -⟩ := id hPp2_13
    refine lv_goto (tgt := 37) hx hb dX8_takes_14 (by decide) ?_
    refine lv_aload_n hx hb dX8_takes_37 rfl (lv_at hl 0 rfl) ?_
    refine g_get hC V (ci := 8) uwX8 0 rfl rfl 10 (by decide) w_922 rfl rfl dX8_takes_38 ?_
    refine g_vi (y := ps.2.2.2.1) (by rw [f_14]; exact fa_nu) ?_
    refine lv_istore_n (lv' := [(3, .int ps.2.2.2.1), (0, .ref o), (1, .int lo), (2, .int hi)]) hx hb dX8_takes_41 rfl hl (by decide) rfl (fun ls hl => ?_)
    refine lv_aload_n hx hb dX8_takes_42 rfl (lv_at hl 1 rfl) ?_
    refine g_get hC V (ci := 8) uwX8 0 rfl rfl 11 (by decide) w_923 rfl rfl dX8_takes_43 ?_
    refine lv_if_ne (tgt := 53) hx hb dX8_takes_46 (by decide) (fun c_15 => ?_) (fun c_15 => ?_)
    · skip
      rw [show (0 : Int32) = nI 0 from rfl] at c_15
      have c_15 := b_ne (by omega) (by omega) c_15
      refine lv_iload_n hx hb dX8_takes_53 rfl (lv_at hl 0 rfl) ?_
      exact g_iret (Qr := (q_m_takes_f T ps o lo hi w0 g1 g2 g3 g4 tp sz w13 w14 g15 w16 g17 w18 w19 g20 w21 g22 g23 g24 w25 w26 w27 g28 g29 w30 g31 g32 g33 ft)) hC V ⟨(Nat.le_of_ble_eq_true rfl), (Nat.le_of_ble_eq_true rfl)⟩ ⟨p2_13, rfl, rfl, (f_14.trans (tk_2 (by assumption)).symm)⟩ dX8_takes_54
    · skip
      rw [show (0 : Int32) = nI 0 from rfl] at c_15
      have c_15 := b_eq (by omega) (by omega) c_15
      exact (by omega : False).elim

def q_m_takesIf_f (T : Nat → ClassId) (ps : PS) (o : Nat) (k : Nat) (lo : Int32) (hi : Int32) (wo : Int32) (w0 : Int32) (g1 : Nat) (g2 : Nat) (g3 : Nat) (g4 : Nat) (tp : Nat) (sz : Nat) (w13 : Int32) (w14 : Int32) (g15 : Nat) (w16 : Int32) (g17 : Nat) (w18 : Int32) (w19 : Int32) (g20 : Nat) (w21 : Int32) (g22 : Nat) (g23 : Nat) (g24 : Nat) (w25 : Int32) (w26 : Int32) (w27 : Int32) (g28 : Nat) (g29 : Nat) (w30 : Int32) (g31 : Nat) (g32 : Nat) (g33 : Nat) (ft : Nat → Int32) : Option Value → va_W → Prop := fun rr ww => (∃ (z : Int32) (p2 : PS), rr = some (.int z) ∧ ww = [(o, .inr (8, [.int w0, .ref g1, .ref g2, .ref g3, .ref g4, .int (nI tp), .int (nI p2.1), .int (nI p2.2.1), .int (nI sz), .int (nI p2.2.2.1), .int p2.2.2.2.1, .int (nI p2.2.2.2.2.1), .int p2.2.2.2.2.2, .int w13, .int w14, .ref g15, .int w16, .ref g17, .int w18, .int w19, .ref g20, .int w21, .ref g22, .ref g23, .ref g24, .int w25, .int w26, .int w27, .ref g28, .ref g29, .int w30, .ref g31, .ref g32, .ref g33])), (g3, .inl (T 0, 900, .inl ft))] ∧ z = tiV ft sz k wo ps ∧ p2 = tiS ft sz k lo hi ps)
set_option maxHeartbeats 4000000 in
set_option maxRecDepth 100000 in
theorem m_takesIf_f (l : Launch) (D : va_G) (T : Nat → ClassId) (ps : PS) (o : Nat) (k : Nat) (lo : Int32) (hi : Int32) (wo : Int32) (w0 : Int32) (g1 : Nat) (g2 : Nat) (g3 : Nat) (g4 : Nat) (tp : Nat) (sz : Nat) (w13 : Int32) (w14 : Int32) (g15 : Nat) (w16 : Int32) (g17 : Nat) (w18 : Int32) (w19 : Int32) (g20 : Nat) (w21 : Int32) (g22 : Nat) (g23 : Nat) (g24 : Nat) (w25 : Int32) (w26 : Int32) (w27 : Int32) (g28 : Nat) (g29 : Nat) (w30 : Int32) (g31 : Nat) (g32 : Nat) (g33 : Nat) (ft : Nat → Int32) (h_sz : sz ≤ 900) (h_p : PI ft sz ps) (h_k12 : k ≤ 12) : Ct l yX8_takesIf cX8_takesIf 5 (some .int) 7 0 0 D T [.ref o, .int (nI k), .int lo, .int hi, .int wo] [(o, .inr (8, [.int w0, .ref g1, .ref g2, .ref g3, .ref g4, .int (nI tp), .int (nI ps.1), .int (nI ps.2.1), .int (nI sz), .int (nI ps.2.2.1), .int ps.2.2.2.1, .int (nI ps.2.2.2.2.1), .int ps.2.2.2.2.2, .int w13, .int w14, .ref g15, .int w16, .ref g17, .int w18, .int w19, .ref g20, .int w21, .ref g22, .ref g23, .ref g24, .int w25, .int w26, .int w27, .ref g28, .ref g29, .int w30, .ref g31, .ref g32, .ref g33])), (g3, .inl (T 0, 900, .inl ft))] (q_m_takesIf_f T ps o k lo hi wo w0 g1 g2 g3 g4 tp sz w13 w14 g15 w16 g17 w18 w19 g20 w21 g22 g23 g24 w25 w26 w27 g28 g29 w30 g31 g32 g33 ft) := by
  refine Ct.of (cc := cX8_takesIf) (maxL := 5) (ret := (some .int)) (by decide) (Nat.le_of_ble_eq_true rfl) ?_
  intro p e s m args below meth c A ls hC hnm V hl
  obtain ⟨hx, hb, hr, hml, hown, hts, hlocks⟩ := id hC
  generalize hH : s.heap = H at V ⊢
  clear hH
  have hl : lv_has ls 5 [(0, .ref o), (1, .int (nI k)), (2, .int lo), (3, .int hi), (4, .int wo)] := hl
  generalize hlo : ([] : List Loc) = locs at V ⊢
  clear hlo
  obtain ⟨_, _, _, _, -⟩ := id h_p
  refine lv_aload_n hx hb dX8_takesIf_0 rfl (lv_at hl 0 rfl) ?_
  refine lv_iload_n hx hb dX8_takesIf_1 rfl (lv_at hl 1 rfl) ?_
  refine g_callV (wr := []) (nA := 1) hC V hl.1 (m_eats_f l D T ps o k w0 g1 g2 g3 g4 tp sz w13 w14 g15 w16 g17 w18 w19 g20 w21 g22 g23 g24 w25 w26 w27 g28 g29 w30 g31 g32 g33 ft (by first | assumption | omega) (by first | assumption | omega) (by first | assumption | omega)) w_1067 w_1069 w_s44 w_9 w_1070 (by decide +kernel) rfl ⟨(Nat.le_of_ble_eq_true rfl), (Nat.le_of_ble_eq_true rfl)⟩ 0 (ci := 8) rfl rfl [0, 1] [] rfl rfl rfl rfl (by decide) (Nat.le_of_ble_eq_true rfl) dX8_takesIf_2 ⟨(Nat.le_of_ble_eq_true rfl), (Nat.le_of_ble_eq_true rfl)⟩ rfl (fun r w1 H locs hQ V => ?_)
  rcases hQ with ⟨p2_1, rfl, rfl, f_2, f_3, f_4⟩ | ⟨rfl, rfl, f_5⟩
  · have V : gW D T A s [(o, .inr (8, [.int w0, .ref g1, .ref g2, .ref g3, .ref g4, .int (nI tp), .int (nI p2_1.1), .int (nI p2_1.2.1), .int (nI sz), .int (nI p2_1.2.2.1), .int p2_1.2.2.2.1, .int (nI p2_1.2.2.2.2.1), .int p2_1.2.2.2.2.2, .int w13, .int w14, .ref g15, .int w16, .ref g17, .int w18, .int w19, .ref g20, .int w21, .ref g22, .ref g23, .ref g24, .int w25, .int w26, .int w27, .ref g28, .ref g29, .int w30, .ref g31, .ref g32, .ref g33])), (g3, .inl (T 0, 900, .inl ft))] H locs := V
    show W p l e _ s m args below meth c H locs _ _ _ (F0 m 5 ls [.int (nI 1)])
    have hPp2_1 : PI ft sz p2_1 := by rw [f_2]; exact PI_nxI h_p
    obtain ⟨_, _, _, _, -⟩ := id hPp2_1
    refine lv_if_eq (tgt := 17) hx hb dX8_takesIf_5 (by decide) (fun c => absurd (show (nI 1) = 0 from c) (by decide +kernel)) (fun _ => ?_)
    refine lv_aload_n hx hb dX8_takesIf_8 rfl (lv_at hl 0 rfl) ?_
    refine lv_iload_n hx hb dX8_takesIf_9 rfl (lv_at hl 2 rfl) ?_
    refine lv_iload_n hx hb dX8_takesIf_10 rfl (lv_at hl 3 rfl) ?_
    refine g_callV (wr := []) (nA := 2) hC V hl.1 (m_takes_f l D T p2_1 o lo hi w0 g1 g2 g3 g4 tp sz w13 w14 g15 w16 g17 w18 w19 g20 w21 g22 g23 g24 w25 w26 w27 g28 g29 w30 g31 g32 g33 ft (by first | assumption | omega) (by first | assumption | omega)) w_1059 w_1061 w_s42 w_9 w_1062 (by decide +kernel) rfl ⟨(Nat.le_of_ble_eq_true rfl), (Nat.le_of_ble_eq_true rfl)⟩ 0 (ci := 8) rfl rfl [0, 1] [] rfl rfl rfl rfl (by decide) (Nat.le_of_ble_eq_true rfl) dX8_takesIf_11 ⟨(Nat.le_of_ble_eq_true rfl), (Nat.le_of_ble_eq_true rfl)⟩ rfl (fun r w1 H locs hQ V => ?_)
    obtain ⟨p2_6, rfl, rfl, f_7⟩ := hQ
    have V : gW D T A s [(o, .inr (8, [.int w0, .ref g1, .ref g2, .ref g3, .ref g4, .int (nI tp), .int (nI p2_6.1), .int (nI p2_6.2.1), .int (nI sz), .int (nI p2_6.2.2.1), .int p2_6.2.2.2.1, .int (nI p2_6.2.2.2.2.1), .int p2_6.2.2.2.2.2, .int w13, .int w14, .ref g15, .int w16, .ref g17, .int w18, .int w19, .ref g20, .int w21, .ref g22, .ref g23, .ref g24, .int w25, .int w26, .int w27, .ref g28, .ref g29, .int w30, .ref g31, .ref g32, .ref g33])), (g3, .inl (T 0, 900, .inl ft))] H locs := V
    show W p l e _ s m args below meth c H locs _ _ _ (F0 m 14 ls [.int p2_1.2.2.2.1])
    refine lv_goto (tgt := 19) hx hb dX8_takesIf_14 (by decide) ?_
    exact g_iret (Qr := (q_m_takesIf_f T ps o k lo hi wo w0 g1 g2 g3 g4 tp sz w13 w14 g15 w16 g17 w18 w19 g20 w21 g22 g23 g24 w25 w26 w27 g28 g29 w30 g31 g32 g33 ft)) hC V ⟨(Nat.le_of_ble_eq_true rfl), (Nat.le_of_ble_eq_true rfl)⟩ ⟨p2_1.2.2.2.1, p2_6, rfl, rfl, (by rw [tv_y f_3 f_4, f_2]), (by rw [f_7, ti_y f_3 f_4, f_2])⟩ dX8_takesIf_19
  · have V : gW D T A s [(o, .inr (8, [.int w0, .ref g1, .ref g2, .ref g3, .ref g4, .int (nI tp), .int (nI ps.1), .int (nI ps.2.1), .int (nI sz), .int (nI ps.2.2.1), .int ps.2.2.2.1, .int (nI ps.2.2.2.2.1), .int ps.2.2.2.2.2, .int w13, .int w14, .ref g15, .int w16, .ref g17, .int w18, .int w19, .ref g20, .int w21, .ref g22, .ref g23, .ref g24, .int w25, .int w26, .int w27, .ref g28, .ref g29, .int w30, .ref g31, .ref g32, .ref g33])), (g3, .inl (T 0, 900, .inl ft))] H locs := V
    show W p l e _ s m args below meth c H locs _ _ _ (F0 m 5 ls [.int (nI 0)])
    refine lv_if_eq (tgt := 17) hx hb dX8_takesIf_5 (by decide) (fun _ => ?_) (fun c => absurd (show (nI 0) = 0 by decide +kernel) c)
    refine lv_iload hx hb dX8_takesIf_17 (lv_at hl 4 rfl) ?_
    exact g_iret (Qr := (q_m_takesIf_f T ps o k lo hi wo w0 g1 g2 g3 g4 tp sz w13 w14 g15 w16 g17 w18 w19 g20 w21 g22 g23 g24 w25 w26 w27 g28 g29 w30 g31 g32 g33 ft)) hC V ⟨(Nat.le_of_ble_eq_true rfl), (Nat.le_of_ble_eq_true rfl)⟩ ⟨wo, ps, rfl, rfl, (tv_n f_5).symm, (ti_n f_5).symm⟩ dX8_takesIf_19

def q_m_readSmith_f (T : Nat → ClassId) (ps : PS) (n : Nat) (o : Nat) (w0 : Int32) (g1 : Nat) (g2 : Nat) (g3 : Nat) (g4 : Nat) (tp : Nat) (sz : Nat) (w13 : Int32) (w14 : Int32) (g15 : Nat) (w16 : Int32) (g17 : Nat) (w18 : Int32) (w19 : Int32) (g20 : Nat) (w21 : Int32) (g22 : Nat) (g23 : Nat) (g24 : Nat) (w25 : Int32) (w26 : Int32) (w27 : Int32) (g28 : Nat) (g29 : Nat) (w30 : Int32) (g31 : Nat) (g32 : Nat) (g33 : Nat) (ft : Nat → Int32) (ff : Nat → Int32) : Option Value → va_W → Prop := fun rr ww => (∃ (p2 : PS) (gf : Nat → Int32), rr = none ∧ ww = [(o, .inr (8, [.int w0, .ref g1, .ref g2, .ref g3, .ref g4, .int (nI tp), .int (nI p2.1), .int (nI p2.2.1), .int (nI sz), .int (nI p2.2.2.1), .int p2.2.2.2.1, .int (nI p2.2.2.2.2.1), .int p2.2.2.2.2.2, .int w13, .int w14, .ref g15, .int w16, .ref g17, .int w18, .int w19, .ref g20, .int w21, .ref g22, .ref g23, .ref g24, .int w25, .int w26, .int w27, .ref g28, .ref g29, .int w30, .ref g31, .ref g32, .ref g33])), (g3, .inl (T 0, 900, .inl ft)), (g4, .inl (T 0, 94, .inl gf))] ∧ p2 = smS ft sz n ps ∧ gf = smF ft sz n ps ff)
set_option maxHeartbeats 4000000 in
set_option maxRecDepth 100000 in
theorem m_readSmith_f (l : Launch) (D : va_G) (T : Nat → ClassId) (ps : PS) (n : Nat) (o : Nat) (w0 : Int32) (g1 : Nat) (g2 : Nat) (g3 : Nat) (g4 : Nat) (tp : Nat) (sz : Nat) (w13 : Int32) (w14 : Int32) (g15 : Nat) (w16 : Int32) (g17 : Nat) (w18 : Int32) (w19 : Int32) (g20 : Nat) (w21 : Int32) (g22 : Nat) (g23 : Nat) (g24 : Nat) (w25 : Int32) (w26 : Int32) (w27 : Int32) (g28 : Nat) (g29 : Nat) (w30 : Int32) (g31 : Nat) (g32 : Nat) (g33 : Nat) (ft : Nat → Int32) (ff : Nat → Int32) (h_sz : sz ≤ 900) (h_p : PI ft sz ps) (h_fr : FR n ff) (h_0 : ps.2.2.2.2.1 = 0) : Ct l yX8_readSmith cX8_readSmith 8 none 8 0 0 D T [.ref o] [(o, .inr (8, [.int w0, .ref g1, .ref g2, .ref g3, .ref g4, .int (nI tp), .int (nI ps.1), .int (nI ps.2.1), .int (nI sz), .int (nI ps.2.2.1), .int ps.2.2.2.1, .int (nI ps.2.2.2.2.1), .int ps.2.2.2.2.2, .int w13, .int w14, .ref g15, .int w16, .ref g17, .int w18, .int w19, .ref g20, .int w21, .ref g22, .ref g23, .ref g24, .int w25, .int w26, .int w27, .ref g28, .ref g29, .int w30, .ref g31, .ref g32, .ref g33])), (g3, .inl (T 0, 900, .inl ft)), (g4, .inl (T 0, 94, .inl ff))] (q_m_readSmith_f T ps n o w0 g1 g2 g3 g4 tp sz w13 w14 g15 w16 g17 w18 w19 g20 w21 g22 g23 g24 w25 w26 w27 g28 g29 w30 g31 g32 g33 ft ff) := by
  refine Ct.of (cc := cX8_readSmith) (maxL := 8) (ret := none) (by decide) (Nat.le_of_ble_eq_true rfl) ?_
  intro p e s m args below meth c A ls hC hnm V hl
  obtain ⟨hx, hb, hr, hml, hown, hts, hlocks⟩ := id hC
  generalize hH : s.heap = H at V ⊢
  clear hH
  have hl : lv_has ls 8 [(0, .ref o)] := hl
  generalize hlo : ([] : List Loc) = locs at V ⊢
  clear hlo
  have hn10 := h_fr.1
  obtain ⟨_, _, _, _, -⟩ := id h_p
  refine lv_aload_n hx hb dX8_readSmith_0 rfl (lv_at hl 0 rfl) ?_
  refine g_get hC V (ci := 8) uwX8 0 rfl rfl 4 (by decide) w_916 rfl rfl dX8_readSmith_1 ?_
  refine lv_iconst (v := (nI 0)) hx hb dX8_readSmith_4 (by decide +kernel) ?_
  refine g_iald hC V 2 rfl (vp_in_nI (by decide) (by decide)) (v := (nI n)) (by rw [nI_clamp (by decide)]; first | rfl | exact h_fr.2.1) dX8_readSmith_5 ?_
  refine lv_istore_n (lv' := [(1, .int (nI n)), (0, .ref o)]) hx hb dX8_readSmith_6 rfl hl (by decide) rfl (fun ls hl => ?_)
  refine lv_iload_n hx hb dX8_readSmith_7 rfl (lv_at hl 0 rfl) ?_
  refine lv_bipush (v := (nI 10)) hx hb dX8_readSmith_8 (by decide +kernel) ?_
  refine lv_icmp_ne (tgt := 18) hx hb dX8_readSmith_10 (by decide) (fun c_1 => ?_) (fun c_1 => ?_)
  · skip
    have c_1 := b_ne (by omega) (by omega) c_1
    refine lv_aload_n hx hb dX8_readSmith_18 rfl (lv_at hl 1 rfl) ?_
    refine g_get hC V (ci := 8) uwX8 0 rfl rfl 11 (by decide) w_923 rfl rfl dX8_readSmith_19 ?_
    refine lv_if_eq (tgt := 26) hx hb dX8_readSmith_22 (by decide) (fun c_2 => ?_) (fun c_2 => ?_)
    · skip
      rw [show (0 : Int32) = nI 0 from rfl] at c_2
      have c_2 := b_eq (by omega) (by omega) c_2
      refine lv_aload_n hx hb dX8_readSmith_26 rfl (lv_at hl 1 rfl) ?_
      refine g_callVU (nA := 0) hC V hl.1 (m_next_f l D T o w0 g1 g2 g3 g4 tp (nI ps.1) ps.2.1 sz (nI ps.2.2.1) ps.2.2.2.1 ps.2.2.2.2.1 ps.2.2.2.2.2 w13 w14 g15 w16 g17 w18 w19 g20 w21 g22 g23 g24 w25 w26 w27 g28 g29 w30 g31 g32 g33 ft (by first | assumption | omega) (by first | assumption | omega) (by first | assumption | omega)) w_1026 w_1028 w_s36 w_9 w_1029 (by decide +kernel) rfl ⟨(Nat.le_of_ble_eq_true rfl), (Nat.le_of_ble_eq_true rfl)⟩ 0 (ci := 8) rfl rfl [0, 1] rfl rfl (Nat.le_of_ble_eq_true rfl) dX8_readSmith_27 ⟨(Nat.le_of_ble_eq_true rfl), (Nat.le_of_ble_eq_true rfl)⟩ rfl (fun r w1 H locs hQ V => ?_)
      obtain ⟨p2_3, rfl, rfl, f_4⟩ := hQ
      have V : gW D T A s [(o, .inr (8, [.int w0, .ref g1, .ref g2, .ref g3, .ref g4, .int (nI tp), .int (nI p2_3.1), .int (nI p2_3.2.1), .int (nI sz), .int (nI p2_3.2.2.1), .int p2_3.2.2.2.1, .int (nI p2_3.2.2.2.2.1), .int p2_3.2.2.2.2.2, .int w13, .int w14, .ref g15, .int w16, .ref g17, .int w18, .int w19, .ref g20, .int w21, .ref g22, .ref g23, .ref g24, .int w25, .int w26, .int w27, .ref g28, .ref g29, .int w30, .ref g31, .ref g32, .ref g33])), (g3, .inl (T 0, 900, .inl ft)), (g4, .inl (T 0, 94, .inl ff))] H locs := V _ [0, 0] rfl rfl rfl (by decide +kernel) rfl
      show W p l e _ s m args below meth c H locs _ _ _ (F0 m 30 ls [])
      have e0 : p2_3 = nxS ft sz ps := f_4
      have hq0 : PI ft sz p2_3 := by rw [e0]; exact PI_nxI h_p
      obtain ⟨_, _, _, _, -⟩ := id hq0
      have v1 : p2_3.2.2.2.1 = smBl ft sz ps := by rw [e0]; rfl
      refine lv_aload_n hx hb dX8_readSmith_30 rfl (lv_at hl 1 rfl) ?_
      refine lv_iconst (v := (nI 0)) hx hb dX8_readSmith_31 (by decide +kernel) ?_
      refine lv_bipush (v := (nI 60)) hx hb dX8_readSmith_32 (by decide +kernel) ?_
      refine g_callVU (nA := 2) hC V hl.1 (m_takes_f l D T p2_3 o (nI 0) (nI 60) w0 g1 g2 g3 g4 tp sz w13 w14 g15 w16 g17 w18 w19 g20 w21 g22 g23 g24 w25 w26 w27 g28 g29 w30 g31 g32 g33 ft (by first | assumption | omega) (by first | assumption | omega)) w_1059 w_1061 w_s42 w_9 w_1062 (by decide +kernel) rfl ⟨(Nat.le_of_ble_eq_true rfl), (Nat.le_of_ble_eq_true rfl)⟩ 0 (ci := 8) rfl rfl [0, 1] rfl rfl (Nat.le_of_ble_eq_true rfl) dX8_readSmith_34 ⟨(Nat.le_of_ble_eq_true rfl), (Nat.le_of_ble_eq_true rfl)⟩ rfl (fun r w1 H locs hQ V => ?_)
      obtain ⟨p2_5, rfl, rfl, f_6⟩ := hQ
      have V : gW D T A s [(o, .inr (8, [.int w0, .ref g1, .ref g2, .ref g3, .ref g4, .int (nI tp), .int (nI p2_5.1), .int (nI p2_5.2.1), .int (nI sz), .int (nI p2_5.2.2.1), .int p2_5.2.2.2.1, .int (nI p2_5.2.2.2.2.1), .int p2_5.2.2.2.2.2, .int w13, .int w14, .ref g15, .int w16, .ref g17, .int w18, .int w19, .ref g20, .int w21, .ref g22, .ref g23, .ref g24, .int w25, .int w26, .int w27, .ref g28, .ref g29, .int w30, .ref g31, .ref g32, .ref g33])), (g3, .inl (T 0, 900, .inl ft)), (g4, .inl (T 0, 94, .inl ff))] H locs := V _ [0, 0] rfl rfl rfl (by decide +kernel) rfl
      show W p l e _ s m args below meth c H locs _ _ _ (F0 m 37 ls [.int p2_3.2.2.2.1])
      have e1 : p2_5 = sm1 ft sz ps := by rw [f_6, e0]; rfl
      have hq1 : PI ft sz p2_5 := by rw [f_6]; exact PI_tk hq0
      obtain ⟨_, _, _, _, -⟩ := id hq1
      refine lv_istore_n (lv' := [(2, .int p2_3.2.2.2.1), (1, .int (nI n)), (0, .ref o)]) hx hb dX8_readSmith_37 rfl hl (by decide) rfl (fun ls hl => ?_)
      refine lv_aload_n hx hb dX8_readSmith_38 rfl (lv_at hl 2 rfl) ?_
      refine lv_iconst (v := (nI 1)) hx hb dX8_readSmith_39 (by decide +kernel) ?_
      refine lv_iconst (v := (nI 0)) hx hb dX8_readSmith_40 (by decide +kernel) ?_
      refine lv_bipush (v := (nI 30)) hx hb dX8_readSmith_41 (by decide +kernel) ?_
      refine lv_iconst (v := (nI 5)) hx hb dX8_readSmith_43 (by decide +kernel) ?_
      refine g_callVU (nA := 4) hC V hl.1 (m_takesIf_f l D T p2_5 o 1 (nI 0) (nI 30) (nI 5) w0 g1 g2 g3 g4 tp sz w13 w14 g15 w16 g17 w18 w19 g20 w21 g22 g23 g24 w25 w26 w27 g28 g29 w30 g31 g32 g33 ft (by first | assumption | omega) (by first | assumption | omega) (by first | assumption | omega)) w_1063 w_1065 w_s43 w_9 w_1066 (by decide +kernel) rfl ⟨(Nat.le_of_ble_eq_true rfl), (Nat.le_of_ble_eq_true rfl)⟩ 0 (ci := 8) rfl rfl [0, 1] rfl rfl (Nat.le_of_ble_eq_true rfl) dX8_readSmith_44 ⟨(Nat.le_of_ble_eq_true rfl), (Nat.le_of_ble_eq_true rfl)⟩ rfl (fun r w1 H locs hQ V => ?_)
      obtain ⟨z_7, p2_8, rfl, rfl, f_9, f_10⟩ := hQ
      have V : gW D T A s [(o, .inr (8, [.int w0, .ref g1, .ref g2, .ref g3, .ref g4, .int (nI tp), .int (nI p2_8.1), .int (nI p2_8.2.1), .int (nI sz), .int (nI p2_8.2.2.1), .int p2_8.2.2.2.1, .int (nI p2_8.2.2.2.2.1), .int p2_8.2.2.2.2.2, .int w13, .int w14, .ref g15, .int w16, .ref g17, .int w18, .int w19, .ref g20, .int w21, .ref g22, .ref g23, .ref g24, .int w25, .int w26, .int w27, .ref g28, .ref g29, .int w30, .ref g31, .ref g32, .ref g33])), (g3, .inl (T 0, 900, .inl ft)), (g4, .inl (T 0, 94, .inl ff))] H locs := V _ [0, 0] rfl rfl rfl (by decide +kernel) rfl
      show W p l e _ s m args below meth c H locs _ _ _ (F0 m 47 ls [.int z_7])
      have v2 : z_7 = smCo ft sz ps := by rw [f_9, e1]; rfl
      have e2 : p2_8 = sm2 ft sz ps := by rw [f_10, e1]; rfl
      have hq2 : PI ft sz p2_8 := by rw [f_10]; exact PI_ti hq1
      obtain ⟨_, _, _, _, -⟩ := id hq2
      refine lv_istore_n (lv' := [(3, .int z_7), (2, .int p2_3.2.2.2.1), (1, .int (nI n)), (0, .ref o)]) hx hb dX8_readSmith_47 rfl hl (by decide) rfl (fun ls hl => ?_)
      refine lv_aload_n hx hb dX8_readSmith_48 rfl (lv_at hl 3 rfl) ?_
      refine lv_iconst (v := (nI 2)) hx hb dX8_readSmith_49 (by decide +kernel) ?_
      refine lv_iconst (v := (nI 0)) hx hb dX8_readSmith_50 (by decide +kernel) ?_
      refine lv_sipush (v := (nI 200)) hx hb dX8_readSmith_51 (by decide +kernel) ?_
      refine lv_iconst (v := (nI 0)) hx hb dX8_readSmith_54 (by decide +kernel) ?_
      refine g_callVU (nA := 4) hC V hl.1 (m_takesIf_f l D T p2_8 o 2 (nI 0) (nI 200) (nI 0) w0 g1 g2 g3 g4 tp sz w13 w14 g15 w16 g17 w18 w19 g20 w21 g22 g23 g24 w25 w26 w27 g28 g29 w30 g31 g32 g33 ft (by first | assumption | omega) (by first | assumption | omega) (by first | assumption | omega)) w_1063 w_1065 w_s43 w_9 w_1066 (by decide +kernel) rfl ⟨(Nat.le_of_ble_eq_true rfl), (Nat.le_of_ble_eq_true rfl)⟩ 0 (ci := 8) rfl rfl [0, 1] rfl rfl (Nat.le_of_ble_eq_true rfl) dX8_readSmith_55 ⟨(Nat.le_of_ble_eq_true rfl), (Nat.le_of_ble_eq_true rfl)⟩ rfl (fun r w1 H locs hQ V => ?_)
      obtain ⟨z_11, p2_12, rfl, rfl, f_13, f_14⟩ := hQ
      have V : gW D T A s [(o, .inr (8, [.int w0, .ref g1, .ref g2, .ref g3, .ref g4, .int (nI tp), .int (nI p2_12.1), .int (nI p2_12.2.1), .int (nI sz), .int (nI p2_12.2.2.1), .int p2_12.2.2.2.1, .int (nI p2_12.2.2.2.2.1), .int p2_12.2.2.2.2.2, .int w13, .int w14, .ref g15, .int w16, .ref g17, .int w18, .int w19, .ref g20, .int w21, .ref g22, .ref g23, .ref g24, .int w25, .int w26, .int w27, .ref g28, .ref g29, .int w30, .ref g31, .ref g32, .ref g33])), (g3, .inl (T 0, 900, .inl ft)), (g4, .inl (T 0, 94, .inl ff))] H locs := V _ [0, 0] rfl rfl rfl (by decide +kernel) rfl
      show W p l e _ s m args below meth c H locs _ _ _ (F0 m 58 ls [.int z_11])
      have v3 : z_11 = smHe ft sz ps := by rw [f_13, e2]; rfl
      have e3 : p2_12 = sm3 ft sz ps := by rw [f_14, e2]; rfl
      have hq3 : PI ft sz p2_12 := by rw [f_14]; exact PI_ti hq2
      obtain ⟨_, _, _, _, -⟩ := id hq3
      refine lv_istore (lv' := [(4, .int z_11), (3, .int z_7), (2, .int p2_3.2.2.2.1), (1, .int (nI n)), (0, .ref o)]) hx hb dX8_readSmith_58 hl (by decide) rfl (fun ls hl => ?_)
      refine lv_aload_n hx hb dX8_readSmith_60 rfl (lv_at hl 4 rfl) ?_
      refine lv_iconst (v := (nI 3)) hx hb dX8_readSmith_61 (by decide +kernel) ?_
      refine lv_iconst (v := (nI 0)) hx hb dX8_readSmith_62 (by decide +kernel) ?_
      refine lv_sipush (v := (nI 200)) hx hb dX8_readSmith_63 (by decide +kernel) ?_
      refine lv_bipush (v := (nI 20)) hx hb dX8_readSmith_66 (by decide +kernel) ?_
      refine g_callVU (nA := 4) hC V hl.1 (m_takesIf_f l D T p2_12 o 3 (nI 0) (nI 200) (nI 20) w0 g1 g2 g3 g4 tp sz w13 w14 g15 w16 g17 w18 w19 g20 w21 g22 g23 g24 w25 w26 w27 g28 g29 w30 g31 g32 g33 ft (by first | assumption | omega) (by first | assumption | omega) (by first | assumption | omega)) w_1063 w_1065 w_s43 w_9 w_1066 (by decide +kernel) rfl ⟨(Nat.le_of_ble_eq_true rfl), (Nat.le_of_ble_eq_true rfl)⟩ 0 (ci := 8) rfl rfl [0, 1] rfl rfl (Nat.le_of_ble_eq_true rfl) dX8_readSmith_68 ⟨(Nat.le_of_ble_eq_true rfl), (Nat.le_of_ble_eq_true rfl)⟩ rfl (fun r w1 H locs hQ V => ?_)
      obtain ⟨z_15, p2_16, rfl, rfl, f_17, f_18⟩ := hQ
      have V : gW D T A s [(o, .inr (8, [.int w0, .ref g1, .ref g2, .ref g3, .ref g4, .int (nI tp), .int (nI p2_16.1), .int (nI p2_16.2.1), .int (nI sz), .int (nI p2_16.2.2.1), .int p2_16.2.2.2.1, .int (nI p2_16.2.2.2.2.1), .int p2_16.2.2.2.2.2, .int w13, .int w14, .ref g15, .int w16, .ref g17, .int w18, .int w19, .ref g20, .int w21, .ref g22, .ref g23, .ref g24, .int w25, .int w26, .int w27, .ref g28, .ref g29, .int w30, .ref g31, .ref g32, .ref g33])), (g3, .inl (T 0, 900, .inl ft)), (g4, .inl (T 0, 94, .inl ff))] H locs := V _ [0, 0] rfl rfl rfl (by decide +kernel) rfl
      show W p l e _ s m args below meth c H locs _ _ _ (F0 m 71 ls [.int z_15])
      have v4 : z_15 = smLo ft sz ps := by rw [f_17, e3]; rfl
      have e4 : p2_16 = sm4 ft sz ps := by rw [f_18, e3]; rfl
      have hq4 : PI ft sz p2_16 := by rw [f_18]; exact PI_ti hq3
      obtain ⟨_, _, _, _, -⟩ := id hq4
      refine lv_istore (lv' := [(5, .int z_15), (4, .int z_11), (3, .int z_7), (2, .int p2_3.2.2.2.1), (1, .int (nI n)), (0, .ref o)]) hx hb dX8_readSmith_71 hl (by decide) rfl (fun ls hl => ?_)
      refine lv_aload_n hx hb dX8_readSmith_73 rfl (lv_at hl 5 rfl) ?_
      refine lv_iconst (v := (nI 4)) hx hb dX8_readSmith_74 (by decide +kernel) ?_
      refine lv_iload hx hb dX8_readSmith_75 (lv_at hl 0 rfl) ?_
      refine lv_sipush (v := (nI 200)) hx hb dX8_readSmith_77 (by decide +kernel) ?_
      refine lv_iload hx hb dX8_readSmith_80 (lv_at hl 0 rfl) ?_
      refine lv_bipush (v := (nI 100)) hx hb dX8_readSmith_82 (by decide +kernel) ?_
      refine lv_icmp_le (tgt := 92) hx hb dX8_readSmith_84 (by decide) (fun c_19 => ?_) (fun c_19 => ?_)
      · skip
        refine lv_bipush (v := (nI 100)) hx hb dX8_readSmith_92 (by decide +kernel) ?_
        refine g_callVU (nA := 4) hC V hl.1 (m_takesIf_f l D T p2_16 o 4 z_15 (nI 200) (nI 100) w0 g1 g2 g3 g4 tp sz w13 w14 g15 w16 g17 w18 w19 g20 w21 g22 g23 g24 w25 w26 w27 g28 g29 w30 g31 g32 g33 ft (by first | assumption | omega) (by first | assumption | omega) (by first | assumption | omega)) w_1063 w_1065 w_s43 w_9 w_1066 (by decide +kernel) rfl ⟨(Nat.le_of_ble_eq_true rfl), (Nat.le_of_ble_eq_true rfl)⟩ 0 (ci := 8) rfl rfl [0, 1] rfl rfl (Nat.le_of_ble_eq_true rfl) dX8_readSmith_94 ⟨(Nat.le_of_ble_eq_true rfl), (Nat.le_of_ble_eq_true rfl)⟩ rfl (fun r w1 H locs hQ V => ?_)
        obtain ⟨z_20, p2_21, rfl, rfl, f_22, f_23⟩ := hQ
        have V : gW D T A s [(o, .inr (8, [.int w0, .ref g1, .ref g2, .ref g3, .ref g4, .int (nI tp), .int (nI p2_21.1), .int (nI p2_21.2.1), .int (nI sz), .int (nI p2_21.2.2.1), .int p2_21.2.2.2.1, .int (nI p2_21.2.2.2.2.1), .int p2_21.2.2.2.2.2, .int w13, .int w14, .ref g15, .int w16, .ref g17, .int w18, .int w19, .ref g20, .int w21, .ref g22, .ref g23, .ref g24, .int w25, .int w26, .int w27, .ref g28, .ref g29, .int w30, .ref g31, .ref g32, .ref g33])), (g3, .inl (T 0, 900, .inl ft)), (g4, .inl (T 0, 94, .inl ff))] H locs := V _ [0, 0] rfl rfl rfl (by decide +kernel) rfl
        show W p l e _ s m args below meth c H locs _ _ _ (F0 m 97 ls [.int z_20])
        have v5 : z_20 = smHi ft sz ps := by rw [f_22, e4]; unfold smHi mx100; rw [← v4, if_neg (Int32.not_lt.mpr (by assumption))]
        have e5 : p2_21 = sm5 ft sz ps := by rw [f_23, e4, v4]; rfl
        have hq5 : PI ft sz p2_21 := by rw [f_23]; exact PI_ti hq4
        obtain ⟨_, _, _, _, -⟩ := id hq5
        refine lv_istore (lv' := [(6, .int z_20), (5, .int z_15), (4, .int z_11), (3, .int z_7), (2, .int p2_3.2.2.2.1), (1, .int (nI n)), (0, .ref o)]) hx hb dX8_readSmith_97 hl (by decide) rfl (fun ls hl => ?_)
        refine lv_aload_n hx hb dX8_readSmith_99 rfl (lv_at hl 6 rfl) ?_
        refine lv_iconst (v := (nI 5)) hx hb dX8_readSmith_100 (by decide +kernel) ?_
        refine lv_iconst (v := (nI 0)) hx hb dX8_readSmith_101 (by decide +kernel) ?_
        refine lv_bipush (v := (nI 20)) hx hb dX8_readSmith_102 (by decide +kernel) ?_
        refine lv_iconst (v := (nI 3)) hx hb dX8_readSmith_104 (by decide +kernel) ?_
        refine g_callVU (nA := 4) hC V hl.1 (m_takesIf_f l D T p2_21 o 5 (nI 0) (nI 20) (nI 3) w0 g1 g2 g3 g4 tp sz w13 w14 g15 w16 g17 w18 w19 g20 w21 g22 g23 g24 w25 w26 w27 g28 g29 w30 g31 g32 g33 ft (by first | assumption | omega) (by first | assumption | omega) (by first | assumption | omega)) w_1063 w_1065 w_s43 w_9 w_1066 (by decide +kernel) rfl ⟨(Nat.le_of_ble_eq_true rfl), (Nat.le_of_ble_eq_true rfl)⟩ 0 (ci := 8) rfl rfl [0, 1] rfl rfl (Nat.le_of_ble_eq_true rfl) dX8_readSmith_105 ⟨(Nat.le_of_ble_eq_true rfl), (Nat.le_of_ble_eq_true rfl)⟩ rfl (fun r w1 H locs hQ V => ?_)
        obtain ⟨z_24, p2_25, rfl, rfl, f_26, f_27⟩ := hQ
        have V : gW D T A s [(o, .inr (8, [.int w0, .ref g1, .ref g2, .ref g3, .ref g4, .int (nI tp), .int (nI p2_25.1), .int (nI p2_25.2.1), .int (nI sz), .int (nI p2_25.2.2.1), .int p2_25.2.2.2.1, .int (nI p2_25.2.2.2.2.1), .int p2_25.2.2.2.2.2, .int w13, .int w14, .ref g15, .int w16, .ref g17, .int w18, .int w19, .ref g20, .int w21, .ref g22, .ref g23, .ref g24, .int w25, .int w26, .int w27, .ref g28, .ref g29, .int w30, .ref g31, .ref g32, .ref g33])), (g3, .inl (T 0, 900, .inl ft)), (g4, .inl (T 0, 94, .inl ff))] H locs := V _ [0, 0] rfl rfl rfl (by decide +kernel) rfl
        show W p l e _ s m args below meth c H locs _ _ _ (F0 m 108 ls [.int z_24])
        have v6 : z_24 = smPi ft sz ps := by rw [f_26, e5]; rfl
        have e6 : p2_25 = sm6 ft sz ps := by rw [f_27, e5]; rfl
        have hq6 : PI ft sz p2_25 := by rw [f_27]; exact PI_ti hq5
        obtain ⟨_, _, _, _, -⟩ := id hq6
        refine lv_istore (lv' := [(7, .int z_24), (6, .int z_20), (5, .int z_15), (4, .int z_11), (3, .int z_7), (2, .int p2_3.2.2.2.1), (1, .int (nI n)), (0, .ref o)]) hx hb dX8_readSmith_108 hl (by decide) rfl (fun ls hl => ?_)
        refine lv_aload_n hx hb dX8_readSmith_110 rfl (lv_at hl 7 rfl) ?_
        refine g_get hC V (ci := 8) uwX8 0 rfl rfl 11 (by decide) w_923 rfl rfl dX8_readSmith_111 ?_
        refine lv_if_eq (tgt := 118) hx hb dX8_readSmith_114 (by decide) (fun c_28 => ?_) (fun c_28 => ?_)
        · skip
          rw [show (0 : Int32) = nI 0 from rfl] at c_28
          have c_28 := b_eq (by omega) (by omega) c_28
          refine lv_aload_n hx hb dX8_readSmith_118 rfl (lv_at hl 7 rfl) ?_
          refine g_get hC V (ci := 8) uwX8 0 rfl rfl 4 (by decide) w_916 rfl rfl dX8_readSmith_119 ?_
          refine lv_iconst (v := (nI 4)) hx hb dX8_readSmith_122 (by decide +kernel) ?_
          refine lv_iload_n hx hb dX8_readSmith_123 rfl (lv_at hl 6 rfl) ?_
          refine lv_iadd hx hb dX8_readSmith_124 ?_
          refine g_vi (y := (nI (4 + n))) (nI_add _ _) ?_
          refine lv_iload_n hx hb dX8_readSmith_125 rfl (lv_at hl 5 rfl) ?_
          refine g_iast hC V 2 rfl (vp_in_nI (by omega) (by omega)) (f' := (upd ff (4 + n) p2_3.2.2.2.1)) (by rw [nI_clamp (by omega)]) (ws' := [(o, .inr (8, [.int w0, .ref g1, .ref g2, .ref g3, .ref g4, .int (nI tp), .int (nI p2_25.1), .int (nI p2_25.2.1), .int (nI sz), .int (nI p2_25.2.2.1), .int p2_25.2.2.2.1, .int (nI p2_25.2.2.2.2.1), .int p2_25.2.2.2.2.2, .int w13, .int w14, .ref g15, .int w16, .ref g17, .int w18, .int w19, .ref g20, .int w21, .ref g22, .ref g23, .ref g24, .int w25, .int w26, .int w27, .ref g28, .ref g29, .int w30, .ref g31, .ref g32, .ref g33])), (g3, .inl (T 0, 900, .inl ft)), (g4, .inl (T 0, 94, .inl (upd ff (4 + n) p2_3.2.2.2.1)))]) rfl dX8_readSmith_126 (fun H locs V => ?_)
          refine lv_aload_n hx hb dX8_readSmith_127 rfl (lv_at hl 7 rfl) ?_
          refine g_get hC V (ci := 8) uwX8 0 rfl rfl 4 (by decide) w_916 rfl rfl dX8_readSmith_128 ?_
          refine lv_bipush (v := (nI 14)) hx hb dX8_readSmith_131 (by decide +kernel) ?_
          refine lv_iload_n hx hb dX8_readSmith_133 rfl (lv_at hl 6 rfl) ?_
          refine lv_iadd hx hb dX8_readSmith_134 ?_
          refine g_vi (y := (nI (14 + n))) (nI_add _ _) ?_
          refine lv_iload_n hx hb dX8_readSmith_135 rfl (lv_at hl 4 rfl) ?_
          refine g_iast hC V 2 rfl (vp_in_nI (by omega) (by omega)) (f' := (upd (upd ff (4 + n) p2_3.2.2.2.1) (14 + n) z_7)) (by rw [nI_clamp (by omega)]) (ws' := [(o, .inr (8, [.int w0, .ref g1, .ref g2, .ref g3, .ref g4, .int (nI tp), .int (nI p2_25.1), .int (nI p2_25.2.1), .int (nI sz), .int (nI p2_25.2.2.1), .int p2_25.2.2.2.1, .int (nI p2_25.2.2.2.2.1), .int p2_25.2.2.2.2.2, .int w13, .int w14, .ref g15, .int w16, .ref g17, .int w18, .int w19, .ref g20, .int w21, .ref g22, .ref g23, .ref g24, .int w25, .int w26, .int w27, .ref g28, .ref g29, .int w30, .ref g31, .ref g32, .ref g33])), (g3, .inl (T 0, 900, .inl ft)), (g4, .inl (T 0, 94, .inl (upd (upd ff (4 + n) p2_3.2.2.2.1) (14 + n) z_7)))]) rfl dX8_readSmith_136 (fun H locs V => ?_)
          refine lv_aload_n hx hb dX8_readSmith_137 rfl (lv_at hl 7 rfl) ?_
          refine g_get hC V (ci := 8) uwX8 0 rfl rfl 4 (by decide) w_916 rfl rfl dX8_readSmith_138 ?_
          refine lv_bipush (v := (nI 24)) hx hb dX8_readSmith_141 (by decide +kernel) ?_
          refine lv_iload_n hx hb dX8_readSmith_143 rfl (lv_at hl 6 rfl) ?_
          refine lv_iadd hx hb dX8_readSmith_144 ?_
          refine g_vi (y := (nI (24 + n))) (nI_add _ _) ?_
          refine lv_iload hx hb dX8_readSmith_145 (lv_at hl 3 rfl) ?_
          refine g_iast hC V 2 rfl (vp_in_nI (by omega) (by omega)) (f' := (upd (upd (upd ff (4 + n) p2_3.2.2.2.1) (14 + n) z_7) (24 + n) z_11)) (by rw [nI_clamp (by omega)]) (ws' := [(o, .inr (8, [.int w0, .ref g1, .ref g2, .ref g3, .ref g4, .int (nI tp), .int (nI p2_25.1), .int (nI p2_25.2.1), .int (nI sz), .int (nI p2_25.2.2.1), .int p2_25.2.2.2.1, .int (nI p2_25.2.2.2.2.1), .int p2_25.2.2.2.2.2, .int w13, .int w14, .ref g15, .int w16, .ref g17, .int w18, .int w19, .ref g20, .int w21, .ref g22, .ref g23, .ref g24, .int w25, .int w26, .int w27, .ref g28, .ref g29, .int w30, .ref g31, .ref g32, .ref g33])), (g3, .inl (T 0, 900, .inl ft)), (g4, .inl (T 0, 94, .inl (upd (upd (upd ff (4 + n) p2_3.2.2.2.1) (14 + n) z_7) (24 + n) z_11)))]) rfl dX8_readSmith_147 (fun H locs V => ?_)
          refine lv_aload_n hx hb dX8_readSmith_148 rfl (lv_at hl 7 rfl) ?_
          refine g_get hC V (ci := 8) uwX8 0 rfl rfl 4 (by decide) w_916 rfl rfl dX8_readSmith_149 ?_
          refine lv_bipush (v := (nI 34)) hx hb dX8_readSmith_152 (by decide +kernel) ?_
          refine lv_iload_n hx hb dX8_readSmith_154 rfl (lv_at hl 6 rfl) ?_
          refine lv_iadd hx hb dX8_readSmith_155 ?_
          refine g_vi (y := (nI (34 + n))) (nI_add _ _) ?_
          refine lv_iload hx hb dX8_readSmith_156 (lv_at hl 2 rfl) ?_
          refine g_iast hC V 2 rfl (vp_in_nI (by omega) (by omega)) (f' := (upd (upd (upd (upd ff (4 + n) p2_3.2.2.2.1) (14 + n) z_7) (24 + n) z_11) (34 + n) z_15)) (by rw [nI_clamp (by omega)]) (ws' := [(o, .inr (8, [.int w0, .ref g1, .ref g2, .ref g3, .ref g4, .int (nI tp), .int (nI p2_25.1), .int (nI p2_25.2.1), .int (nI sz), .int (nI p2_25.2.2.1), .int p2_25.2.2.2.1, .int (nI p2_25.2.2.2.2.1), .int p2_25.2.2.2.2.2, .int w13, .int w14, .ref g15, .int w16, .ref g17, .int w18, .int w19, .ref g20, .int w21, .ref g22, .ref g23, .ref g24, .int w25, .int w26, .int w27, .ref g28, .ref g29, .int w30, .ref g31, .ref g32, .ref g33])), (g3, .inl (T 0, 900, .inl ft)), (g4, .inl (T 0, 94, .inl (upd (upd (upd (upd ff (4 + n) p2_3.2.2.2.1) (14 + n) z_7) (24 + n) z_11) (34 + n) z_15)))]) rfl dX8_readSmith_158 (fun H locs V => ?_)
          refine lv_aload_n hx hb dX8_readSmith_159 rfl (lv_at hl 7 rfl) ?_
          refine g_get hC V (ci := 8) uwX8 0 rfl rfl 4 (by decide) w_916 rfl rfl dX8_readSmith_160 ?_
          refine lv_bipush (v := (nI 44)) hx hb dX8_readSmith_163 (by decide +kernel) ?_
          refine lv_iload_n hx hb dX8_readSmith_165 rfl (lv_at hl 6 rfl) ?_
          refine lv_iadd hx hb dX8_readSmith_166 ?_
          refine g_vi (y := (nI (44 + n))) (nI_add _ _) ?_
          refine lv_iload hx hb dX8_readSmith_167 (lv_at hl 1 rfl) ?_
          refine g_iast hC V 2 rfl (vp_in_nI (by omega) (by omega)) (f' := (upd (upd (upd (upd (upd ff (4 + n) p2_3.2.2.2.1) (14 + n) z_7) (24 + n) z_11) (34 + n) z_15) (44 + n) z_20)) (by rw [nI_clamp (by omega)]) (ws' := [(o, .inr (8, [.int w0, .ref g1, .ref g2, .ref g3, .ref g4, .int (nI tp), .int (nI p2_25.1), .int (nI p2_25.2.1), .int (nI sz), .int (nI p2_25.2.2.1), .int p2_25.2.2.2.1, .int (nI p2_25.2.2.2.2.1), .int p2_25.2.2.2.2.2, .int w13, .int w14, .ref g15, .int w16, .ref g17, .int w18, .int w19, .ref g20, .int w21, .ref g22, .ref g23, .ref g24, .int w25, .int w26, .int w27, .ref g28, .ref g29, .int w30, .ref g31, .ref g32, .ref g33])), (g3, .inl (T 0, 900, .inl ft)), (g4, .inl (T 0, 94, .inl (upd (upd (upd (upd (upd ff (4 + n) p2_3.2.2.2.1) (14 + n) z_7) (24 + n) z_11) (34 + n) z_15) (44 + n) z_20)))]) rfl dX8_readSmith_169 (fun H locs V => ?_)
          refine lv_aload_n hx hb dX8_readSmith_170 rfl (lv_at hl 7 rfl) ?_
          refine g_get hC V (ci := 8) uwX8 0 rfl rfl 4 (by decide) w_916 rfl rfl dX8_readSmith_171 ?_
          refine lv_bipush (v := (nI 54)) hx hb dX8_readSmith_174 (by decide +kernel) ?_
          refine lv_iload_n hx hb dX8_readSmith_176 rfl (lv_at hl 6 rfl) ?_
          refine lv_iadd hx hb dX8_readSmith_177 ?_
          refine g_vi (y := (nI (54 + n))) (nI_add _ _) ?_
          refine lv_iload hx hb dX8_readSmith_178 (lv_at hl 0 rfl) ?_
          refine g_iast hC V 2 rfl (vp_in_nI (by omega) (by omega)) (f' := (upd (upd (upd (upd (upd (upd ff (4 + n) p2_3.2.2.2.1) (14 + n) z_7) (24 + n) z_11) (34 + n) z_15) (44 + n) z_20) (54 + n) z_24)) (by rw [nI_clamp (by omega)]) (ws' := [(o, .inr (8, [.int w0, .ref g1, .ref g2, .ref g3, .ref g4, .int (nI tp), .int (nI p2_25.1), .int (nI p2_25.2.1), .int (nI sz), .int (nI p2_25.2.2.1), .int p2_25.2.2.2.1, .int (nI p2_25.2.2.2.2.1), .int p2_25.2.2.2.2.2, .int w13, .int w14, .ref g15, .int w16, .ref g17, .int w18, .int w19, .ref g20, .int w21, .ref g22, .ref g23, .ref g24, .int w25, .int w26, .int w27, .ref g28, .ref g29, .int w30, .ref g31, .ref g32, .ref g33])), (g3, .inl (T 0, 900, .inl ft)), (g4, .inl (T 0, 94, .inl (upd (upd (upd (upd (upd (upd ff (4 + n) p2_3.2.2.2.1) (14 + n) z_7) (24 + n) z_11) (34 + n) z_15) (44 + n) z_20) (54 + n) z_24)))]) rfl dX8_readSmith_180 (fun H locs V => ?_)
          refine lv_aload_n hx hb dX8_readSmith_181 rfl (lv_at hl 7 rfl) ?_
          refine g_get hC V (ci := 8) uwX8 0 rfl rfl 4 (by decide) w_916 rfl rfl dX8_readSmith_182 ?_
          refine lv_iconst (v := (nI 0)) hx hb dX8_readSmith_185 (by decide +kernel) ?_
          refine lv_dup2_11 hx hb dX8_readSmith_186 rfl rfl ?_
          refine g_iald hC V 2 rfl (vp_in_nI (by decide) (by decide)) (v := (nI n)) (by rw [nI_clamp (by decide), up_other (by omega), up_other (by omega), up_other (by omega), up_other (by omega), up_other (by omega), up_other (by omega)]; exact h_fr.2.1) dX8_readSmith_187 ?_
          refine lv_iconst (v := (nI 1)) hx hb dX8_readSmith_188 (by decide +kernel) ?_
          refine lv_iadd hx hb dX8_readSmith_189 ?_
          refine g_vi (y := (nI (n + 1))) (nI_add _ _) ?_
          refine g_iast hC V 2 rfl (vp_in_nI (by decide) (by decide)) (f' := (upd (upd (upd (upd (upd (upd (upd ff (4 + n) p2_3.2.2.2.1) (14 + n) z_7) (24 + n) z_11) (34 + n) z_15) (44 + n) z_20) (54 + n) z_24) 0 (nI (n + 1)))) (by rw [nI_clamp (by decide)]) (ws' := [(o, .inr (8, [.int w0, .ref g1, .ref g2, .ref g3, .ref g4, .int (nI tp), .int (nI p2_25.1), .int (nI p2_25.2.1), .int (nI sz), .int (nI p2_25.2.2.1), .int p2_25.2.2.2.1, .int (nI p2_25.2.2.2.2.1), .int p2_25.2.2.2.2.2, .int w13, .int w14, .ref g15, .int w16, .ref g17, .int w18, .int w19, .ref g20, .int w21, .ref g22, .ref g23, .ref g24, .int w25, .int w26, .int w27, .ref g28, .ref g29, .int w30, .ref g31, .ref g32, .ref g33])), (g3, .inl (T 0, 900, .inl ft)), (g4, .inl (T 0, 94, .inl (upd (upd (upd (upd (upd (upd (upd ff (4 + n) p2_3.2.2.2.1) (14 + n) z_7) (24 + n) z_11) (34 + n) z_15) (44 + n) z_20) (54 + n) z_24) 0 (nI (n + 1)))))]) rfl dX8_readSmith_190 (fun H locs V => ?_)
          exact g_vret (Qr := (q_m_readSmith_f T ps n o w0 g1 g2 g3 g4 tp sz w13 w14 g15 w16 g17 w18 w19 g20 w21 g22 g23 g24 w25 w26 w27 g28 g29 w30 g31 g32 g33 ft ff)) hC V ⟨(Nat.le_of_ble_eq_true rfl), (Nat.le_of_ble_eq_true rfl)⟩ ⟨p2_25, (upd (upd (upd (upd (upd (upd (upd ff (4 + n) p2_3.2.2.2.1) (14 + n) z_7) (24 + n) z_11) (34 + n) z_15) (44 + n) z_20) (54 + n) z_24) 0 (nI (n + 1))), rfl, rfl, (e6.trans (smS_n (by omega)).symm), (by rw [smF_0 (by omega) (by rw [← e6]; omega)]; unfold smU; rw [← v1, ← v2, ← v3, ← v4, ← v5, ← v6])⟩ dX8_readSmith_191
        · skip
          rw [show (0 : Int32) = nI 0 from rfl] at c_28
          have c_28 := b_ne (by omega) (by omega) c_28
          exact g_vret (Qr := (q_m_readSmith_f T ps n o w0 g1 g2 g3 g4 tp sz w13 w14 g15 w16 g17 w18 w19 g20 w21 g22 g23 g24 w25 w26 w27 g28 g29 w30 g31 g32 g33 ft ff)) hC V ⟨(Nat.le_of_ble_eq_true rfl), (Nat.le_of_ble_eq_true rfl)⟩ ⟨p2_25, ff, rfl, rfl, (e6.trans (smS_n (by omega)).symm), (smF_w (by omega) (by rw [← e6]; omega)).symm⟩ dX8_readSmith_117
      · skip
        refine lv_iload hx hb dX8_readSmith_87 (lv_at hl 0 rfl) ?_
        refine lv_goto (tgt := 94) hx hb dX8_readSmith_89 (by decide) ?_
        refine g_callVU (nA := 4) hC V hl.1 (m_takesIf_f l D T p2_16 o 4 z_15 (nI 200) z_15 w0 g1 g2 g3 g4 tp sz w13 w14 g15 w16 g17 w18 w19 g20 w21 g22 g23 g24 w25 w26 w27 g28 g29 w30 g31 g32 g33 ft (by first | assumption | omega) (by first | assumption | omega) (by first | assumption | omega)) w_1063 w_1065 w_s43 w_9 w_1066 (by decide +kernel) rfl ⟨(Nat.le_of_ble_eq_true rfl), (Nat.le_of_ble_eq_true rfl)⟩ 0 (ci := 8) rfl rfl [0, 1] rfl rfl (Nat.le_of_ble_eq_true rfl) dX8_readSmith_94 ⟨(Nat.le_of_ble_eq_true rfl), (Nat.le_of_ble_eq_true rfl)⟩ rfl (fun r w1 H locs hQ V => ?_)
        obtain ⟨z_29, p2_30, rfl, rfl, f_31, f_32⟩ := hQ
        have V : gW D T A s [(o, .inr (8, [.int w0, .ref g1, .ref g2, .ref g3, .ref g4, .int (nI tp), .int (nI p2_30.1), .int (nI p2_30.2.1), .int (nI sz), .int (nI p2_30.2.2.1), .int p2_30.2.2.2.1, .int (nI p2_30.2.2.2.2.1), .int p2_30.2.2.2.2.2, .int w13, .int w14, .ref g15, .int w16, .ref g17, .int w18, .int w19, .ref g20, .int w21, .ref g22, .ref g23, .ref g24, .int w25, .int w26, .int w27, .ref g28, .ref g29, .int w30, .ref g31, .ref g32, .ref g33])), (g3, .inl (T 0, 900, .inl ft)), (g4, .inl (T 0, 94, .inl ff))] H locs := V _ [0, 0] rfl rfl rfl (by decide +kernel) rfl
        show W p l e _ s m args below meth c H locs _ _ _ (F0 m 97 ls [.int z_29])
        have v5 : z_29 = smHi ft sz ps := by rw [f_31, e4]; unfold smHi mx100; rw [← v4, if_pos (Int32.not_le.mp (by assumption))]
        have e5 : p2_30 = sm5 ft sz ps := by rw [f_32, e4, v4]; rfl
        have hq5 : PI ft sz p2_30 := by rw [f_32]; exact PI_ti hq4
        obtain ⟨_, _, _, _, -⟩ := id hq5
        refine lv_istore (lv' := [(6, .int z_29), (5, .int z_15), (4, .int z_11), (3, .int z_7), (2, .int p2_3.2.2.2.1), (1, .int (nI n)), (0, .ref o)]) hx hb dX8_readSmith_97 hl (by decide) rfl (fun ls hl => ?_)
        refine lv_aload_n hx hb dX8_readSmith_99 rfl (lv_at hl 6 rfl) ?_
        refine lv_iconst (v := (nI 5)) hx hb dX8_readSmith_100 (by decide +kernel) ?_
        refine lv_iconst (v := (nI 0)) hx hb dX8_readSmith_101 (by decide +kernel) ?_
        refine lv_bipush (v := (nI 20)) hx hb dX8_readSmith_102 (by decide +kernel) ?_
        refine lv_iconst (v := (nI 3)) hx hb dX8_readSmith_104 (by decide +kernel) ?_
        refine g_callVU (nA := 4) hC V hl.1 (m_takesIf_f l D T p2_30 o 5 (nI 0) (nI 20) (nI 3) w0 g1 g2 g3 g4 tp sz w13 w14 g15 w16 g17 w18 w19 g20 w21 g22 g23 g24 w25 w26 w27 g28 g29 w30 g31 g32 g33 ft (by first | assumption | omega) (by first | assumption | omega) (by first | assumption | omega)) w_1063 w_1065 w_s43 w_9 w_1066 (by decide +kernel) rfl ⟨(Nat.le_of_ble_eq_true rfl), (Nat.le_of_ble_eq_true rfl)⟩ 0 (ci := 8) rfl rfl [0, 1] rfl rfl (Nat.le_of_ble_eq_true rfl) dX8_readSmith_105 ⟨(Nat.le_of_ble_eq_true rfl), (Nat.le_of_ble_eq_true rfl)⟩ rfl (fun r w1 H locs hQ V => ?_)
        obtain ⟨z_33, p2_34, rfl, rfl, f_35, f_36⟩ := hQ
        have V : gW D T A s [(o, .inr (8, [.int w0, .ref g1, .ref g2, .ref g3, .ref g4, .int (nI tp), .int (nI p2_34.1), .int (nI p2_34.2.1), .int (nI sz), .int (nI p2_34.2.2.1), .int p2_34.2.2.2.1, .int (nI p2_34.2.2.2.2.1), .int p2_34.2.2.2.2.2, .int w13, .int w14, .ref g15, .int w16, .ref g17, .int w18, .int w19, .ref g20, .int w21, .ref g22, .ref g23, .ref g24, .int w25, .int w26, .int w27, .ref g28, .ref g29, .int w30, .ref g31, .ref g32, .ref g33])), (g3, .inl (T 0, 900, .inl ft)), (g4, .inl (T 0, 94, .inl ff))] H locs := V _ [0, 0] rfl rfl rfl (by decide +kernel) rfl
        show W p l e _ s m args below meth c H locs _ _ _ (F0 m 108 ls [.int z_33])
        have v6 : z_33 = smPi ft sz ps := by rw [f_35, e5]; rfl
        have e6 : p2_34 = sm6 ft sz ps := by rw [f_36, e5]; rfl
        have hq6 : PI ft sz p2_34 := by rw [f_36]; exact PI_ti hq5
        obtain ⟨_, _, _, _, -⟩ := id hq6
        refine lv_istore (lv' := [(7, .int z_33), (6, .int z_29), (5, .int z_15), (4, .int z_11), (3, .int z_7), (2, .int p2_3.2.2.2.1), (1, .int (nI n)), (0, .ref o)]) hx hb dX8_readSmith_108 hl (by decide) rfl (fun ls hl => ?_)
        refine lv_aload_n hx hb dX8_readSmith_110 rfl (lv_at hl 7 rfl) ?_
        refine g_get hC V (ci := 8) uwX8 0 rfl rfl 11 (by decide) w_923 rfl rfl dX8_readSmith_111 ?_
        refine lv_if_eq (tgt := 118) hx hb dX8_readSmith_114 (by decide) (fun c_37 => ?_) (fun c_37 => ?_)
        · skip
          rw [show (0 : Int32) = nI 0 from rfl] at c_37
          have c_37 := b_eq (by omega) (by omega) c_37
          refine lv_aload_n hx hb dX8_readSmith_118 rfl (lv_at hl 7 rfl) ?_
          refine g_get hC V (ci := 8) uwX8 0 rfl rfl 4 (by decide) w_916 rfl rfl dX8_readSmith_119 ?_
          refine lv_iconst (v := (nI 4)) hx hb dX8_readSmith_122 (by decide +kernel) ?_
          refine lv_iload_n hx hb dX8_readSmith_123 rfl (lv_at hl 6 rfl) ?_
          refine lv_iadd hx hb dX8_readSmith_124 ?_
          refine g_vi (y := (nI (4 + n))) (nI_add _ _) ?_
          refine lv_iload_n hx hb dX8_readSmith_125 rfl (lv_at hl 5 rfl) ?_
          refine g_iast hC V 2 rfl (vp_in_nI (by omega) (by omega)) (f' := (upd ff (4 + n) p2_3.2.2.2.1)) (by rw [nI_clamp (by omega)]) (ws' := [(o, .inr (8, [.int w0, .ref g1, .ref g2, .ref g3, .ref g4, .int (nI tp), .int (nI p2_34.1), .int (nI p2_34.2.1), .int (nI sz), .int (nI p2_34.2.2.1), .int p2_34.2.2.2.1, .int (nI p2_34.2.2.2.2.1), .int p2_34.2.2.2.2.2, .int w13, .int w14, .ref g15, .int w16, .ref g17, .int w18, .int w19, .ref g20, .int w21, .ref g22, .ref g23, .ref g24, .int w25, .int w26, .int w27, .ref g28, .ref g29, .int w30, .ref g31, .ref g32, .ref g33])), (g3, .inl (T 0, 900, .inl ft)), (g4, .inl (T 0, 94, .inl (upd ff (4 + n) p2_3.2.2.2.1)))]) rfl dX8_readSmith_126 (fun H locs V => ?_)
          refine lv_aload_n hx hb dX8_readSmith_127 rfl (lv_at hl 7 rfl) ?_
          refine g_get hC V (ci := 8) uwX8 0 rfl rfl 4 (by decide) w_916 rfl rfl dX8_readSmith_128 ?_
          refine lv_bipush (v := (nI 14)) hx hb dX8_readSmith_131 (by decide +kernel) ?_
          refine lv_iload_n hx hb dX8_readSmith_133 rfl (lv_at hl 6 rfl) ?_
          refine lv_iadd hx hb dX8_readSmith_134 ?_
          refine g_vi (y := (nI (14 + n))) (nI_add _ _) ?_
          refine lv_iload_n hx hb dX8_readSmith_135 rfl (lv_at hl 4 rfl) ?_
          refine g_iast hC V 2 rfl (vp_in_nI (by omega) (by omega)) (f' := (upd (upd ff (4 + n) p2_3.2.2.2.1) (14 + n) z_7)) (by rw [nI_clamp (by omega)]) (ws' := [(o, .inr (8, [.int w0, .ref g1, .ref g2, .ref g3, .ref g4, .int (nI tp), .int (nI p2_34.1), .int (nI p2_34.2.1), .int (nI sz), .int (nI p2_34.2.2.1), .int p2_34.2.2.2.1, .int (nI p2_34.2.2.2.2.1), .int p2_34.2.2.2.2.2, .int w13, .int w14, .ref g15, .int w16, .ref g17, .int w18, .int w19, .ref g20, .int w21, .ref g22, .ref g23, .ref g24, .int w25, .int w26, .int w27, .ref g28, .ref g29, .int w30, .ref g31, .ref g32, .ref g33])), (g3, .inl (T 0, 900, .inl ft)), (g4, .inl (T 0, 94, .inl (upd (upd ff (4 + n) p2_3.2.2.2.1) (14 + n) z_7)))]) rfl dX8_readSmith_136 (fun H locs V => ?_)
          refine lv_aload_n hx hb dX8_readSmith_137 rfl (lv_at hl 7 rfl) ?_
          refine g_get hC V (ci := 8) uwX8 0 rfl rfl 4 (by decide) w_916 rfl rfl dX8_readSmith_138 ?_
          refine lv_bipush (v := (nI 24)) hx hb dX8_readSmith_141 (by decide +kernel) ?_
          refine lv_iload_n hx hb dX8_readSmith_143 rfl (lv_at hl 6 rfl) ?_
          refine lv_iadd hx hb dX8_readSmith_144 ?_
          refine g_vi (y := (nI (24 + n))) (nI_add _ _) ?_
          refine lv_iload hx hb dX8_readSmith_145 (lv_at hl 3 rfl) ?_
          refine g_iast hC V 2 rfl (vp_in_nI (by omega) (by omega)) (f' := (upd (upd (upd ff (4 + n) p2_3.2.2.2.1) (14 + n) z_7) (24 + n) z_11)) (by rw [nI_clamp (by omega)]) (ws' := [(o, .inr (8, [.int w0, .ref g1, .ref g2, .ref g3, .ref g4, .int (nI tp), .int (nI p2_34.1), .int (nI p2_34.2.1), .int (nI sz), .int (nI p2_34.2.2.1), .int p2_34.2.2.2.1, .int (nI p2_34.2.2.2.2.1), .int p2_34.2.2.2.2.2, .int w13, .int w14, .ref g15, .int w16, .ref g17, .int w18, .int w19, .ref g20, .int w21, .ref g22, .ref g23, .ref g24, .int w25, .int w26, .int w27, .ref g28, .ref g29, .int w30, .ref g31, .ref g32, .ref g33])), (g3, .inl (T 0, 900, .inl ft)), (g4, .inl (T 0, 94, .inl (upd (upd (upd ff (4 + n) p2_3.2.2.2.1) (14 + n) z_7) (24 + n) z_11)))]) rfl dX8_readSmith_147 (fun H locs V => ?_)
          refine lv_aload_n hx hb dX8_readSmith_148 rfl (lv_at hl 7 rfl) ?_
          refine g_get hC V (ci := 8) uwX8 0 rfl rfl 4 (by decide) w_916 rfl rfl dX8_readSmith_149 ?_
          refine lv_bipush (v := (nI 34)) hx hb dX8_readSmith_152 (by decide +kernel) ?_
          refine lv_iload_n hx hb dX8_readSmith_154 rfl (lv_at hl 6 rfl) ?_
          refine lv_iadd hx hb dX8_readSmith_155 ?_
          refine g_vi (y := (nI (34 + n))) (nI_add _ _) ?_
          refine lv_iload hx hb dX8_readSmith_156 (lv_at hl 2 rfl) ?_
          refine g_iast hC V 2 rfl (vp_in_nI (by omega) (by omega)) (f' := (upd (upd (upd (upd ff (4 + n) p2_3.2.2.2.1) (14 + n) z_7) (24 + n) z_11) (34 + n) z_15)) (by rw [nI_clamp (by omega)]) (ws' := [(o, .inr (8, [.int w0, .ref g1, .ref g2, .ref g3, .ref g4, .int (nI tp), .int (nI p2_34.1), .int (nI p2_34.2.1), .int (nI sz), .int (nI p2_34.2.2.1), .int p2_34.2.2.2.1, .int (nI p2_34.2.2.2.2.1), .int p2_34.2.2.2.2.2, .int w13, .int w14, .ref g15, .int w16, .ref g17, .int w18, .int w19, .ref g20, .int w21, .ref g22, .ref g23, .ref g24, .int w25, .int w26, .int w27, .ref g28, .ref g29, .int w30, .ref g31, .ref g32, .ref g33])), (g3, .inl (T 0, 900, .inl ft)), (g4, .inl (T 0, 94, .inl (upd (upd (upd (upd ff (4 + n) p2_3.2.2.2.1) (14 + n) z_7) (24 + n) z_11) (34 + n) z_15)))]) rfl dX8_readSmith_158 (fun H locs V => ?_)
          refine lv_aload_n hx hb dX8_readSmith_159 rfl (lv_at hl 7 rfl) ?_
          refine g_get hC V (ci := 8) uwX8 0 rfl rfl 4 (by decide) w_916 rfl rfl dX8_readSmith_160 ?_
          refine lv_bipush (v := (nI 44)) hx hb dX8_readSmith_163 (by decide +kernel) ?_
          refine lv_iload_n hx hb dX8_readSmith_165 rfl (lv_at hl 6 rfl) ?_
          refine lv_iadd hx hb dX8_readSmith_166 ?_
          refine g_vi (y := (nI (44 + n))) (nI_add _ _) ?_
          refine lv_iload hx hb dX8_readSmith_167 (lv_at hl 1 rfl) ?_
          refine g_iast hC V 2 rfl (vp_in_nI (by omega) (by omega)) (f' := (upd (upd (upd (upd (upd ff (4 + n) p2_3.2.2.2.1) (14 + n) z_7) (24 + n) z_11) (34 + n) z_15) (44 + n) z_29)) (by rw [nI_clamp (by omega)]) (ws' := [(o, .inr (8, [.int w0, .ref g1, .ref g2, .ref g3, .ref g4, .int (nI tp), .int (nI p2_34.1), .int (nI p2_34.2.1), .int (nI sz), .int (nI p2_34.2.2.1), .int p2_34.2.2.2.1, .int (nI p2_34.2.2.2.2.1), .int p2_34.2.2.2.2.2, .int w13, .int w14, .ref g15, .int w16, .ref g17, .int w18, .int w19, .ref g20, .int w21, .ref g22, .ref g23, .ref g24, .int w25, .int w26, .int w27, .ref g28, .ref g29, .int w30, .ref g31, .ref g32, .ref g33])), (g3, .inl (T 0, 900, .inl ft)), (g4, .inl (T 0, 94, .inl (upd (upd (upd (upd (upd ff (4 + n) p2_3.2.2.2.1) (14 + n) z_7) (24 + n) z_11) (34 + n) z_15) (44 + n) z_29)))]) rfl dX8_readSmith_169 (fun H locs V => ?_)
          refine lv_aload_n hx hb dX8_readSmith_170 rfl (lv_at hl 7 rfl) ?_
          refine g_get hC V (ci := 8) uwX8 0 rfl rfl 4 (by decide) w_916 rfl rfl dX8_readSmith_171 ?_
          refine lv_bipush (v := (nI 54)) hx hb dX8_readSmith_174 (by decide +kernel) ?_
          refine lv_iload_n hx hb dX8_readSmith_176 rfl (lv_at hl 6 rfl) ?_
          refine lv_iadd hx hb dX8_readSmith_177 ?_
          refine g_vi (y := (nI (54 + n))) (nI_add _ _) ?_
          refine lv_iload hx hb dX8_readSmith_178 (lv_at hl 0 rfl) ?_
          refine g_iast hC V 2 rfl (vp_in_nI (by omega) (by omega)) (f' := (upd (upd (upd (upd (upd (upd ff (4 + n) p2_3.2.2.2.1) (14 + n) z_7) (24 + n) z_11) (34 + n) z_15) (44 + n) z_29) (54 + n) z_33)) (by rw [nI_clamp (by omega)]) (ws' := [(o, .inr (8, [.int w0, .ref g1, .ref g2, .ref g3, .ref g4, .int (nI tp), .int (nI p2_34.1), .int (nI p2_34.2.1), .int (nI sz), .int (nI p2_34.2.2.1), .int p2_34.2.2.2.1, .int (nI p2_34.2.2.2.2.1), .int p2_34.2.2.2.2.2, .int w13, .int w14, .ref g15, .int w16, .ref g17, .int w18, .int w19, .ref g20, .int w21, .ref g22, .ref g23, .ref g24, .int w25, .int w26, .int w27, .ref g28, .ref g29, .int w30, .ref g31, .ref g32, .ref g33])), (g3, .inl (T 0, 900, .inl ft)), (g4, .inl (T 0, 94, .inl (upd (upd (upd (upd (upd (upd ff (4 + n) p2_3.2.2.2.1) (14 + n) z_7) (24 + n) z_11) (34 + n) z_15) (44 + n) z_29) (54 + n) z_33)))]) rfl dX8_readSmith_180 (fun H locs V => ?_)
          refine lv_aload_n hx hb dX8_readSmith_181 rfl (lv_at hl 7 rfl) ?_
          refine g_get hC V (ci := 8) uwX8 0 rfl rfl 4 (by decide) w_916 rfl rfl dX8_readSmith_182 ?_
          refine lv_iconst (v := (nI 0)) hx hb dX8_readSmith_185 (by decide +kernel) ?_
          refine lv_dup2_11 hx hb dX8_readSmith_186 rfl rfl ?_
          refine g_iald hC V 2 rfl (vp_in_nI (by decide) (by decide)) (v := (nI n)) (by rw [nI_clamp (by decide), up_other (by omega), up_other (by omega), up_other (by omega), up_other (by omega), up_other (by omega), up_other (by omega)]; exact h_fr.2.1) dX8_readSmith_187 ?_
          refine lv_iconst (v := (nI 1)) hx hb dX8_readSmith_188 (by decide +kernel) ?_
          refine lv_iadd hx hb dX8_readSmith_189 ?_
          refine g_vi (y := (nI (n + 1))) (nI_add _ _) ?_
          refine g_iast hC V 2 rfl (vp_in_nI (by decide) (by decide)) (f' := (upd (upd (upd (upd (upd (upd (upd ff (4 + n) p2_3.2.2.2.1) (14 + n) z_7) (24 + n) z_11) (34 + n) z_15) (44 + n) z_29) (54 + n) z_33) 0 (nI (n + 1)))) (by rw [nI_clamp (by decide)]) (ws' := [(o, .inr (8, [.int w0, .ref g1, .ref g2, .ref g3, .ref g4, .int (nI tp), .int (nI p2_34.1), .int (nI p2_34.2.1), .int (nI sz), .int (nI p2_34.2.2.1), .int p2_34.2.2.2.1, .int (nI p2_34.2.2.2.2.1), .int p2_34.2.2.2.2.2, .int w13, .int w14, .ref g15, .int w16, .ref g17, .int w18, .int w19, .ref g20, .int w21, .ref g22, .ref g23, .ref g24, .int w25, .int w26, .int w27, .ref g28, .ref g29, .int w30, .ref g31, .ref g32, .ref g33])), (g3, .inl (T 0, 900, .inl ft)), (g4, .inl (T 0, 94, .inl (upd (upd (upd (upd (upd (upd (upd ff (4 + n) p2_3.2.2.2.1) (14 + n) z_7) (24 + n) z_11) (34 + n) z_15) (44 + n) z_29) (54 + n) z_33) 0 (nI (n + 1)))))]) rfl dX8_readSmith_190 (fun H locs V => ?_)
          exact g_vret (Qr := (q_m_readSmith_f T ps n o w0 g1 g2 g3 g4 tp sz w13 w14 g15 w16 g17 w18 w19 g20 w21 g22 g23 g24 w25 w26 w27 g28 g29 w30 g31 g32 g33 ft ff)) hC V ⟨(Nat.le_of_ble_eq_true rfl), (Nat.le_of_ble_eq_true rfl)⟩ ⟨p2_34, (upd (upd (upd (upd (upd (upd (upd ff (4 + n) p2_3.2.2.2.1) (14 + n) z_7) (24 + n) z_11) (34 + n) z_15) (44 + n) z_29) (54 + n) z_33) 0 (nI (n + 1))), rfl, rfl, (e6.trans (smS_n (by omega)).symm), (by rw [smF_0 (by omega) (by rw [← e6]; omega)]; unfold smU; rw [← v1, ← v2, ← v3, ← v4, ← v5, ← v6])⟩ dX8_readSmith_191
        · skip
          rw [show (0 : Int32) = nI 0 from rfl] at c_37
          have c_37 := b_ne (by omega) (by omega) c_37
          exact g_vret (Qr := (q_m_readSmith_f T ps n o w0 g1 g2 g3 g4 tp sz w13 w14 g15 w16 g17 w18 w19 g20 w21 g22 g23 g24 w25 w26 w27 g28 g29 w30 g31 g32 g33 ft ff)) hC V ⟨(Nat.le_of_ble_eq_true rfl), (Nat.le_of_ble_eq_true rfl)⟩ ⟨p2_34, ff, rfl, rfl, (e6.trans (smS_n (by omega)).symm), (smF_w (by omega) (by rw [← e6]; omega)).symm⟩ dX8_readSmith_117
    · skip
      rw [show (0 : Int32) = nI 0 from rfl] at c_2
      have c_2 := b_ne (by omega) (by omega) c_2
      exact (by omega : False).elim
  · skip
    have c_1 := b_eq (by omega) (by omega) c_1
    refine lv_aload_n hx hb dX8_readSmith_13 rfl (lv_at hl 1 rfl) ?_
    refine lv_iconst (v := (nI 4)) hx hb dX8_readSmith_14 (by decide +kernel) ?_
    refine g_callVU (nA := 1) hC V hl.1 (m_fails_f l D T ps sz o 4 w0 g1 g2 g3 g4 tp w13 w14 g15 w16 g17 w18 w19 g20 w21 g22 g23 g24 w25 w26 w27 g28 g29 w30 g31 g32 g33 (by first | assumption | omega) (by first | assumption | omega)) w_1055 w_1057 w_s41 w_9 w_1058 (by decide +kernel) rfl ⟨(Nat.le_of_ble_eq_true rfl), (Nat.le_of_ble_eq_true rfl)⟩ 0 (ci := 8) rfl rfl [0] rfl rfl (Nat.le_of_ble_eq_true rfl) dX8_readSmith_15 ⟨(Nat.le_of_ble_eq_true rfl), (Nat.le_of_ble_eq_true rfl)⟩ rfl (fun r w1 H locs hQ V => ?_)
    obtain ⟨p2_38, rfl, rfl, f_39⟩ := hQ
    have V : gW D T A s [(o, .inr (8, [.int w0, .ref g1, .ref g2, .ref g3, .ref g4, .int (nI tp), .int (nI p2_38.1), .int (nI p2_38.2.1), .int (nI sz), .int (nI p2_38.2.2.1), .int p2_38.2.2.2.1, .int (nI p2_38.2.2.2.2.1), .int p2_38.2.2.2.2.2, .int w13, .int w14, .ref g15, .int w16, .ref g17, .int w18, .int w19, .ref g20, .int w21, .ref g22, .ref g23, .ref g24, .int w25, .int w26, .int w27, .ref g28, .ref g29, .int w30, .ref g31, .ref g32, .ref g33])), (g3, .inl (T 0, 900, .inl ft)), (g4, .inl (T 0, 94, .inl ff))] H locs := V _ [0] rfl rfl rfl (by decide +kernel) rfl
    show W p l e _ s m args below meth c H locs _ _ _ (F0 m 18 ls [])
    have hwp2_38 : ¬ p2_38.2.2.2.2.1 = 0 := by rw [f_39]; exact fa_w (by decide)
    have hPp2_38 : PI ft sz p2_38 := by rw [f_39]; exact PI_fa h_p (by decide)
    obtain ⟨_, _, _, _, -⟩ := id hPp2_38
    refine lv_aload_n hx hb dX8_readSmith_18 rfl (lv_at hl 1 rfl) ?_
    refine g_get hC V (ci := 8) uwX8 0 rfl rfl 11 (by decide) w_923 rfl rfl dX8_readSmith_19 ?_
    refine lv_if_eq (tgt := 26) hx hb dX8_readSmith_22 (by decide) (fun c_40 => ?_) (fun c_40 => ?_)
    · skip
      rw [show (0 : Int32) = nI 0 from rfl] at c_40
      have c_40 := b_eq (by omega) (by omega) c_40
      exact (by omega : False).elim
    · skip
      rw [show (0 : Int32) = nI 0 from rfl] at c_40
      have c_40 := b_ne (by omega) (by omega) c_40
      exact g_vret (Qr := (q_m_readSmith_f T ps n o w0 g1 g2 g3 g4 tp sz w13 w14 g15 w16 g17 w18 w19 g20 w21 g22 g23 g24 w25 w26 w27 g28 g29 w30 g31 g32 g33 ft ff)) hC V ⟨(Nat.le_of_ble_eq_true rfl), (Nat.le_of_ble_eq_true rfl)⟩ ⟨p2_38, ff, rfl, rfl, (f_39.trans (smS_10 (by omega)).symm), (smF_10 (by omega)).symm⟩ dX8_readSmith_25

def q_m_readBlows_f (T : Nat → ClassId) (ps : PS) (n : Nat) (o : Nat) (w0 : Int32) (g1 : Nat) (g2 : Nat) (g3 : Nat) (g4 : Nat) (tp : Nat) (sz : Nat) (w13 : Int32) (w14 : Int32) (g15 : Nat) (w16 : Int32) (g17 : Nat) (w18 : Int32) (w19 : Int32) (g20 : Nat) (w21 : Int32) (g22 : Nat) (g23 : Nat) (g24 : Nat) (w25 : Int32) (w26 : Int32) (w27 : Int32) (g28 : Nat) (g29 : Nat) (w30 : Int32) (g31 : Nat) (g32 : Nat) (g33 : Nat) (ft : Nat → Int32) (ff : Nat → Int32) : Option Value → va_W → Prop := fun rr ww => (∃ (p2 : PS) (gf : Nat → Int32), rr = none ∧ ww = [(o, .inr (8, [.int w0, .ref g1, .ref g2, .ref g3, .ref g4, .int (nI tp), .int (nI p2.1), .int (nI p2.2.1), .int (nI sz), .int (nI p2.2.2.1), .int p2.2.2.2.1, .int (nI p2.2.2.2.2.1), .int p2.2.2.2.2.2, .int w13, .int w14, .ref g15, .int w16, .ref g17, .int w18, .int w19, .ref g20, .int w21, .ref g22, .ref g23, .ref g24, .int w25, .int w26, .int w27, .ref g28, .ref g29, .int w30, .ref g31, .ref g32, .ref g33])), (g3, .inl (T 0, 900, .inl ft)), (g4, .inl (T 0, 94, .inl gf))] ∧ p2 = blS ft sz n ps ∧ gf = blF ft sz n ps ff)
set_option maxHeartbeats 4000000 in
set_option maxRecDepth 100000 in
theorem m_readBlows_f (l : Launch) (D : va_G) (T : Nat → ClassId) (ps : PS) (n : Nat) (o : Nat) (w0 : Int32) (g1 : Nat) (g2 : Nat) (g3 : Nat) (g4 : Nat) (tp : Nat) (sz : Nat) (w13 : Int32) (w14 : Int32) (g15 : Nat) (w16 : Int32) (g17 : Nat) (w18 : Int32) (w19 : Int32) (g20 : Nat) (w21 : Int32) (g22 : Nat) (g23 : Nat) (g24 : Nat) (w25 : Int32) (w26 : Int32) (w27 : Int32) (g28 : Nat) (g29 : Nat) (w30 : Int32) (g31 : Nat) (g32 : Nat) (g33 : Nat) (ft : Nat → Int32) (ff : Nat → Int32) (h_sz : sz ≤ 900) (h_p : PI ft sz ps) (h_fr : FR n ff) : Ct l yX8_readBlows cX8_readBlows 3 none 7 0 0 D T [.ref o] [(o, .inr (8, [.int w0, .ref g1, .ref g2, .ref g3, .ref g4, .int (nI tp), .int (nI ps.1), .int (nI ps.2.1), .int (nI sz), .int (nI ps.2.2.1), .int ps.2.2.2.1, .int (nI ps.2.2.2.2.1), .int ps.2.2.2.2.2, .int w13, .int w14, .ref g15, .int w16, .ref g17, .int w18, .int w19, .ref g20, .int w21, .ref g22, .ref g23, .ref g24, .int w25, .int w26, .int w27, .ref g28, .ref g29, .int w30, .ref g31, .ref g32, .ref g33])), (g3, .inl (T 0, 900, .inl ft)), (g4, .inl (T 0, 94, .inl ff))] (q_m_readBlows_f T ps n o w0 g1 g2 g3 g4 tp sz w13 w14 g15 w16 g17 w18 w19 g20 w21 g22 g23 g24 w25 w26 w27 g28 g29 w30 g31 g32 g33 ft ff) := by
  refine Ct.of (cc := cX8_readBlows) (maxL := 3) (ret := none) (by decide) (Nat.le_of_ble_eq_true rfl) ?_
  intro p e s m args below meth c A ls hC hnm V hl
  obtain ⟨hx, hb, hr, hml, hown, hts, hlocks⟩ := id hC
  generalize hH : s.heap = H at V ⊢
  clear hH
  have hl : lv_has ls 3 [(0, .ref o)] := hl
  generalize hlo : ([] : List Loc) = locs at V ⊢
  clear hlo
  have hn10 := h_fr.1
  obtain ⟨_, _, _, _, -⟩ := id h_p
  refine lv_aload_n hx hb dX8_readBlows_0 rfl (lv_at hl 0 rfl) ?_
  refine lv_iconst (v := (nI 0)) hx hb dX8_readBlows_1 (by decide +kernel) ?_
  refine lv_aload_n hx hb dX8_readBlows_2 rfl (lv_at hl 0 rfl) ?_
  refine g_get hC V (ci := 8) uwX8 0 rfl rfl 4 (by decide) w_916 rfl rfl dX8_readBlows_3 ?_
  refine lv_iconst (v := (nI 0)) hx hb dX8_readBlows_6 (by decide +kernel) ?_
  refine g_iald hC V 2 rfl (vp_in_nI (by decide) (by decide)) (v := (nI n)) (by rw [nI_clamp (by decide)]; first | rfl | exact h_fr.2.1) dX8_readBlows_7 ?_
  refine lv_iconst (v := (nI 1)) hx hb dX8_readBlows_8 (by decide +kernel) ?_
  refine lv_isub hx hb dX8_readBlows_9 ?_
  refine g_callVU (nA := 2) hC V hl.1 (m_takes_f l D T ps o (nI 0) ((nI n) - (nI 1)) w0 g1 g2 g3 g4 tp sz w13 w14 g15 w16 g17 w18 w19 g20 w21 g22 g23 g24 w25 w26 w27 g28 g29 w30 g31 g32 g33 ft (by first | assumption | omega) (by first | assumption | omega)) w_1059 w_1061 w_s42 w_9 w_1062 (by decide +kernel) rfl ⟨(Nat.le_of_ble_eq_true rfl), (Nat.le_of_ble_eq_true rfl)⟩ 0 (ci := 8) rfl rfl [0, 1] rfl rfl (Nat.le_of_ble_eq_true rfl) dX8_readBlows_10 ⟨(Nat.le_of_ble_eq_true rfl), (Nat.le_of_ble_eq_true rfl)⟩ rfl (fun r w1 H locs hQ V => ?_)
  obtain ⟨p2_1, rfl, rfl, f_2⟩ := hQ
  have V : gW D T A s [(o, .inr (8, [.int w0, .ref g1, .ref g2, .ref g3, .ref g4, .int (nI tp), .int (nI p2_1.1), .int (nI p2_1.2.1), .int (nI sz), .int (nI p2_1.2.2.1), .int p2_1.2.2.2.1, .int (nI p2_1.2.2.2.2.1), .int p2_1.2.2.2.2.2, .int w13, .int w14, .ref g15, .int w16, .ref g17, .int w18, .int w19, .ref g20, .int w21, .ref g22, .ref g23, .ref g24, .int w25, .int w26, .int w27, .ref g28, .ref g29, .int w30, .ref g31, .ref g32, .ref g33])), (g3, .inl (T 0, 900, .inl ft)), (g4, .inl (T 0, 94, .inl ff))] H locs := V _ [0, 0] rfl rfl rfl (by decide +kernel) rfl
  show W p l e _ s m args below meth c H locs _ _ _ (F0 m 13 ls [.int ps.2.2.2.1])
  have e1 : p2_1 = bl1 ft sz n ps := f_2
  have hq1 : PI ft sz p2_1 := by rw [f_2]; exact PI_tk h_p
  obtain ⟨_, _, _, _, -⟩ := id hq1
  refine lv_istore_n (lv' := [(1, .int ps.2.2.2.1), (0, .ref o)]) hx hb dX8_readBlows_13 rfl hl (by decide) rfl (fun ls hl => ?_)
  refine lv_aload_n hx hb dX8_readBlows_14 rfl (lv_at hl 1 rfl) ?_
  refine lv_iconst (v := (nI 0)) hx hb dX8_readBlows_15 (by decide +kernel) ?_
  refine lv_aload_n hx hb dX8_readBlows_16 rfl (lv_at hl 1 rfl) ?_
  refine g_get hC V (ci := 8) uwX8 0 rfl rfl 4 (by decide) w_916 rfl rfl dX8_readBlows_17 ?_
  refine lv_iconst (v := (nI 0)) hx hb dX8_readBlows_20 (by decide +kernel) ?_
  refine g_iald hC V 2 rfl (vp_in_nI (by decide) (by decide)) (v := (nI n)) (by rw [nI_clamp (by decide)]; first | rfl | exact h_fr.2.1) dX8_readBlows_21 ?_
  refine lv_iconst (v := (nI 1)) hx hb dX8_readBlows_22 (by decide +kernel) ?_
  refine lv_isub hx hb dX8_readBlows_23 ?_
  refine g_callVU (nA := 2) hC V hl.1 (m_takes_f l D T p2_1 o (nI 0) ((nI n) - (nI 1)) w0 g1 g2 g3 g4 tp sz w13 w14 g15 w16 g17 w18 w19 g20 w21 g22 g23 g24 w25 w26 w27 g28 g29 w30 g31 g32 g33 ft (by first | assumption | omega) (by first | assumption | omega)) w_1059 w_1061 w_s42 w_9 w_1062 (by decide +kernel) rfl ⟨(Nat.le_of_ble_eq_true rfl), (Nat.le_of_ble_eq_true rfl)⟩ 0 (ci := 8) rfl rfl [0, 1] rfl rfl (Nat.le_of_ble_eq_true rfl) dX8_readBlows_24 ⟨(Nat.le_of_ble_eq_true rfl), (Nat.le_of_ble_eq_true rfl)⟩ rfl (fun r w1 H locs hQ V => ?_)
  obtain ⟨p2_3, rfl, rfl, f_4⟩ := hQ
  have V : gW D T A s [(o, .inr (8, [.int w0, .ref g1, .ref g2, .ref g3, .ref g4, .int (nI tp), .int (nI p2_3.1), .int (nI p2_3.2.1), .int (nI sz), .int (nI p2_3.2.2.1), .int p2_3.2.2.2.1, .int (nI p2_3.2.2.2.2.1), .int p2_3.2.2.2.2.2, .int w13, .int w14, .ref g15, .int w16, .ref g17, .int w18, .int w19, .ref g20, .int w21, .ref g22, .ref g23, .ref g24, .int w25, .int w26, .int w27, .ref g28, .ref g29, .int w30, .ref g31, .ref g32, .ref g33])), (g3, .inl (T 0, 900, .inl ft)), (g4, .inl (T 0, 94, .inl ff))] H locs := V _ [0, 0] rfl rfl rfl (by decide +kernel) rfl
  show W p l e _ s m args below meth c H locs _ _ _ (F0 m 27 ls [.int p2_1.2.2.2.1])
  have e2 : p2_3 = blS ft sz n ps := by rw [f_4, e1]; rfl
  have hq2 : PI ft sz p2_3 := by rw [f_4]; exact PI_tk hq1
  obtain ⟨_, _, _, _, -⟩ := id hq2
  refine lv_istore_n (lv' := [(2, .int p2_1.2.2.2.1), (1, .int ps.2.2.2.1), (0, .ref o)]) hx hb dX8_readBlows_27 rfl hl (by decide) rfl (fun ls hl => ?_)
  refine lv_aload_n hx hb dX8_readBlows_28 rfl (lv_at hl 2 rfl) ?_
  refine g_get hC V (ci := 8) uwX8 0 rfl rfl 11 (by decide) w_923 rfl rfl dX8_readBlows_29 ?_
  refine lv_if_ne (tgt := 47) hx hb dX8_readBlows_32 (by decide) (fun c_5 => ?_) (fun c_5 => ?_)
  · skip
    rw [show (0 : Int32) = nI 0 from rfl] at c_5
    have c_5 := b_ne (by omega) (by omega) c_5
    exact g_vret (Qr := (q_m_readBlows_f T ps n o w0 g1 g2 g3 g4 tp sz w13 w14 g15 w16 g17 w18 w19 g20 w21 g22 g23 g24 w25 w26 w27 g28 g29 w30 g31 g32 g33 ft ff)) hC V ⟨(Nat.le_of_ble_eq_true rfl), (Nat.le_of_ble_eq_true rfl)⟩ ⟨p2_3, ff, rfl, rfl, e2, (bl_w (by rw [← e2]; omega)).symm⟩ dX8_readBlows_47
  · skip
    rw [show (0 : Int32) = nI 0 from rfl] at c_5
    have c_5 := b_eq (by omega) (by omega) c_5
    have r2 := tk_rng (Eq.trans (congrArg (fun q : PS => q.2.2.2.2.1) f_4.symm) c_5)
    have r1 := tk_rng (Eq.trans (congrArg (fun q : PS => q.2.2.2.2.1) f_2.symm) r2.2.2)
    obtain ⟨jw, hjw, ejw⟩ := pred_bd hn10 r1.1 r1.2.1
    obtain ⟨jv, hjv, ejv⟩ := pred_bd hn10 r2.1 r2.2.1
    rw [ejw, ejv] at hl
    refine lv_aload_n hx hb dX8_readBlows_35 rfl (lv_at hl 2 rfl) ?_
    refine g_get hC V (ci := 8) uwX8 0 rfl rfl 4 (by decide) w_916 rfl rfl dX8_readBlows_36 ?_
    refine lv_bipush (v := (nI 84)) hx hb dX8_readBlows_39 (by decide +kernel) ?_
    refine lv_iload_n hx hb dX8_readBlows_41 rfl (lv_at hl 1 rfl) ?_
    refine lv_iadd hx hb dX8_readBlows_42 ?_
    refine g_vi (y := (nI (84 + jw))) (nI_add _ _) ?_
    refine lv_iload_n hx hb dX8_readBlows_43 rfl (lv_at hl 0 rfl) ?_
    refine lv_iconst (v := (nI 1)) hx hb dX8_readBlows_44 (by decide +kernel) ?_
    refine lv_iadd hx hb dX8_readBlows_45 ?_
    refine g_vi (y := (nI (jv + 1))) (nI_add _ _) ?_
    refine g_iast hC V 2 rfl (vp_in_nI (by omega) (by omega)) (f' := (upd ff (84 + jw) (nI (jv + 1)))) (by rw [nI_clamp (by omega)]) (ws' := [(o, .inr (8, [.int w0, .ref g1, .ref g2, .ref g3, .ref g4, .int (nI tp), .int (nI p2_3.1), .int (nI p2_3.2.1), .int (nI sz), .int (nI p2_3.2.2.1), .int p2_3.2.2.2.1, .int (nI p2_3.2.2.2.2.1), .int p2_3.2.2.2.2.2, .int w13, .int w14, .ref g15, .int w16, .ref g17, .int w18, .int w19, .ref g20, .int w21, .ref g22, .ref g23, .ref g24, .int w25, .int w26, .int w27, .ref g28, .ref g29, .int w30, .ref g31, .ref g32, .ref g33])), (g3, .inl (T 0, 900, .inl ft)), (g4, .inl (T 0, 94, .inl (upd ff (84 + jw) (nI (jv + 1)))))]) rfl dX8_readBlows_46 (fun H locs V => ?_)
    exact g_vret (Qr := (q_m_readBlows_f T ps n o w0 g1 g2 g3 g4 tp sz w13 w14 g15 w16 g17 w18 w19 g20 w21 g22 g23 g24 w25 w26 w27 g28 g29 w30 g31 g32 g33 ft ff)) hC V ⟨(Nat.le_of_ble_eq_true rfl), (Nat.le_of_ble_eq_true rfl)⟩ ⟨p2_3, (upd ff (84 + jw) (nI (jv + 1))), rfl, rfl, e2, (by rw [bl_0 (by rw [← e2]; omega) ejw (by rw [← e1]; exact ejv) (by omega)])⟩ dX8_readBlows_47

/-- what street answers, and where the FAULT is -/
def stZ (s : RLs) : Int32 := if s.2.1.2.2.2.2.1 = 0 then s.2.2 3 else -30 - nI s.2.1.2.2.2.2.1
def stP (s : RLs) : Int32 := if s.2.1.2.2.2.2.1 = 0 then -1 else s.2.1.2.2.2.2.2
/-- whom the SMITHS blow -/
def stR (n : Nat) (f : Nat → Int32) (i : Nat) : Int32 := if 0 < f (84 + i) then f (84 + i) - nI 1 else nI ((i + 1) % n)
/-- the numbers behind street -/
def stG (fa : Nat → Int32) (s : RLs) : Nat → Int32 := fun j => if s.2.1.2.2.2.2.1 = 0 ∧ j < 94 then (if 84 ≤ j ∧ j < 84 + s.1 then stR s.1 s.2.2 (j - 84) else s.2.2 j) else fa j
theorem stG_w {fa : Nat → Int32} {s : RLs} (h : ¬ s.2.1.2.2.2.2.1 = 0) : fa = stG fa s := by
  funext j; unfold stG; rw [if_neg (fun q => h q.1)]
theorem stG_0 {fa g : Nat → Int32} {s : RLs} (h : s.2.1.2.2.2.2.1 = 0) (hn : s.1 ≤ 10) (h1 : ∀ j, j < 84 → g j = s.2.2 j) (h2 : ∀ i, i < s.1 → g (84 + i) = stR s.1 s.2.2 i) (h3 : ∀ i, s.1 ≤ i → i < 10 → g (84 + i) = s.2.2 (84 + i)) (h4 : ∀ j, 94 ≤ j → g j = fa j) : g = stG fa s := by
  funext j
  unfold stG
  by_cases c : j < 94
  · rw [if_pos ⟨h, c⟩]
    by_cases c2 : 84 ≤ j ∧ j < 84 + s.1
    · rw [if_pos c2]
      have := h2 (j - 84) (by omega)
      rw [show 84 + (j - 84) = j by omega] at this
      exact this
    · rw [if_neg c2]
      by_cases c3 : j < 84
      · exact h1 j c3
      · have := h3 (j - 84) (by omega) (by omega)
        rw [show 84 + (j - 84) = j by omega] at this
        exact this
  · rw [if_neg (fun q => c q.2)]; exact h4 j (by omega)
theorem stR_1 {n i j : Nat} {f : Nat → Int32} (e : f (84 + i) = nI j) (hj : j < 100) (h : 0 < j) : nI (j - 1) = stR n f i := by
  have h0 : (0 : Int32) < nI j := by
    have := (nI_ltI (a := 0) (b := j) (by decide) (by omega)).mpr h
    exact this
  unfold stR; rw [e, if_pos h0, nI_sub (by omega)]
theorem stR_2 {n i j : Nat} {f : Nat → Int32} (e : f (84 + i) = nI j) (h : j = 0) : nI ((i + 1) % n) = stR n f i := by
  unfold stR; rw [e, h, if_neg (by decide +kernel)]
theorem up84 {f : Nat → Int32} {k n : Nat} {x : Int32} {g : Nat → Int32} (h : ∀ i, i < k → f (84 + i) = stR n g i) (hx : x = stR n g k) : ∀ i, i < k + 1 → upd f (84 + k) x (84 + i) = stR n g i := by
  intro i hi
  by_cases c : i = k
  · subst c; rw [up_same]; exact hx
  · rw [up_other (by omega)]; exact h i (by omega)
theorem fr_frI (f : Nat → Int32) : FR 0 (frI f) := fr_new (fun j hj => by unfold frI; rw [if_pos hj])
theorem stp_n {n : Nat} {p : PS} {f : Nat → Int32} (h1 : p.2.2.2.2.1 = 0) (h2 : ¬ p.2.2.1 = 11) : ¬ stp (n, p, f) := fun q => q.elim (fun h => h h1) h2
theorem FN_mk {t : Nat → Int32} {sz K n : Nat} {s0 : RLs} {p : PS} {f : Nat → Int32} (e : (n, p, f) = itS t sz s0 K) (h : ¬ p.2.2.2.2.1 = 0 ∨ p.2.2.1 = 11) (hj : ∀ j, j < K → ¬ stp (itS t sz s0 j)) : FN t sz s0 (n, p, f) := ⟨K, e, h, hj⟩
theorem no_stp {t : Nat → Int32} {sz K n : Nat} {s0 : RLs} {p : PS} {f : Nat → Int32} (e : (n, p, f) = itS t sz s0 K) (h1 : p.2.2.2.2.1 = 0) (h2 : ¬ p.2.2.1 = 11) (hj : ∀ j, j < K → ¬ stp (itS t sz s0 j)) : ∀ j, j < K + 1 → ¬ stp (itS t sz s0 j) := by
  intro j hjk
  by_cases c : j = K
  · rw [c, ← e]; exact stp_n h1 h2
  · exact hj j (by omega)

theorem ed_w0 {t : Nat → Int32} {sz : Nat} {p : PS} (h : (edS t sz p).2.2.2.2.1 = 0) : p.2.2.2.2.1 = 0 := by
  by_cases c : p.2.2.2.2.1 = 0 ∧ p.2.2.1 = 10
  · exact c.1
  · rw [ed_n c] at h; exact absurd h (fa_w (by decide))
theorem bu_bd {t : Nat → Int32} {sz : Nat} {p2 px pe : PS} (e : p2 = edS t sz px) (e2 : px = tkS t sz (nI 0) (nI 20) pe) (h : p2.2.2.2.2.1 = 0) : bd pe.2.2.2.1 21 := by
  rw [e] at h
  have hz := ed_w0 h
  rw [e2] at hz
  have r := tk_rng hz
  exact rg_bd ⟨r.1, r.2.1⟩ (by decide)
theorem fl_w {t : Nat → Int32} {sz f : Nat} {p2 px p : PS} (e : p2 = edS t sz px) (e2 : px = faS (f + 1) p) : ¬ p2.2.2.2.2.1 = 0 := by
  intro h
  rw [e] at h
  have hz := ed_w0 h
  rw [e2] at hz
  exact fa_w (by omega) hz
/-- how far the reading is -/
def rdS (sz : Nat) (p : PS) : Nat := if p.2.2.2.2.1 = 0 ∧ ¬ p.2.2.1 = 11 then sz - p.2.1 + 1 else 0
theorem rdS_dec {t : Nat → Int32} {sz n n2 : Nat} {p p2 : PS} {f f2 : Nat → Int32} (hP : PI t sz p) (h0 : p.2.2.2.2.1 = 0) (hk : ¬ p.2.2.1 = 11) (e : (n2, p2, f2) = lnS t sz (n, p, f)) : rdS sz p2 < rdS sz p := by
  have e1 : rdS sz p = sz - p.2.1 + 1 := if_pos ⟨h0, hk⟩
  rw [e1]
  obtain ⟨q1, q2⟩ := ln_mv (t := t) (sz := sz) (s := (n, p, f)) hP
  rw [← e] at q1 q2
  have b2 : p2.2.1 ≤ sz := q1.2.1
  unfold rdS
  split
  · rename_i c
    rcases q2 with (h | h) | h
    · exact absurd c.1 h
    · exact absurd h c.2
    · have h' : p.2.1 < p2.2.1 := h
      omega
  · omega

def q_m_street_f (T : Nat → ClassId) (n : Nat) (o : Nat) (n_ : Int32) (w0 : Int32) (g1 : Nat) (g2 : Nat) (g3 : Nat) (g4 : Nat) (tp : Nat) (w6 : Int32) (w7 : Int32) (w8 : Int32) (w9 : Int32) (w10 : Int32) (w11 : Int32) (w12 : Int32) (w13 : Int32) (w14 : Int32) (g15 : Nat) (w16 : Int32) (g17 : Nat) (w18 : Int32) (w19 : Int32) (g20 : Nat) (w21 : Int32) (g22 : Nat) (g23 : Nat) (g24 : Nat) (w25 : Int32) (w26 : Int32) (w27 : Int32) (g28 : Nat) (g29 : Nat) (w30 : Int32) (g31 : Nat) (g32 : Nat) (g33 : Nat) (fa : Nat → Int32) (ft : Nat → Int32) (ff : Nat → Int32) : Option Value → va_W → Prop := fun rr ww => (rr = some (.int (-3)) ∧ ww = [(o, .inr (8, [.int (nI 0), .ref g1, .ref g2, .ref g3, .ref g4, .int (nI tp), .int w6, .int w7, .int w8, .int w9, .int w10, .int w11, .int w12, .int w13, .int w14, .ref g15, .int w16, .ref g17, .int w18, .int w19, .ref g20, .int w21, .ref g22, .ref g23, .ref g24, .int w25, .int w26, .int w27, .ref g28, .ref g29, .int w30, .ref g31, .ref g32, .ref g33])), (g1, .inl (T 0, 282, .inl fa)), (g3, .inl (T 0, 900, .inl ft)), (g4, .inl (T 0, 94, .inl ff))] ∧ (n_ < nI 0 ∨ nI tp < n_)) ∨ (∃ (z : Int32) (jn : Nat) (s_ : RLs) (ga : Nat → Int32) (m0 : Nat), rr = some (.int z) ∧ ww = [(o, .inr (8, [.int (nI 0), .ref g1, .ref g2, .ref g3, .ref g4, .int (nI 0), .int (nI s_.2.1.1), .int (nI s_.2.1.2.1), .int (nI jn), .int (nI s_.2.1.2.2.1), .int s_.2.1.2.2.2.1, .int (nI s_.2.1.2.2.2.2.1), .int s_.2.1.2.2.2.2.2, .int (nI s_.2.1.2.2.2.2.1), .int (stP s_), .ref g15, .int w16, .ref g17, .int w18, .int w19, .ref g20, .int w21, .ref g22, .ref g23, .ref g24, .int w25, .int w26, .int w27, .ref g28, .ref g29, .int w30, .ref g31, .ref g32, .ref g33])), (g1, .inl (T 0, 282, .inl ga)), (g3, .inl (T 0, 900, .inl ft)), (g4, .inl (T 0, 94, .inl s_.2.2))] ∧ n_ = nI jn ∧ jn ≤ tp ∧ FN ft jn (0, nxS ft jn (0, 0, 0, w10, 0, w12), frI ff) s_ ∧ z = stZ s_ ∧ ga = stG fa s_ ∧ MI m0 ga ∧ (∀ j, 94 ≤ j → ga j = fa j) ∧ PI ft jn s_.2.1 ∧ (s_.2.1.2.2.2.2.1 = 0 → FR s_.1 s_.2.2) ∧ (s_.2.1.2.2.2.2.1 = 0 → m0 = s_.1))
set_option maxHeartbeats 8000000 in
set_option maxRecDepth 100000 in
theorem m_street_f (l : Launch) (D : va_G) (T : Nat → ClassId) (n : Nat) (o : Nat) (n_ : Int32) (w0 : Int32) (g1 : Nat) (g2 : Nat) (g3 : Nat) (g4 : Nat) (tp : Nat) (w6 : Int32) (w7 : Int32) (w8 : Int32) (w9 : Int32) (w10 : Int32) (w11 : Int32) (w12 : Int32) (w13 : Int32) (w14 : Int32) (g15 : Nat) (w16 : Int32) (g17 : Nat) (w18 : Int32) (w19 : Int32) (g20 : Nat) (w21 : Int32) (g22 : Nat) (g23 : Nat) (g24 : Nat) (w25 : Int32) (w26 : Int32) (w27 : Int32) (g28 : Nat) (g29 : Nat) (w30 : Int32) (g31 : Nat) (g32 : Nat) (g33 : Nat) (fa : Nat → Int32) (ft : Nat → Int32) (ff : Nat → Int32) (h_a : MI n fa) (h_t : tp ≤ 900) : Ct l yX8_street cX8_street 3 (some .int) 9 0 0 D T [.ref o, .int n_] [(o, .inr (8, [.int w0, .ref g1, .ref g2, .ref g3, .ref g4, .int (nI tp), .int w6, .int w7, .int w8, .int w9, .int w10, .int w11, .int w12, .int w13, .int w14, .ref g15, .int w16, .ref g17, .int w18, .int w19, .ref g20, .int w21, .ref g22, .ref g23, .ref g24, .int w25, .int w26, .int w27, .ref g28, .ref g29, .int w30, .ref g31, .ref g32, .ref g33])), (g1, .inl (T 0, 282, .inl fa)), (g3, .inl (T 0, 900, .inl ft)), (g4, .inl (T 0, 94, .inl ff))] (q_m_street_f T n o n_ w0 g1 g2 g3 g4 tp w6 w7 w8 w9 w10 w11 w12 w13 w14 g15 w16 g17 w18 w19 g20 w21 g22 g23 g24 w25 w26 w27 g28 g29 w30 g31 g32 g33 fa ft ff) := by
  refine Ct.of (cc := cX8_street) (maxL := 3) (ret := (some .int)) (by decide) (Nat.le_of_ble_eq_true rfl) ?_
  intro p e s m args below meth c A ls hC hnm V hl
  obtain ⟨hx, hb, hr, hml, hown, hts, hlocks⟩ := id hC
  generalize hH : s.heap = H at V ⊢
  clear hH
  have hl : lv_has ls 3 [(0, .ref o), (1, .int n_)] := hl
  generalize hlo : ([] : List Loc) = locs at V ⊢
  clear hlo
  have ms0 := ms_rf h_a
  have hn10 := h_a.1
  refine lv_aload_n hx hb dX8_street_0 rfl (lv_at hl 0 rfl) ?_
  refine lv_iconst (v := (nI 0)) hx hb dX8_street_1 (by decide +kernel) ?_
  refine g_put hC V (ci := 8) uwX8 tyX8 tyX8_ok nmX8 0 rfl rfl 0 (by decide) w_912 rfl rfl rfl rfl (Nat.le_of_ble_eq_true rfl) (ws' := [(o, .inr (8, [.int (nI 0), .ref g1, .ref g2, .ref g3, .ref g4, .int (nI tp), .int w6, .int w7, .int w8, .int w9, .int w10, .int w11, .int w12, .int w13, .int w14, .ref g15, .int w16, .ref g17, .int w18, .int w19, .ref g20, .int w21, .ref g22, .ref g23, .ref g24, .int w25, .int w26, .int w27, .ref g28, .ref g29, .int w30, .ref g31, .ref g32, .ref g33])), (g1, .inl (T 0, 282, .inl fa)), (g3, .inl (T 0, 900, .inl ft)), (g4, .inl (T 0, 94, .inl ff))]) rfl dX8_street_2 (fun H locs V => ?_)
  refine lv_iload_n hx hb dX8_street_5 rfl (lv_at hl 1 rfl) ?_
  refine lv_i2l (v := n_.toInt64) hx hb dX8_street_6 rfl ?_
  refine lv_lconst (v := (nI 0).toInt64) hx hb dX8_street_7 (by decide +kernel) ?_
  refine lv_aload_n hx hb dX8_street_8 rfl (lv_at hl 0 rfl) ?_
  refine g_get hC V (ci := 8) uwX8 0 rfl rfl 5 (by decide) w_917 rfl rfl dX8_street_9 ?_
  refine lv_i2l (v := (nI tp).toInt64) hx hb dX8_street_12 rfl ?_
  refine g_callSU (nA := 3) hC V hl.1 (m_within l D T n_ (nI 0) (nI tp)) w_1023 w_1024 w_9 w_1025 (by decide +kernel) rfl ⟨(Nat.le_of_ble_eq_true rfl), (Nat.le_of_ble_eq_true rfl)⟩ [] rfl rfl (Nat.le_of_ble_eq_true rfl) dX8_street_13 ⟨(Nat.le_of_ble_eq_true rfl), (Nat.le_of_ble_eq_true rfl)⟩ rfl (fun r w1 H locs hQ V => ?_)
  rcases hQ with ⟨rfl, rfl, f_1, f_2⟩ | ⟨rfl, rfl, f_3⟩
  · have V : gW D T A s [(o, .inr (8, [.int (nI 0), .ref g1, .ref g2, .ref g3, .ref g4, .int (nI tp), .int w6, .int w7, .int w8, .int w9, .int w10, .int w11, .int w12, .int w13, .int w14, .ref g15, .int w16, .ref g17, .int w18, .int w19, .ref g20, .int w21, .ref g22, .ref g23, .ref g24, .int w25, .int w26, .int w27, .ref g28, .ref g29, .int w30, .ref g31, .ref g32, .ref g33])), (g1, .inl (T 0, 282, .inl fa)), (g3, .inl (T 0, 900, .inl ft)), (g4, .inl (T 0, 94, .inl ff))] H locs := V _ [] rfl rfl rfl (by decide +kernel) rfl
    show W p l e _ s m args below meth c H locs _ _ _ (F0 m 16 ls [.int (nI 1)])
    obtain ⟨jn, hjn1, hjn2, ejn⟩ := g_rng (by decide) (by omega) f_1 f_2
    rw [ejn] at hl
    refine lv_if_ne (tgt := 22) hx hb dX8_street_16 (by decide) (fun _ => ?_) (fun c => absurd (show (nI 1) = 0 from c) (by decide +kernel))
    refine lv_aload_n hx hb dX8_street_22 rfl (lv_at hl 0 rfl) ?_
    refine lv_iload_n hx hb dX8_street_23 rfl (lv_at hl 1 rfl) ?_
    refine g_put hC V (ci := 8) uwX8 tyX8 tyX8_ok nmX8 0 rfl rfl 8 (by decide) w_920 rfl rfl rfl rfl (Nat.le_of_ble_eq_true rfl) (ws' := [(o, .inr (8, [.int (nI 0), .ref g1, .ref g2, .ref g3, .ref g4, .int (nI tp), .int w6, .int w7, .int (nI jn), .int w9, .int w10, .int w11, .int w12, .int w13, .int w14, .ref g15, .int w16, .ref g17, .int w18, .int w19, .ref g20, .int w21, .ref g22, .ref g23, .ref g24, .int w25, .int w26, .int w27, .ref g28, .ref g29, .int w30, .ref g31, .ref g32, .ref g33])), (g1, .inl (T 0, 282, .inl fa)), (g3, .inl (T 0, 900, .inl ft)), (g4, .inl (T 0, 94, .inl ff))]) rfl dX8_street_24 (fun H locs V => ?_)
    refine lv_aload_n hx hb dX8_street_27 rfl (lv_at hl 0 rfl) ?_
    refine lv_iconst (v := (nI 0)) hx hb dX8_street_28 (by decide +kernel) ?_
    refine g_put hC V (ci := 8) uwX8 tyX8 tyX8_ok nmX8 0 rfl rfl 5 (by decide) w_917 rfl rfl rfl rfl (Nat.le_of_ble_eq_true rfl) (ws' := [(o, .inr (8, [.int (nI 0), .ref g1, .ref g2, .ref g3, .ref g4, .int (nI 0), .int w6, .int w7, .int (nI jn), .int w9, .int w10, .int w11, .int w12, .int w13, .int w14, .ref g15, .int w16, .ref g17, .int w18, .int w19, .ref g20, .int w21, .ref g22, .ref g23, .ref g24, .int w25, .int w26, .int w27, .ref g28, .ref g29, .int w30, .ref g31, .ref g32, .ref g33])), (g1, .inl (T 0, 282, .inl fa)), (g3, .inl (T 0, 900, .inl ft)), (g4, .inl (T 0, 94, .inl ff))]) rfl dX8_street_29 (fun H locs V => ?_)
    refine lv_aload_n hx hb dX8_street_32 rfl (lv_at hl 0 rfl) ?_
    refine lv_iconst (v := (nI 0)) hx hb dX8_street_33 (by decide +kernel) ?_
    refine g_put hC V (ci := 8) uwX8 tyX8 tyX8_ok nmX8 0 rfl rfl 7 (by decide) w_919 rfl rfl rfl rfl (Nat.le_of_ble_eq_true rfl) (ws' := [(o, .inr (8, [.int (nI 0), .ref g1, .ref g2, .ref g3, .ref g4, .int (nI 0), .int w6, .int (nI 0), .int (nI jn), .int w9, .int w10, .int w11, .int w12, .int w13, .int w14, .ref g15, .int w16, .ref g17, .int w18, .int w19, .ref g20, .int w21, .ref g22, .ref g23, .ref g24, .int w25, .int w26, .int w27, .ref g28, .ref g29, .int w30, .ref g31, .ref g32, .ref g33])), (g1, .inl (T 0, 282, .inl fa)), (g3, .inl (T 0, 900, .inl ft)), (g4, .inl (T 0, 94, .inl ff))]) rfl dX8_street_34 (fun H locs V => ?_)
    refine lv_aload_n hx hb dX8_street_37 rfl (lv_at hl 0 rfl) ?_
    refine lv_iconst (v := (nI 0)) hx hb dX8_street_38 (by decide +kernel) ?_
    refine g_put hC V (ci := 8) uwX8 tyX8 tyX8_ok nmX8 0 rfl rfl 11 (by decide) w_923 rfl rfl rfl rfl (Nat.le_of_ble_eq_true rfl) (ws' := [(o, .inr (8, [.int (nI 0), .ref g1, .ref g2, .ref g3, .ref g4, .int (nI 0), .int w6, .int (nI 0), .int (nI jn), .int w9, .int w10, .int (nI 0), .int w12, .int w13, .int w14, .ref g15, .int w16, .ref g17, .int w18, .int w19, .ref g20, .int w21, .ref g22, .ref g23, .ref g24, .int w25, .int w26, .int w27, .ref g28, .ref g29, .int w30, .ref g31, .ref g32, .ref g33])), (g1, .inl (T 0, 282, .inl fa)), (g3, .inl (T 0, 900, .inl ft)), (g4, .inl (T 0, 94, .inl ff))]) rfl dX8_street_39 (fun H locs V => ?_)
    refine lv_iconst (v := (nI 0)) hx hb dX8_street_42 (by decide +kernel) ?_
    refine lv_istore_n (lv' := [(2, .int (nI 0)), (0, .ref o), (1, .int (nI jn))]) hx hb dX8_street_43 rfl hl (by decide) rfl (fun ls hl => ?_)
    have L_4 : ∀ (fu : Nat) (k44 : Nat) (f44 : Nat → Int32), k44 ≤ 94 → (∀ j, j < k44 → f44 j = if j = 2 then nI 20 else nI 0) → (∀ j, 94 ≤ j → f44 j = ff j) → 94 - k44 < fu → ∀ (H : Heap) (locs : List Loc) (ls : Array Slot), gW D T A s [(o, .inr (8, [.int (nI 0), .ref g1, .ref g2, .ref g3, .ref g4, .int (nI 0), .int w6, .int (nI 0), .int (nI jn), .int w9, .int w10, .int (nI 0), .int w12, .int w13, .int w14, .ref g15, .int w16, .ref g17, .int w18, .int w19, .ref g20, .int w21, .ref g22, .ref g23, .ref g24, .int w25, .int w26, .int w27, .ref g28, .ref g29, .int w30, .ref g31, .ref g32, .ref g33])), (g1, .inl (T 0, 282, .inl fa)), (g3, .inl (T 0, 900, .inl ft)), (g4, .inl (T 0, 94, .inl f44))] H locs → lv_has ls 3 [(2, .int (nI k44)), (0, .ref o), (1, .int (nI jn))] → W p l e (rmD 9 0 0) s m args below meth c H locs 0 0 (MQ below (gQ D A (q_m_street_f T n o n_ w0 g1 g2 g3 g4 tp w6 w7 w8 w9 w10 w11 w12 w13 w14 g15 w16 g17 w18 w19 g20 w21 g22 g23 g24 w25 w26 w27 g28 g29 w30 g31 g32 g33 fa ft ff)) args s 0 0 A) (F0 m 44 ls []) := by
      intro fu_44
      induction fu_44 with
      | zero => intro k44 f44 hk44 hf44 hf44b hmu; exact absurd hmu (Nat.not_lt_zero _)
      | succ fu_44 ih_44 =>
        intro k44 f44 hk44 hf44 hf44b hmu_44 H locs ls V hl
        refine lv_iload_n hx hb dX8_street_44 rfl (lv_at hl 0 rfl) ?_
        refine lv_bipush (v := (nI 94)) hx hb dX8_street_45 (by decide +kernel) ?_
        refine lv_icmp_ge (tgt := 73) hx hb dX8_street_47 (by decide) (fun c_5 => ?_) (fun c_5 => ?_)
        · skip
          have c_5 := b_le (by omega) (by omega) c_5
          have ef0 : f44 = frI ff := frI_eq (fun j hj => hf44 j (by omega)) hf44b
          refine lv_aload_n hx hb dX8_street_73 rfl (lv_at hl 1 rfl) ?_
          refine g_callVU (nA := 0) hC V hl.1 (m_next_f l D T o (nI 0) g1 g2 g3 g4 0 w6 0 jn w9 w10 0 w12 w13 w14 g15 w16 g17 w18 w19 g20 w21 g22 g23 g24 w25 w26 w27 g28 g29 w30 g31 g32 g33 ft (by first | assumption | omega) (by first | assumption | omega) (by first | assumption | omega)) w_1026 w_1028 w_s36 w_9 w_1029 (by decide +kernel) rfl ⟨(Nat.le_of_ble_eq_true rfl), (Nat.le_of_ble_eq_true rfl)⟩ 0 (ci := 8) rfl rfl [0, 2] rfl rfl (Nat.le_of_ble_eq_true rfl) dX8_street_74 ⟨(Nat.le_of_ble_eq_true rfl), (Nat.le_of_ble_eq_true rfl)⟩ rfl (fun r w1 H locs hQ V => ?_)
          obtain ⟨p2_6, rfl, rfl, f_7⟩ := hQ
          have V : gW D T A s [(o, .inr (8, [.int (nI 0), .ref g1, .ref g2, .ref g3, .ref g4, .int (nI 0), .int (nI p2_6.1), .int (nI p2_6.2.1), .int (nI jn), .int (nI p2_6.2.2.1), .int p2_6.2.2.2.1, .int (nI p2_6.2.2.2.2.1), .int p2_6.2.2.2.2.2, .int w13, .int w14, .ref g15, .int w16, .ref g17, .int w18, .int w19, .ref g20, .int w21, .ref g22, .ref g23, .ref g24, .int w25, .int w26, .int w27, .ref g28, .ref g29, .int w30, .ref g31, .ref g32, .ref g33])), (g1, .inl (T 0, 282, .inl fa)), (g3, .inl (T 0, 900, .inl ft)), (g4, .inl (T 0, 94, .inl f44))] H locs := V _ [0, 1] rfl rfl rfl (by decide +kernel) rfl
          show W p l e _ s m args below meth c H locs _ _ _ (F0 m 77 ls [])
          have hP0 : PI ft jn p2_6 := by rw [f_7]; exact PI_nx (Nat.zero_le _) (Nat.zero_le _)
          obtain ⟨_, _, _, _, -⟩ := id hP0
          have hi0 : (0, p2_6, f44) = itS ft jn (0, nxS ft jn (0, 0, 0, w10, 0, w12), frI ff) 0 := by rw [f_7, ef0]; rfl
          have L_8 : ∀ (fu : Nat) (f77 : Nat → Int32) (pq : PS) (nq : Nat) (kq : Nat), (nq, pq, f77) = itS ft jn (0, nxS ft jn (0, 0, 0, w10, 0, w12), frI ff) kq → (∀ j, j < kq → ¬ stp (itS ft jn (0, nxS ft jn (0, 0, 0, w10, 0, w12), frI ff) j)) → PI ft jn pq → (pq.2.2.2.2.1 = 0 → FR nq f77) → rdS jn pq < fu → ∀ (H : Heap) (locs : List Loc) (ls : Array Slot), gW D T A s [(o, .inr (8, [.int (nI 0), .ref g1, .ref g2, .ref g3, .ref g4, .int (nI 0), .int (nI pq.1), .int (nI pq.2.1), .int (nI jn), .int (nI pq.2.2.1), .int pq.2.2.2.1, .int (nI pq.2.2.2.2.1), .int pq.2.2.2.2.2, .int w13, .int w14, .ref g15, .int w16, .ref g17, .int w18, .int w19, .ref g20, .int w21, .ref g22, .ref g23, .ref g24, .int w25, .int w26, .int w27, .ref g28, .ref g29, .int w30, .ref g31, .ref g32, .ref g33])), (g1, .inl (T 0, 282, .inl fa)), (g3, .inl (T 0, 900, .inl ft)), (g4, .inl (T 0, 94, .inl f77))] H locs → lv_has ls 3 [(0, .ref o), (1, .int (nI jn))] → W p l e (rmD 9 0 0) s m args below meth c H locs 0 0 (MQ below (gQ D A (q_m_street_f T n o n_ w0 g1 g2 g3 g4 tp w6 w7 w8 w9 w10 w11 w12 w13 w14 g15 w16 g17 w18 w19 g20 w21 g22 g23 g24 w25 w26 w27 g28 g29 w30 g31 g32 g33 fa ft ff)) args s 0 0 A) (F0 m 77 ls []) := by
            intro fu_77
            induction fu_77 with
            | zero => intro f77 pq nq kq hit hns hP hfr hmu; exact absurd hmu (Nat.not_lt_zero _)
            | succ fu_77 ih_77 =>
              intro f77 pq nq kq hit hns hP hfr hmu_77 H locs ls V hl
              obtain ⟨_, _, _, _, -⟩ := id hP
              refine lv_aload_n hx hb dX8_street_77 rfl (lv_at hl 0 rfl) ?_
              refine g_get hC V (ci := 8) uwX8 0 rfl rfl 11 (by decide) w_923 rfl rfl dX8_street_78 ?_
              refine lv_if_ne (tgt := 181) hx hb dX8_street_81 (by decide) (fun c_9 => ?_) (fun c_9 => ?_)
              · skip
                rw [show (0 : Int32) = nI 0 from rfl] at c_9
                have c_9 := b_ne (by omega) (by omega) c_9
                refine lv_aload_n hx hb dX8_street_181 rfl (lv_at hl 0 rfl) ?_
                refine lv_aload_n hx hb dX8_street_182 rfl (lv_at hl 0 rfl) ?_
                refine g_get hC V (ci := 8) uwX8 0 rfl rfl 11 (by decide) w_923 rfl rfl dX8_street_183 ?_
                refine g_put hC V (ci := 8) uwX8 tyX8 tyX8_ok nmX8 0 rfl rfl 13 (by decide) w_925 rfl rfl rfl rfl (Nat.le_of_ble_eq_true rfl) (ws' := [(o, .inr (8, [.int (nI 0), .ref g1, .ref g2, .ref g3, .ref g4, .int (nI 0), .int (nI pq.1), .int (nI pq.2.1), .int (nI jn), .int (nI pq.2.2.1), .int pq.2.2.2.1, .int (nI pq.2.2.2.2.1), .int pq.2.2.2.2.2, .int (nI pq.2.2.2.2.1), .int w14, .ref g15, .int w16, .ref g17, .int w18, .int w19, .ref g20, .int w21, .ref g22, .ref g23, .ref g24, .int w25, .int w26, .int w27, .ref g28, .ref g29, .int w30, .ref g31, .ref g32, .ref g33])), (g1, .inl (T 0, 282, .inl fa)), (g3, .inl (T 0, 900, .inl ft)), (g4, .inl (T 0, 94, .inl f77))]) rfl dX8_street_186 (fun H locs V => ?_)
                refine lv_aload_n hx hb dX8_street_189 rfl (lv_at hl 0 rfl) ?_
                refine lv_aload_n hx hb dX8_street_190 rfl (lv_at hl 0 rfl) ?_
                refine g_get hC V (ci := 8) uwX8 0 rfl rfl 11 (by decide) w_923 rfl rfl dX8_street_191 ?_
                refine lv_if_ne (tgt := 201) hx hb dX8_street_194 (by decide) (fun c_10 => ?_) (fun c_10 => ?_)
                · skip
                  rw [show (0 : Int32) = nI 0 from rfl] at c_10
                  have c_10 := b_ne (by omega) (by omega) c_10
                  refine lv_aload_n hx hb dX8_street_201 rfl (lv_at hl 0 rfl) ?_
                  refine g_get hC V (ci := 8) uwX8 0 rfl rfl 12 (by decide) w_924 rfl rfl dX8_street_202 ?_
                  refine g_put hC V (ci := 8) uwX8 tyX8 tyX8_ok nmX8 0 rfl rfl 14 (by decide) w_926 rfl rfl rfl rfl (Nat.le_of_ble_eq_true rfl) (ws' := [(o, .inr (8, [.int (nI 0), .ref g1, .ref g2, .ref g3, .ref g4, .int (nI 0), .int (nI pq.1), .int (nI pq.2.1), .int (nI jn), .int (nI pq.2.2.1), .int pq.2.2.2.1, .int (nI pq.2.2.2.2.1), .int pq.2.2.2.2.2, .int (nI pq.2.2.2.2.1), .int pq.2.2.2.2.2, .ref g15, .int w16, .ref g17, .int w18, .int w19, .ref g20, .int w21, .ref g22, .ref g23, .ref g24, .int w25, .int w26, .int w27, .ref g28, .ref g29, .int w30, .ref g31, .ref g32, .ref g33])), (g1, .inl (T 0, 282, .inl fa)), (g3, .inl (T 0, 900, .inl ft)), (g4, .inl (T 0, 94, .inl f77))]) rfl dX8_street_205 (fun H locs V => ?_)
                  refine lv_aload_n hx hb dX8_street_208 rfl (lv_at hl 0 rfl) ?_
                  refine g_get hC V (ci := 8) uwX8 0 rfl rfl 11 (by decide) w_923 rfl rfl dX8_street_209 ?_
                  refine lv_if_eq (tgt := 223) hx hb dX8_street_212 (by decide) (fun c_11 => ?_) (fun c_11 => ?_)
                  · skip
                    rw [show (0 : Int32) = nI 0 from rfl] at c_11
                    have c_11 := b_eq (by omega) (by omega) c_11
                    exact (by omega : False).elim
                  · skip
                    rw [show (0 : Int32) = nI 0 from rfl] at c_11
                    have c_11 := b_ne (by omega) (by omega) c_11
                    refine lv_bipush (v := (-30)) hx hb dX8_street_215 (by decide +kernel) ?_
                    refine lv_aload_n hx hb dX8_street_217 rfl (lv_at hl 0 rfl) ?_
                    refine g_get hC V (ci := 8) uwX8 0 rfl rfl 11 (by decide) w_923 rfl rfl dX8_street_218 ?_
                    refine lv_isub hx hb dX8_street_221 ?_
                    exact g_iret (Qr := (q_m_street_f T n o n_ w0 g1 g2 g3 g4 tp w6 w7 w8 w9 w10 w11 w12 w13 w14 g15 w16 g17 w18 w19 g20 w21 g22 g23 g24 w25 w26 w27 g28 g29 w30 g31 g32 g33 fa ft ff)) hC V ⟨(Nat.le_of_ble_eq_true rfl), (Nat.le_of_ble_eq_true rfl)⟩ (.inr ⟨(-30 - nI pq.2.2.2.2.1), jn, (nq, pq, f77), fa, n, rfl, (by rw [show stP (nq, pq, f77) = pq.2.2.2.2.2 from if_neg (by assumption)]), ejn, (by omega), (FN_mk hit (Or.inl (by assumption)) hns), (if_neg (by assumption)).symm, (stG_w (by assumption)), h_a, (fun _ _ => rfl), hP, (fun h => absurd h (by assumption)), (fun h => absurd h (by assumption))⟩) dX8_street_222
                · skip
                  rw [show (0 : Int32) = nI 0 from rfl] at c_10
                  have c_10 := b_eq (by omega) (by omega) c_10
                  exact (by omega : False).elim
              · skip
                rw [show (0 : Int32) = nI 0 from rfl] at c_9
                have c_9 := b_eq (by omega) (by omega) c_9
                have hw0 := c_9
                have hF := hfr c_9
                refine lv_aload_n hx hb dX8_street_84 rfl (lv_at hl 0 rfl) ?_
                refine g_get hC V (ci := 8) uwX8 0 rfl rfl 9 (by decide) w_921 rfl rfl dX8_street_85 ?_
                refine lv_bipush (v := (nI 11)) hx hb dX8_street_88 (by decide +kernel) ?_
                refine lv_icmp_eq (tgt := 181) hx hb dX8_street_90 (by decide) (fun c_12 => ?_) (fun c_12 => ?_)
                · skip
                  have c_12 := b_eq (by omega) (by omega) c_12
                  refine lv_aload_n hx hb dX8_street_181 rfl (lv_at hl 0 rfl) ?_
                  refine lv_aload_n hx hb dX8_street_182 rfl (lv_at hl 0 rfl) ?_
                  refine g_get hC V (ci := 8) uwX8 0 rfl rfl 11 (by decide) w_923 rfl rfl dX8_street_183 ?_
                  refine g_put hC V (ci := 8) uwX8 tyX8 tyX8_ok nmX8 0 rfl rfl 13 (by decide) w_925 rfl rfl rfl rfl (Nat.le_of_ble_eq_true rfl) (ws' := [(o, .inr (8, [.int (nI 0), .ref g1, .ref g2, .ref g3, .ref g4, .int (nI 0), .int (nI pq.1), .int (nI pq.2.1), .int (nI jn), .int (nI pq.2.2.1), .int pq.2.2.2.1, .int (nI pq.2.2.2.2.1), .int pq.2.2.2.2.2, .int (nI pq.2.2.2.2.1), .int w14, .ref g15, .int w16, .ref g17, .int w18, .int w19, .ref g20, .int w21, .ref g22, .ref g23, .ref g24, .int w25, .int w26, .int w27, .ref g28, .ref g29, .int w30, .ref g31, .ref g32, .ref g33])), (g1, .inl (T 0, 282, .inl fa)), (g3, .inl (T 0, 900, .inl ft)), (g4, .inl (T 0, 94, .inl f77))]) rfl dX8_street_186 (fun H locs V => ?_)
                  refine lv_aload_n hx hb dX8_street_189 rfl (lv_at hl 0 rfl) ?_
                  refine lv_aload_n hx hb dX8_street_190 rfl (lv_at hl 0 rfl) ?_
                  refine g_get hC V (ci := 8) uwX8 0 rfl rfl 11 (by decide) w_923 rfl rfl dX8_street_191 ?_
                  refine lv_if_ne (tgt := 201) hx hb dX8_street_194 (by decide) (fun c_13 => ?_) (fun c_13 => ?_)
                  · skip
                    rw [show (0 : Int32) = nI 0 from rfl] at c_13
                    have c_13 := b_ne (by omega) (by omega) c_13
                    exact (by omega : False).elim
                  · skip
                    rw [show (0 : Int32) = nI 0 from rfl] at c_13
                    have c_13 := b_eq (by omega) (by omega) c_13
                    refine lv_iconst (v := (-1)) hx hb dX8_street_197 (by decide +kernel) ?_
                    refine lv_goto (tgt := 205) hx hb dX8_street_198 (by decide) ?_
                    refine g_put hC V (ci := 8) uwX8 tyX8 tyX8_ok nmX8 0 rfl rfl 14 (by decide) w_926 rfl rfl rfl rfl (Nat.le_of_ble_eq_true rfl) (ws' := [(o, .inr (8, [.int (nI 0), .ref g1, .ref g2, .ref g3, .ref g4, .int (nI 0), .int (nI pq.1), .int (nI pq.2.1), .int (nI jn), .int (nI pq.2.2.1), .int pq.2.2.2.1, .int (nI pq.2.2.2.2.1), .int pq.2.2.2.2.2, .int (nI pq.2.2.2.2.1), .int (-1), .ref g15, .int w16, .ref g17, .int w18, .int w19, .ref g20, .int w21, .ref g22, .ref g23, .ref g24, .int w25, .int w26, .int w27, .ref g28, .ref g29, .int w30, .ref g31, .ref g32, .ref g33])), (g1, .inl (T 0, 282, .inl fa)), (g3, .inl (T 0, 900, .inl ft)), (g4, .inl (T 0, 94, .inl f77))]) rfl dX8_street_205 (fun H locs V => ?_)
                    refine lv_aload_n hx hb dX8_street_208 rfl (lv_at hl 0 rfl) ?_
                    refine g_get hC V (ci := 8) uwX8 0 rfl rfl 11 (by decide) w_923 rfl rfl dX8_street_209 ?_
                    refine lv_if_eq (tgt := 223) hx hb dX8_street_212 (by decide) (fun c_14 => ?_) (fun c_14 => ?_)
                    · skip
                      rw [show (0 : Int32) = nI 0 from rfl] at c_14
                      have c_14 := b_eq (by omega) (by omega) c_14
                      have hF2 := hfr c_14
                      have hn10 := hF2.1
                      refine lv_iconst (v := (nI 0)) hx hb dX8_street_223 (by decide +kernel) ?_
                      refine lv_istore_n (lv' := [(2, .int (nI 0)), (0, .ref o), (1, .int (nI jn))]) hx hb dX8_street_224 rfl hl (by decide) rfl (fun ls hl => ?_)
                      have L_15 : ∀ (fu : Nat) (k225 : Nat) (f225 : Nat → Int32), k225 ≤ 94 → (∀ j, j < k225 → f225 j = f77 j) → (∀ j, 94 ≤ j → f225 j = fa j) → 94 - k225 < fu → ∀ (H : Heap) (locs : List Loc) (ls : Array Slot), gW D T A s [(o, .inr (8, [.int (nI 0), .ref g1, .ref g2, .ref g3, .ref g4, .int (nI 0), .int (nI pq.1), .int (nI pq.2.1), .int (nI jn), .int (nI pq.2.2.1), .int pq.2.2.2.1, .int (nI pq.2.2.2.2.1), .int pq.2.2.2.2.2, .int (nI pq.2.2.2.2.1), .int (-1), .ref g15, .int w16, .ref g17, .int w18, .int w19, .ref g20, .int w21, .ref g22, .ref g23, .ref g24, .int w25, .int w26, .int w27, .ref g28, .ref g29, .int w30, .ref g31, .ref g32, .ref g33])), (g1, .inl (T 0, 282, .inl f225)), (g3, .inl (T 0, 900, .inl ft)), (g4, .inl (T 0, 94, .inl f77))] H locs → lv_has ls 3 [(2, .int (nI k225)), (0, .ref o), (1, .int (nI jn))] → W p l e (rmD 9 0 0) s m args below meth c H locs 0 0 (MQ below (gQ D A (q_m_street_f T n o n_ w0 g1 g2 g3 g4 tp w6 w7 w8 w9 w10 w11 w12 w13 w14 g15 w16 g17 w18 w19 g20 w21 g22 g23 g24 w25 w26 w27 g28 g29 w30 g31 g32 g33 fa ft ff)) args s 0 0 A) (F0 m 225 ls []) := by
                        intro fu_225
                        induction fu_225 with
                        | zero => intro k225 f225 hk225 h225a h225c hmu; exact absurd hmu (Nat.not_lt_zero _)
                        | succ fu_225 ih_225 =>
                          intro k225 f225 hk225 h225a h225c hmu_225 H locs ls V hl
                          refine lv_iload_n hx hb dX8_street_225 rfl (lv_at hl 0 rfl) ?_
                          refine lv_bipush (v := (nI 94)) hx hb dX8_street_226 (by decide +kernel) ?_
                          refine lv_icmp_ge (tgt := 249) hx hb dX8_street_228 (by decide) (fun c_16 => ?_) (fun c_16 => ?_)
                          · skip
                            have c_16 := b_le (by omega) (by omega) c_16
                            refine lv_iconst (v := (nI 0)) hx hb dX8_street_249 (by decide +kernel) ?_
                            refine lv_istore_n (lv' := [(2, .int (nI 0)), (0, .ref o), (1, .int (nI jn))]) hx hb dX8_street_250 rfl hl (by decide) rfl (fun ls hl => ?_)
                            have L_17 : ∀ (fu : Nat) (k251 : Nat) (f251 : Nat → Int32), k251 ≤ nq → (∀ j, j < 84 → f251 j = f77 j) → (∀ i, i < k251 → bd (f251 (84 + i)) nq) → (∀ j, 94 ≤ j → f251 j = fa j) → (∀ i, i < k251 → f251 (84 + i) = stR nq f77 i) → (∀ i, k251 ≤ i → i < 10 → f251 (84 + i) = f77 (84 + i)) → nq - k251 < fu → ∀ (H : Heap) (locs : List Loc) (ls : Array Slot), gW D T A s [(o, .inr (8, [.int (nI 0), .ref g1, .ref g2, .ref g3, .ref g4, .int (nI 0), .int (nI pq.1), .int (nI pq.2.1), .int (nI jn), .int (nI pq.2.2.1), .int pq.2.2.2.1, .int (nI pq.2.2.2.2.1), .int pq.2.2.2.2.2, .int (nI pq.2.2.2.2.1), .int (-1), .ref g15, .int w16, .ref g17, .int w18, .int w19, .ref g20, .int w21, .ref g22, .ref g23, .ref g24, .int w25, .int w26, .int w27, .ref g28, .ref g29, .int w30, .ref g31, .ref g32, .ref g33])), (g1, .inl (T 0, 282, .inl f251)), (g3, .inl (T 0, 900, .inl ft)), (g4, .inl (T 0, 94, .inl f77))] H locs → lv_has ls 3 [(2, .int (nI k251)), (0, .ref o), (1, .int (nI jn))] → W p l e (rmD 9 0 0) s m args below meth c H locs 0 0 (MQ below (gQ D A (q_m_street_f T n o n_ w0 g1 g2 g3 g4 tp w6 w7 w8 w9 w10 w11 w12 w13 w14 g15 w16 g17 w18 w19 g20 w21 g22 g23 g24 w25 w26 w27 g28 g29 w30 g31 g32 g33 fa ft ff)) args s 0 0 A) (F0 m 251 ls []) := by
                              intro fu_251
                              induction fu_251 with
                              | zero => intro k251 f251 hk251 h251a h251b h251c h251d h251e hmu; exact absurd hmu (Nat.not_lt_zero _)
                              | succ fu_251 ih_251 =>
                                intro k251 f251 hk251 h251a h251b h251c h251d h251e hmu_251 H locs ls V hl
                                refine lv_iload_n hx hb dX8_street_251 rfl (lv_at hl 0 rfl) ?_
                                refine lv_aload_n hx hb dX8_street_252 rfl (lv_at hl 1 rfl) ?_
                                refine g_get hC V (ci := 8) uwX8 0 rfl rfl 1 (by decide) w_913 rfl rfl dX8_street_253 ?_
                                refine lv_iconst (v := (nI 0)) hx hb dX8_street_256 (by decide +kernel) ?_
                                refine g_iald hC V 1 rfl (vp_in_nI (by decide) (by decide)) (v := (nI nq)) (by rw [nI_clamp (by decide)]; first | rfl | exact ((h251a 0 (by decide)).trans hF2.2.1) | exact h_a.2.1) dX8_street_257 ?_
                                refine lv_icmp_ge (tgt := 312) hx hb dX8_street_258 (by decide) (fun c_18 => ?_) (fun c_18 => ?_)
                                · skip
                                  have c_18 := b_le (by omega) (by omega) c_18
                                  refine lv_aload_n hx hb dX8_street_312 rfl (lv_at hl 1 rfl) ?_
                                  refine g_get hC V (ci := 8) uwX8 0 rfl rfl 1 (by decide) w_913 rfl rfl dX8_street_313 ?_
                                  refine lv_iconst (v := (nI 3)) hx hb dX8_street_316 (by decide +kernel) ?_
                                  refine g_iald hC V 1 rfl (vp_in_nI (by decide) (by decide)) (v := (f251 3)) (congrArg _ (nI_clamp (by decide))) dX8_street_317 ?_
                                  exact g_iret (Qr := (q_m_street_f T n o n_ w0 g1 g2 g3 g4 tp w6 w7 w8 w9 w10 w11 w12 w13 w14 g15 w16 g17 w18 w19 g20 w21 g22 g23 g24 w25 w26 w27 g28 g29 w30 g31 g32 g33 fa ft ff)) hC V ⟨(Nat.le_of_ble_eq_true rfl), (Nat.le_of_ble_eq_true rfl)⟩ (.inr ⟨(f251 3), jn, (nq, pq, f77), f251, nq, rfl, (by rw [show stP (nq, pq, f77) = -1 from if_pos (by assumption)]), ejn, (by omega), (FN_mk hit (by first | exact Or.inr (by assumption) | exact Or.inl (by assumption)) hns), ((h251a 3 (by decide)).trans (if_pos (by assumption)).symm), (stG_0 (by assumption) hn10 h251a (fun i hi => h251d i (by omega)) (fun i h1 h2 => h251e i (by omega) h2) h251c), (so_mi hF2 h251a (fun i hi => h251b i (by omega))), h251c, hP, (fun _ => hF2), (fun _ => rfl)⟩) dX8_street_318
                                · skip
                                  have c_18 := b_nle (by omega) (by omega) c_18
                                  refine lv_aload_n hx hb dX8_street_261 rfl (lv_at hl 1 rfl) ?_
                                  refine g_get hC V (ci := 8) uwX8 0 rfl rfl 1 (by decide) w_913 rfl rfl dX8_street_262 ?_
                                  refine lv_bipush (v := (nI 84)) hx hb dX8_street_265 (by decide +kernel) ?_
                                  refine lv_iload_n hx hb dX8_street_267 rfl (lv_at hl 0 rfl) ?_
                                  refine lv_iadd hx hb dX8_street_268 ?_
                                  refine g_vi (y := (nI (84 + k251))) (nI_add _ _) ?_
                                  refine lv_aload_n hx hb dX8_street_269 rfl (lv_at hl 1 rfl) ?_
                                  refine g_get hC V (ci := 8) uwX8 0 rfl rfl 4 (by decide) w_916 rfl rfl dX8_street_270 ?_
                                  refine lv_bipush (v := (nI 84)) hx hb dX8_street_273 (by decide +kernel) ?_
                                  refine lv_iload_n hx hb dX8_street_275 rfl (lv_at hl 0 rfl) ?_
                                  refine lv_iadd hx hb dX8_street_276 ?_
                                  refine g_vi (y := (nI (84 + k251))) (nI_add _ _) ?_
                                  obtain ⟨j_19, hj_19, ej_19⟩ := bd_ex (fr_to hF2 (i := k251) (by omega))
                                  refine g_iald hC V 3 rfl (vp_in_nI (by omega) (by omega)) (v := (nI j_19)) (by rw [nI_clamp (by omega)]; exact ej_19) dX8_street_277 ?_
                                  refine lv_if_le (tgt := 295) hx hb dX8_street_278 (by decide) (fun c_20 => ?_) (fun c_20 => ?_)
                                  · skip
                                    rw [show (0 : Int32) = nI 0 from rfl] at c_20
                                    have c_20 := b_le (by omega) (by omega) c_20
                                    refine lv_iload_n hx hb dX8_street_295 rfl (lv_at hl 0 rfl) ?_
                                    refine lv_iconst (v := (nI 1)) hx hb dX8_street_296 (by decide +kernel) ?_
                                    refine lv_iadd hx hb dX8_street_297 ?_
                                    refine g_vi (y := (nI (k251 + 1))) (nI_add _ _) ?_
                                    refine lv_aload_n hx hb dX8_street_298 rfl (lv_at hl 1 rfl) ?_
                                    refine g_get hC V (ci := 8) uwX8 0 rfl rfl 1 (by decide) w_913 rfl rfl dX8_street_299 ?_
                                    refine lv_iconst (v := (nI 0)) hx hb dX8_street_302 (by decide +kernel) ?_
                                    refine g_iald hC V 1 rfl (vp_in_nI (by decide) (by decide)) (v := (nI nq)) (by rw [nI_clamp (by decide)]; first | rfl | exact ((h251a 0 (by decide)).trans hF2.2.1) | exact h_a.2.1) dX8_street_303 ?_
                                    refine lv_irem hx hb dX8_street_304 (nI_ne0 (by omega) (by omega)) ?_
                                    refine g_vi (y := (nI ((k251 + 1) % nq))) (nI_rem (by omega) (by omega)) ?_
                                    refine g_iast hC V 1 rfl (vp_in_nI (by omega) (by omega)) (f' := (upd f251 (84 + k251) (nI ((k251 + 1) % nq)))) (by rw [nI_clamp (by omega)]) (ws' := [(o, .inr (8, [.int (nI 0), .ref g1, .ref g2, .ref g3, .ref g4, .int (nI 0), .int (nI pq.1), .int (nI pq.2.1), .int (nI jn), .int (nI pq.2.2.1), .int pq.2.2.2.1, .int (nI pq.2.2.2.2.1), .int pq.2.2.2.2.2, .int (nI pq.2.2.2.2.1), .int (-1), .ref g15, .int w16, .ref g17, .int w18, .int w19, .ref g20, .int w21, .ref g22, .ref g23, .ref g24, .int w25, .int w26, .int w27, .ref g28, .ref g29, .int w30, .ref g31, .ref g32, .ref g33])), (g1, .inl (T 0, 282, .inl (upd f251 (84 + k251) (nI ((k251 + 1) % nq))))), (g3, .inl (T 0, 900, .inl ft)), (g4, .inl (T 0, 94, .inl f77))]) rfl dX8_street_305 (fun H locs V => ?_)
                                    refine lv_iinc (v := (nI (k251 + 1))) (lv' := [(2, .int (nI (k251 + 1))), (0, .ref o), (1, .int (nI jn))]) hx hb dX8_street_306 hl (k := 0) rfl (nI_1 _) (by decide) rfl (fun ls hl => ?_)
                                    refine lv_goto (tgt := 251) hx hb dX8_street_309 (by decide) ?_
                                    exact ih_251 (k251 + 1) (upd f251 (84 + k251) (nI ((k251 + 1) % nq))) (by omega) (fun j hj => (up_other (by omega)).trans (h251a j hj)) (so_st h251b (by first | exact bd_nI (by omega) | exact bd_nI (Nat.mod_lt _ (by omega)) | exact bd_pred (by omega) (by assumption))) (fun j hj => (up_other (by omega)).trans (h251c j hj)) (up84 h251d (stR_2 ej_19 (by omega))) (fun i h1 h2 => (up_other (by omega)).trans (h251e i (by omega) h2)) (by omega) _ _ _ V (lv_sub hl [0, 1, 2] rfl)
                                  · skip
                                    rw [show (0 : Int32) = nI 0 from rfl] at c_20
                                    have c_20 := b_nle (by omega) (by omega) c_20
                                    refine lv_aload_n hx hb dX8_street_281 rfl (lv_at hl 1 rfl) ?_
                                    refine g_get hC V (ci := 8) uwX8 0 rfl rfl 4 (by decide) w_916 rfl rfl dX8_street_282 ?_
                                    refine lv_bipush (v := (nI 84)) hx hb dX8_street_285 (by decide +kernel) ?_
                                    refine lv_iload_n hx hb dX8_street_287 rfl (lv_at hl 0 rfl) ?_
                                    refine lv_iadd hx hb dX8_street_288 ?_
                                    refine g_vi (y := (nI (84 + k251))) (nI_add _ _) ?_
                                    refine g_iald hC V 3 rfl (vp_in_nI (by omega) (by omega)) (v := (nI j_19)) (by rw [nI_clamp (by omega)]; exact ej_19) dX8_street_289 ?_
                                    refine lv_iconst (v := (nI 1)) hx hb dX8_street_290 (by decide +kernel) ?_
                                    refine lv_isub hx hb dX8_street_291 ?_
                                    refine g_vi (y := (nI (j_19 - 1))) (nI_sub (by omega)) ?_
                                    refine lv_goto (tgt := 305) hx hb dX8_street_292 (by decide) ?_
                                    refine g_iast hC V 1 rfl (vp_in_nI (by omega) (by omega)) (f' := (upd f251 (84 + k251) (nI (j_19 - 1)))) (by rw [nI_clamp (by omega)]) (ws' := [(o, .inr (8, [.int (nI 0), .ref g1, .ref g2, .ref g3, .ref g4, .int (nI 0), .int (nI pq.1), .int (nI pq.2.1), .int (nI jn), .int (nI pq.2.2.1), .int pq.2.2.2.1, .int (nI pq.2.2.2.2.1), .int pq.2.2.2.2.2, .int (nI pq.2.2.2.2.1), .int (-1), .ref g15, .int w16, .ref g17, .int w18, .int w19, .ref g20, .int w21, .ref g22, .ref g23, .ref g24, .int w25, .int w26, .int w27, .ref g28, .ref g29, .int w30, .ref g31, .ref g32, .ref g33])), (g1, .inl (T 0, 282, .inl (upd f251 (84 + k251) (nI (j_19 - 1))))), (g3, .inl (T 0, 900, .inl ft)), (g4, .inl (T 0, 94, .inl f77))]) rfl dX8_street_305 (fun H locs V => ?_)
                                    refine lv_iinc (v := (nI (k251 + 1))) (lv' := [(2, .int (nI (k251 + 1))), (0, .ref o), (1, .int (nI jn))]) hx hb dX8_street_306 hl (k := 0) rfl (nI_1 _) (by decide) rfl (fun ls hl => ?_)
                                    refine lv_goto (tgt := 251) hx hb dX8_street_309 (by decide) ?_
                                    exact ih_251 (k251 + 1) (upd f251 (84 + k251) (nI (j_19 - 1))) (by omega) (fun j hj => (up_other (by omega)).trans (h251a j hj)) (so_st h251b (by first | exact bd_nI (by omega) | exact bd_nI (Nat.mod_lt _ (by omega)) | exact bd_pred (by omega) (by assumption))) (fun j hj => (up_other (by omega)).trans (h251c j hj)) (up84 h251d (stR_1 ej_19 (by omega) (by omega))) (fun i h1 h2 => (up_other (by omega)).trans (h251e i (by omega) h2)) (by omega) _ _ _ V (lv_sub hl [0, 1, 2] rfl)
                            exact L_17 _ 0 f225 (by omega) (fun j hj => h225a j (by omega)) (fun i h => absurd h (Nat.not_lt_zero _)) h225c (fun i h => absurd h (Nat.not_lt_zero _)) (fun i _ hi => h225a _ (by omega)) (Nat.lt_succ_self _) _ _ _ V (lv_sub hl [0, 1, 2] rfl)
                          · skip
                            have c_16 := b_nle (by omega) (by omega) c_16
                            refine lv_aload_n hx hb dX8_street_231 rfl (lv_at hl 1 rfl) ?_
                            refine g_get hC V (ci := 8) uwX8 0 rfl rfl 1 (by decide) w_913 rfl rfl dX8_street_232 ?_
                            refine lv_iload_n hx hb dX8_street_235 rfl (lv_at hl 0 rfl) ?_
                            refine lv_aload_n hx hb dX8_street_236 rfl (lv_at hl 1 rfl) ?_
                            refine g_get hC V (ci := 8) uwX8 0 rfl rfl 4 (by decide) w_916 rfl rfl dX8_street_237 ?_
                            refine lv_iload_n hx hb dX8_street_240 rfl (lv_at hl 0 rfl) ?_
                            refine g_iald hC V 3 rfl (vp_in_nI (by omega) (by omega)) (v := (f77 k225)) (congrArg _ (nI_clamp (by omega))) dX8_street_241 ?_
                            refine g_iast hC V 1 rfl (vp_in_nI (by omega) (by omega)) (f' := (upd f225 k225 (f77 k225))) (by rw [nI_clamp (by omega)]) (ws' := [(o, .inr (8, [.int (nI 0), .ref g1, .ref g2, .ref g3, .ref g4, .int (nI 0), .int (nI pq.1), .int (nI pq.2.1), .int (nI jn), .int (nI pq.2.2.1), .int pq.2.2.2.1, .int (nI pq.2.2.2.2.1), .int pq.2.2.2.2.2, .int (nI pq.2.2.2.2.1), .int (-1), .ref g15, .int w16, .ref g17, .int w18, .int w19, .ref g20, .int w21, .ref g22, .ref g23, .ref g24, .int w25, .int w26, .int w27, .ref g28, .ref g29, .int w30, .ref g31, .ref g32, .ref g33])), (g1, .inl (T 0, 282, .inl (upd f225 k225 (f77 k225)))), (g3, .inl (T 0, 900, .inl ft)), (g4, .inl (T 0, 94, .inl f77))]) rfl dX8_street_242 (fun H locs V => ?_)
                            refine lv_iinc (v := (nI (k225 + 1))) (lv' := [(2, .int (nI (k225 + 1))), (0, .ref o), (1, .int (nI jn))]) hx hb dX8_street_243 hl (k := 0) rfl (nI_1 _) (by decide) rfl (fun ls hl => ?_)
                            refine lv_goto (tgt := 225) hx hb dX8_street_246 (by decide) ?_
                            exact ih_225 (k225 + 1) (upd f225 k225 (f77 k225)) (by omega) (up_one (p := fun j y => y = f77 j) h225a rfl) (fun j hj => (up_other (by omega)).trans (h225c j hj)) (by omega) _ _ _ V (lv_sub hl [0, 1, 2] rfl)
                      exact L_15 _ 0 fa (by omega) (fun i h => absurd h (Nat.not_lt_zero _)) (fun _ _ => rfl) (Nat.lt_succ_self _) _ _ _ V (lv_sub hl [0, 1, 2] rfl)
                    · skip
                      rw [show (0 : Int32) = nI 0 from rfl] at c_14
                      have c_14 := b_ne (by omega) (by omega) c_14
                      exact (by omega : False).elim
                · skip
                  have c_12 := b_ne (by omega) (by omega) c_12
                  have hk11 := c_12
                  refine lv_aload_n hx hb dX8_street_93 rfl (lv_at hl 0 rfl) ?_
                  refine lv_iconst (v := (nI 0)) hx hb dX8_street_94 (by decide +kernel) ?_
                  refine g_callVU (nA := 1) hC V hl.1 (m_is_f l D T pq jn o 0 (nI 0) g1 g2 g3 g4 0 w13 w14 g15 w16 g17 w18 w19 g20 w21 g22 g23 g24 w25 w26 w27 g28 g29 w30 g31 g32 g33 (by first | assumption | omega) (by first | assumption | omega) (by first | assumption | omega)) w_1047 w_1049 w_s39 w_9 w_1050 (by decide +kernel) rfl ⟨(Nat.le_of_ble_eq_true rfl), (Nat.le_of_ble_eq_true rfl)⟩ 0 (ci := 8) rfl rfl [0] rfl rfl (Nat.le_of_ble_eq_true rfl) dX8_street_95 ⟨(Nat.le_of_ble_eq_true rfl), (Nat.le_of_ble_eq_true rfl)⟩ rfl (fun r w1 H locs hQ V => ?_)
                  rcases hQ with ⟨rfl, rfl, f_21, f_22⟩ | ⟨rfl, rfl, f_23⟩
                  · have V : gW D T A s [(o, .inr (8, [.int (nI 0), .ref g1, .ref g2, .ref g3, .ref g4, .int (nI 0), .int (nI pq.1), .int (nI pq.2.1), .int (nI jn), .int (nI pq.2.2.1), .int pq.2.2.2.1, .int (nI pq.2.2.2.2.1), .int pq.2.2.2.2.2, .int w13, .int w14, .ref g15, .int w16, .ref g17, .int w18, .int w19, .ref g20, .int w21, .ref g22, .ref g23, .ref g24, .int w25, .int w26, .int w27, .ref g28, .ref g29, .int w30, .ref g31, .ref g32, .ref g33])), (g1, .inl (T 0, 282, .inl fa)), (g3, .inl (T 0, 900, .inl ft)), (g4, .inl (T 0, 94, .inl f77))] H locs := V _ [0] rfl rfl rfl (by decide +kernel) rfl
                    show W p l e _ s m args below meth c H locs _ _ _ (F0 m 98 ls [.int (nI 1)])
                    have hk0 := f_22
                    refine lv_if_eq (tgt := 108) hx hb dX8_street_98 (by decide) (fun c => absurd (show (nI 1) = 0 from c) (by decide +kernel)) (fun _ => ?_)
                    refine lv_aload_n hx hb dX8_street_101 rfl (lv_at hl 0 rfl) ?_
                    refine g_callVU (nA := 0) hC V hl.1 (m_readSmith_f l D T pq nq o (nI 0) g1 g2 g3 g4 0 jn w13 w14 g15 w16 g17 w18 w19 g20 w21 g22 g23 g24 w25 w26 w27 g28 g29 w30 g31 g32 g33 ft f77 (by first | assumption | omega) (by first | assumption | omega) (by first | assumption | omega) (by first | assumption | omega)) w_1051 w_1053 w_s40 w_9 w_1054 (by decide +kernel) rfl ⟨(Nat.le_of_ble_eq_true rfl), (Nat.le_of_ble_eq_true rfl)⟩ 0 (ci := 8) rfl rfl [0, 2, 3] rfl rfl (Nat.le_of_ble_eq_true rfl) dX8_street_102 ⟨(Nat.le_of_ble_eq_true rfl), (Nat.le_of_ble_eq_true rfl)⟩ rfl (fun r w1 H locs hQ V => ?_)
                    obtain ⟨p2_24, gf_25, rfl, rfl, f_26, f_27⟩ := hQ
                    have V : gW D T A s [(o, .inr (8, [.int (nI 0), .ref g1, .ref g2, .ref g3, .ref g4, .int (nI 0), .int (nI p2_24.1), .int (nI p2_24.2.1), .int (nI jn), .int (nI p2_24.2.2.1), .int p2_24.2.2.2.1, .int (nI p2_24.2.2.2.2.1), .int p2_24.2.2.2.2.2, .int w13, .int w14, .ref g15, .int w16, .ref g17, .int w18, .int w19, .ref g20, .int w21, .ref g22, .ref g23, .ref g24, .int w25, .int w26, .int w27, .ref g28, .ref g29, .int w30, .ref g31, .ref g32, .ref g33])), (g1, .inl (T 0, 282, .inl fa)), (g3, .inl (T 0, 900, .inl ft)), (g4, .inl (T 0, 94, .inl gf_25))] H locs := V _ [0, 1, 0] rfl rfl rfl (by decide +kernel) rfl
                    show W p l e _ s m args below meth c H locs _ _ _ (F0 m 105 ls [])
                    have hPl : PI ft jn p2_24 := by rw [f_26]; exact PI_sm hP
                    obtain ⟨_, _, _, _, -⟩ := id hPl
                    have hFs : FR (smN ft jn nq pq) gf_25 := by rw [f_27]; exact FR_sm hF
                    refine lv_goto (tgt := 154) hx hb dX8_street_105 (by decide) ?_
                    refine lv_aload_n hx hb dX8_street_154 rfl (lv_at hl 0 rfl) ?_
                    refine lv_bipush (v := (nI 10)) hx hb dX8_street_155 (by decide +kernel) ?_
                    refine g_callVU (nA := 1) hC V hl.1 (m_eats_f l D T p2_24 o 10 (nI 0) g1 g2 g3 g4 0 jn w13 w14 g15 w16 g17 w18 w19 g20 w21 g22 g23 g24 w25 w26 w27 g28 g29 w30 g31 g32 g33 ft (by first | assumption | omega) (by first | assumption | omega) (by first | assumption | omega)) w_1067 w_1069 w_s44 w_9 w_1070 (by decide +kernel) rfl ⟨(Nat.le_of_ble_eq_true rfl), (Nat.le_of_ble_eq_true rfl)⟩ 0 (ci := 8) rfl rfl [0, 2] rfl rfl (Nat.le_of_ble_eq_true rfl) dX8_street_157 ⟨(Nat.le_of_ble_eq_true rfl), (Nat.le_of_ble_eq_true rfl)⟩ rfl (fun r w1 H locs hQ V => ?_)
                    rcases hQ with ⟨p2_28, rfl, rfl, f_29, f_30, f_31⟩ | ⟨rfl, rfl, f_32⟩
                    · have V : gW D T A s [(o, .inr (8, [.int (nI 0), .ref g1, .ref g2, .ref g3, .ref g4, .int (nI 0), .int (nI p2_28.1), .int (nI p2_28.2.1), .int (nI jn), .int (nI p2_28.2.2.1), .int p2_28.2.2.2.1, .int (nI p2_28.2.2.2.2.1), .int p2_28.2.2.2.2.2, .int w13, .int w14, .ref g15, .int w16, .ref g17, .int w18, .int w19, .ref g20, .int w21, .ref g22, .ref g23, .ref g24, .int w25, .int w26, .int w27, .ref g28, .ref g29, .int w30, .ref g31, .ref g32, .ref g33])), (g1, .inl (T 0, 282, .inl fa)), (g3, .inl (T 0, 900, .inl ft)), (g4, .inl (T 0, 94, .inl gf_25))] H locs := V _ [0, 1] rfl rfl rfl (by decide +kernel) rfl
                      show W p l e _ s m args below meth c H locs _ _ _ (F0 m 160 ls [.int (nI 1)])
                      have hP2 : PI ft jn p2_28 := by rw [f_29]; exact PI_nxI hPl
                      obtain ⟨_, _, _, _, -⟩ := id hP2
                      refine lv_if_ne (tgt := 168) hx hb dX8_street_160 (by decide) (fun _ => ?_) (fun c => absurd (show (nI 1) = 0 from c) (by decide +kernel))
                      refine lv_aload_n hx hb dX8_street_168 rfl (lv_at hl 0 rfl) ?_
                      refine g_get hC V (ci := 8) uwX8 0 rfl rfl 4 (by decide) w_916 rfl rfl dX8_street_169 ?_
                      refine lv_iconst (v := (nI 3)) hx hb dX8_street_172 (by decide +kernel) ?_
                      refine lv_dup2_11 hx hb dX8_street_173 rfl rfl ?_
                      refine g_iald hC V 3 rfl (vp_in_nI (by decide) (by decide)) (v := (gf_25 3)) (congrArg _ (nI_clamp (by decide))) dX8_street_174 ?_
                      refine lv_iconst (v := (nI 1)) hx hb dX8_street_175 (by decide +kernel) ?_
                      refine lv_iadd hx hb dX8_street_176 ?_
                      refine g_iast hC V 3 rfl (vp_in_nI (by decide) (by decide)) (f' := (upd gf_25 3 ((gf_25 3) + (nI 1)))) (by rw [nI_clamp (by decide)]) (ws' := [(o, .inr (8, [.int (nI 0), .ref g1, .ref g2, .ref g3, .ref g4, .int (nI 0), .int (nI p2_28.1), .int (nI p2_28.2.1), .int (nI jn), .int (nI p2_28.2.2.1), .int p2_28.2.2.2.1, .int (nI p2_28.2.2.2.2.1), .int p2_28.2.2.2.2.2, .int w13, .int w14, .ref g15, .int w16, .ref g17, .int w18, .int w19, .ref g20, .int w21, .ref g22, .ref g23, .ref g24, .int w25, .int w26, .int w27, .ref g28, .ref g29, .int w30, .ref g31, .ref g32, .ref g33])), (g1, .inl (T 0, 282, .inl fa)), (g3, .inl (T 0, 900, .inl ft)), (g4, .inl (T 0, 94, .inl (upd gf_25 3 ((gf_25 3) + (nI 1)))))]) rfl dX8_street_177 (fun H locs V => ?_)
                      have hl1 : lnA ft jn (nq, pq, f77) = ((smN ft jn nq pq), p2_24, gf_25) := (by rw [ln_sm (n := nq) (p := pq) (f := f77) hk0, ← f_26, ← f_27])
                      have hl2 : p2_28 = edS ft jn p2_24 := (f_29.trans (ed_y f_30 f_31).symm)
                      have hln2 : ((smN ft jn nq pq), p2_28, upd gf_25 3 (gf_25 3 + nI 1)) = lnS ft jn (nq, pq, f77) := by unfold lnS; rw [hl1, ← hl2]
                      have hln : ((smN ft jn nq pq), p2_28, upd gf_25 3 (gf_25 3 + nI 1)) = itS ft jn (0, nxS ft jn (0, 0, 0, w10, 0, w12), frI ff) (kq + 1) := by show _ = lnS ft jn (itS ft jn (0, nxS ft jn (0, 0, 0, w10, 0, w12), frI ff) kq); rw [← hit]; exact hln2
                      refine lv_goto (tgt := 77) hx hb dX8_street_178 (by decide) ?_
                      exact ih_77 (upd gf_25 3 ((gf_25 3) + (nI 1))) p2_28 (smN ft jn nq pq) (kq + 1) hln (no_stp hit hw0 hk11 hns) hP2 (fun _ => fr_line hFs) (Nat.lt_of_lt_of_le (rdS_dec hP hw0 hk11 hln2) (Nat.le_of_lt_succ hmu_77)) _ _ _ V (lv_sub hl [0, 1] rfl)
                    · have V : gW D T A s [(o, .inr (8, [.int (nI 0), .ref g1, .ref g2, .ref g3, .ref g4, .int (nI 0), .int (nI p2_24.1), .int (nI p2_24.2.1), .int (nI jn), .int (nI p2_24.2.2.1), .int p2_24.2.2.2.1, .int (nI p2_24.2.2.2.2.1), .int p2_24.2.2.2.2.2, .int w13, .int w14, .ref g15, .int w16, .ref g17, .int w18, .int w19, .ref g20, .int w21, .ref g22, .ref g23, .ref g24, .int w25, .int w26, .int w27, .ref g28, .ref g29, .int w30, .ref g31, .ref g32, .ref g33])), (g1, .inl (T 0, 282, .inl fa)), (g3, .inl (T 0, 900, .inl ft)), (g4, .inl (T 0, 94, .inl gf_25))] H locs := V _ [0, 1] rfl rfl rfl (by decide +kernel) rfl
                      show W p l e _ s m args below meth c H locs _ _ _ (F0 m 160 ls [.int (nI 0)])
                      refine lv_if_ne (tgt := 168) hx hb dX8_street_160 (by decide) (fun c => absurd (show (nI 0) = 0 by decide +kernel) c) (fun _ => ?_)
                      refine lv_aload_n hx hb dX8_street_163 rfl (lv_at hl 0 rfl) ?_
                      refine lv_iconst (v := (nI 2)) hx hb dX8_street_164 (by decide +kernel) ?_
                      refine g_callVU (nA := 1) hC V hl.1 (m_fails_f l D T p2_24 jn o 2 (nI 0) g1 g2 g3 g4 0 w13 w14 g15 w16 g17 w18 w19 g20 w21 g22 g23 g24 w25 w26 w27 g28 g29 w30 g31 g32 g33 (by first | assumption | omega) (by first | assumption | omega)) w_1055 w_1057 w_s41 w_9 w_1058 (by decide +kernel) rfl ⟨(Nat.le_of_ble_eq_true rfl), (Nat.le_of_ble_eq_true rfl)⟩ 0 (ci := 8) rfl rfl [0] rfl rfl (Nat.le_of_ble_eq_true rfl) dX8_street_165 ⟨(Nat.le_of_ble_eq_true rfl), (Nat.le_of_ble_eq_true rfl)⟩ rfl (fun r w1 H locs hQ V => ?_)
                      obtain ⟨p2_33, rfl, rfl, f_34⟩ := hQ
                      have V : gW D T A s [(o, .inr (8, [.int (nI 0), .ref g1, .ref g2, .ref g3, .ref g4, .int (nI 0), .int (nI p2_33.1), .int (nI p2_33.2.1), .int (nI jn), .int (nI p2_33.2.2.1), .int p2_33.2.2.2.1, .int (nI p2_33.2.2.2.2.1), .int p2_33.2.2.2.2.2, .int w13, .int w14, .ref g15, .int w16, .ref g17, .int w18, .int w19, .ref g20, .int w21, .ref g22, .ref g23, .ref g24, .int w25, .int w26, .int w27, .ref g28, .ref g29, .int w30, .ref g31, .ref g32, .ref g33])), (g1, .inl (T 0, 282, .inl fa)), (g3, .inl (T 0, 900, .inl ft)), (g4, .inl (T 0, 94, .inl gf_25))] H locs := V _ [0] rfl rfl rfl (by decide +kernel) rfl
                      show W p l e _ s m args below meth c H locs _ _ _ (F0 m 168 ls [])
                      have hP2 : PI ft jn p2_33 := by rw [f_34]; exact PI_fa hPl (by decide)
                      obtain ⟨_, _, _, _, -⟩ := id hP2
                      refine lv_aload_n hx hb dX8_street_168 rfl (lv_at hl 0 rfl) ?_
                      refine g_get hC V (ci := 8) uwX8 0 rfl rfl 4 (by decide) w_916 rfl rfl dX8_street_169 ?_
                      refine lv_iconst (v := (nI 3)) hx hb dX8_street_172 (by decide +kernel) ?_
                      refine lv_dup2_11 hx hb dX8_street_173 rfl rfl ?_
                      refine g_iald hC V 3 rfl (vp_in_nI (by decide) (by decide)) (v := (gf_25 3)) (congrArg _ (nI_clamp (by decide))) dX8_street_174 ?_
                      refine lv_iconst (v := (nI 1)) hx hb dX8_street_175 (by decide +kernel) ?_
                      refine lv_iadd hx hb dX8_street_176 ?_
                      refine g_iast hC V 3 rfl (vp_in_nI (by decide) (by decide)) (f' := (upd gf_25 3 ((gf_25 3) + (nI 1)))) (by rw [nI_clamp (by decide)]) (ws' := [(o, .inr (8, [.int (nI 0), .ref g1, .ref g2, .ref g3, .ref g4, .int (nI 0), .int (nI p2_33.1), .int (nI p2_33.2.1), .int (nI jn), .int (nI p2_33.2.2.1), .int p2_33.2.2.2.1, .int (nI p2_33.2.2.2.2.1), .int p2_33.2.2.2.2.2, .int w13, .int w14, .ref g15, .int w16, .ref g17, .int w18, .int w19, .ref g20, .int w21, .ref g22, .ref g23, .ref g24, .int w25, .int w26, .int w27, .ref g28, .ref g29, .int w30, .ref g31, .ref g32, .ref g33])), (g1, .inl (T 0, 282, .inl fa)), (g3, .inl (T 0, 900, .inl ft)), (g4, .inl (T 0, 94, .inl (upd gf_25 3 ((gf_25 3) + (nI 1)))))]) rfl dX8_street_177 (fun H locs V => ?_)
                      have hl1 : lnA ft jn (nq, pq, f77) = ((smN ft jn nq pq), p2_24, gf_25) := (by rw [ln_sm (n := nq) (p := pq) (f := f77) hk0, ← f_26, ← f_27])
                      have hl2 : p2_33 = edS ft jn p2_24 := (f_34.trans (ed_n f_32).symm)
                      have hln2 : ((smN ft jn nq pq), p2_33, upd gf_25 3 (gf_25 3 + nI 1)) = lnS ft jn (nq, pq, f77) := by unfold lnS; rw [hl1, ← hl2]
                      have hln : ((smN ft jn nq pq), p2_33, upd gf_25 3 (gf_25 3 + nI 1)) = itS ft jn (0, nxS ft jn (0, 0, 0, w10, 0, w12), frI ff) (kq + 1) := by show _ = lnS ft jn (itS ft jn (0, nxS ft jn (0, 0, 0, w10, 0, w12), frI ff) kq); rw [← hit]; exact hln2
                      refine lv_goto (tgt := 77) hx hb dX8_street_178 (by decide) ?_
                      exact ih_77 (upd gf_25 3 ((gf_25 3) + (nI 1))) p2_33 (smN ft jn nq pq) (kq + 1) hln (no_stp hit hw0 hk11 hns) hP2 (fun _ => fr_line hFs) (Nat.lt_of_lt_of_le (rdS_dec hP hw0 hk11 hln2) (Nat.le_of_lt_succ hmu_77)) _ _ _ V (lv_sub hl [0, 1] rfl)
                  · have V : gW D T A s [(o, .inr (8, [.int (nI 0), .ref g1, .ref g2, .ref g3, .ref g4, .int (nI 0), .int (nI pq.1), .int (nI pq.2.1), .int (nI jn), .int (nI pq.2.2.1), .int pq.2.2.2.1, .int (nI pq.2.2.2.2.1), .int pq.2.2.2.2.2, .int w13, .int w14, .ref g15, .int w16, .ref g17, .int w18, .int w19, .ref g20, .int w21, .ref g22, .ref g23, .ref g24, .int w25, .int w26, .int w27, .ref g28, .ref g29, .int w30, .ref g31, .ref g32, .ref g33])), (g1, .inl (T 0, 282, .inl fa)), (g3, .inl (T 0, 900, .inl ft)), (g4, .inl (T 0, 94, .inl f77))] H locs := V _ [0] rfl rfl rfl (by decide +kernel) rfl
                    show W p l e _ s m args below meth c H locs _ _ _ (F0 m 98 ls [.int (nI 0)])
                    refine lv_if_eq (tgt := 108) hx hb dX8_street_98 (by decide) (fun _ => ?_) (fun c => absurd (show (nI 0) = 0 by decide +kernel) c)
                    refine lv_aload_n hx hb dX8_street_108 rfl (lv_at hl 0 rfl) ?_
                    refine lv_bipush (v := (nI 6)) hx hb dX8_street_109 (by decide +kernel) ?_
                    refine g_callVU (nA := 1) hC V hl.1 (m_eats_f l D T pq o 6 (nI 0) g1 g2 g3 g4 0 jn w13 w14 g15 w16 g17 w18 w19 g20 w21 g22 g23 g24 w25 w26 w27 g28 g29 w30 g31 g32 g33 ft (by first | assumption | omega) (by first | assumption | omega) (by first | assumption | omega)) w_1067 w_1069 w_s44 w_9 w_1070 (by decide +kernel) rfl ⟨(Nat.le_of_ble_eq_true rfl), (Nat.le_of_ble_eq_true rfl)⟩ 0 (ci := 8) rfl rfl [0, 2] rfl rfl (Nat.le_of_ble_eq_true rfl) dX8_street_111 ⟨(Nat.le_of_ble_eq_true rfl), (Nat.le_of_ble_eq_true rfl)⟩ rfl (fun r w1 H locs hQ V => ?_)
                    rcases hQ with ⟨p2_35, rfl, rfl, f_36, f_37, f_38⟩ | ⟨rfl, rfl, f_39⟩
                    · have V : gW D T A s [(o, .inr (8, [.int (nI 0), .ref g1, .ref g2, .ref g3, .ref g4, .int (nI 0), .int (nI p2_35.1), .int (nI p2_35.2.1), .int (nI jn), .int (nI p2_35.2.2.1), .int p2_35.2.2.2.1, .int (nI p2_35.2.2.2.2.1), .int p2_35.2.2.2.2.2, .int w13, .int w14, .ref g15, .int w16, .ref g17, .int w18, .int w19, .ref g20, .int w21, .ref g22, .ref g23, .ref g24, .int w25, .int w26, .int w27, .ref g28, .ref g29, .int w30, .ref g31, .ref g32, .ref g33])), (g1, .inl (T 0, 282, .inl fa)), (g3, .inl (T 0, 900, .inl ft)), (g4, .inl (T 0, 94, .inl f77))] H locs := V _ [0, 1] rfl rfl rfl (by decide +kernel) rfl
                      show W p l e _ s m args below meth c H locs _ _ _ (F0 m 114 ls [.int (nI 1)])
                      have hPe : PI ft jn p2_35 := by rw [f_36]; exact PI_nxI hP
                      obtain ⟨_, _, _, _, -⟩ := id hPe
                      refine lv_if_eq (tgt := 124) hx hb dX8_street_114 (by decide) (fun c => absurd (show (nI 1) = 0 from c) (by decide +kernel)) (fun _ => ?_)
                      refine lv_aload_n hx hb dX8_street_117 rfl (lv_at hl 0 rfl) ?_
                      refine g_callVU (nA := 0) hC V hl.1 (m_readBlows_f l D T p2_35 nq o (nI 0) g1 g2 g3 g4 0 jn w13 w14 g15 w16 g17 w18 w19 g20 w21 g22 g23 g24 w25 w26 w27 g28 g29 w30 g31 g32 g33 ft f77 (by first | assumption | omega) (by first | assumption | omega) (by first | assumption | omega)) w_1071 w_1073 w_s45 w_9 w_1074 (by decide +kernel) rfl ⟨(Nat.le_of_ble_eq_true rfl), (Nat.le_of_ble_eq_true rfl)⟩ 0 (ci := 8) rfl rfl [0, 2, 3] rfl rfl (Nat.le_of_ble_eq_true rfl) dX8_street_118 ⟨(Nat.le_of_ble_eq_true rfl), (Nat.le_of_ble_eq_true rfl)⟩ rfl (fun r w1 H locs hQ V => ?_)
                      obtain ⟨p2_40, gf_41, rfl, rfl, f_42, f_43⟩ := hQ
                      have V : gW D T A s [(o, .inr (8, [.int (nI 0), .ref g1, .ref g2, .ref g3, .ref g4, .int (nI 0), .int (nI p2_40.1), .int (nI p2_40.2.1), .int (nI jn), .int (nI p2_40.2.2.1), .int p2_40.2.2.2.1, .int (nI p2_40.2.2.2.2.1), .int p2_40.2.2.2.2.2, .int w13, .int w14, .ref g15, .int w16, .ref g17, .int w18, .int w19, .ref g20, .int w21, .ref g22, .ref g23, .ref g24, .int w25, .int w26, .int w27, .ref g28, .ref g29, .int w30, .ref g31, .ref g32, .ref g33])), (g1, .inl (T 0, 282, .inl fa)), (g3, .inl (T 0, 900, .inl ft)), (g4, .inl (T 0, 94, .inl gf_41))] H locs := V _ [0, 1, 0] rfl rfl rfl (by decide +kernel) rfl
                      show W p l e _ s m args below meth c H locs _ _ _ (F0 m 121 ls [])
                      have hPl : PI ft jn p2_40 := by rw [f_42]; exact PI_bl hPe
                      obtain ⟨_, _, _, _, -⟩ := id hPl
                      have hFs : FR nq gf_41 := by rw [f_43]; exact FR_bl hF
                      refine lv_goto (tgt := 154) hx hb dX8_street_121 (by decide) ?_
                      refine lv_aload_n hx hb dX8_street_154 rfl (lv_at hl 0 rfl) ?_
                      refine lv_bipush (v := (nI 10)) hx hb dX8_street_155 (by decide +kernel) ?_
                      refine g_callVU (nA := 1) hC V hl.1 (m_eats_f l D T p2_40 o 10 (nI 0) g1 g2 g3 g4 0 jn w13 w14 g15 w16 g17 w18 w19 g20 w21 g22 g23 g24 w25 w26 w27 g28 g29 w30 g31 g32 g33 ft (by first | assumption | omega) (by first | assumption | omega) (by first | assumption | omega)) w_1067 w_1069 w_s44 w_9 w_1070 (by decide +kernel) rfl ⟨(Nat.le_of_ble_eq_true rfl), (Nat.le_of_ble_eq_true rfl)⟩ 0 (ci := 8) rfl rfl [0, 2] rfl rfl (Nat.le_of_ble_eq_true rfl) dX8_street_157 ⟨(Nat.le_of_ble_eq_true rfl), (Nat.le_of_ble_eq_true rfl)⟩ rfl (fun r w1 H locs hQ V => ?_)
                      rcases hQ with ⟨p2_44, rfl, rfl, f_45, f_46, f_47⟩ | ⟨rfl, rfl, f_48⟩
                      · have V : gW D T A s [(o, .inr (8, [.int (nI 0), .ref g1, .ref g2, .ref g3, .ref g4, .int (nI 0), .int (nI p2_44.1), .int (nI p2_44.2.1), .int (nI jn), .int (nI p2_44.2.2.1), .int p2_44.2.2.2.1, .int (nI p2_44.2.2.2.2.1), .int p2_44.2.2.2.2.2, .int w13, .int w14, .ref g15, .int w16, .ref g17, .int w18, .int w19, .ref g20, .int w21, .ref g22, .ref g23, .ref g24, .int w25, .int w26, .int w27, .ref g28, .ref g29, .int w30, .ref g31, .ref g32, .ref g33])), (g1, .inl (T 0, 282, .inl fa)), (g3, .inl (T 0, 900, .inl ft)), (g4, .inl (T 0, 94, .inl gf_41))] H locs := V _ [0, 1] rfl rfl rfl (by decide +kernel) rfl
                        show W p l e _ s m args below meth c H locs _ _ _ (F0 m 160 ls [.int (nI 1)])
                        have hP2 : PI ft jn p2_44 := by rw [f_45]; exact PI_nxI hPl
                        obtain ⟨_, _, _, _, -⟩ := id hP2
                        refine lv_if_ne (tgt := 168) hx hb dX8_street_160 (by decide) (fun _ => ?_) (fun c => absurd (show (nI 1) = 0 from c) (by decide +kernel))
                        refine lv_aload_n hx hb dX8_street_168 rfl (lv_at hl 0 rfl) ?_
                        refine g_get hC V (ci := 8) uwX8 0 rfl rfl 4 (by decide) w_916 rfl rfl dX8_street_169 ?_
                        refine lv_iconst (v := (nI 3)) hx hb dX8_street_172 (by decide +kernel) ?_
                        refine lv_dup2_11 hx hb dX8_street_173 rfl rfl ?_
                        refine g_iald hC V 3 rfl (vp_in_nI (by decide) (by decide)) (v := (gf_41 3)) (congrArg _ (nI_clamp (by decide))) dX8_street_174 ?_
                        refine lv_iconst (v := (nI 1)) hx hb dX8_street_175 (by decide +kernel) ?_
                        refine lv_iadd hx hb dX8_street_176 ?_
                        refine g_iast hC V 3 rfl (vp_in_nI (by decide) (by decide)) (f' := (upd gf_41 3 ((gf_41 3) + (nI 1)))) (by rw [nI_clamp (by decide)]) (ws' := [(o, .inr (8, [.int (nI 0), .ref g1, .ref g2, .ref g3, .ref g4, .int (nI 0), .int (nI p2_44.1), .int (nI p2_44.2.1), .int (nI jn), .int (nI p2_44.2.2.1), .int p2_44.2.2.2.1, .int (nI p2_44.2.2.2.2.1), .int p2_44.2.2.2.2.2, .int w13, .int w14, .ref g15, .int w16, .ref g17, .int w18, .int w19, .ref g20, .int w21, .ref g22, .ref g23, .ref g24, .int w25, .int w26, .int w27, .ref g28, .ref g29, .int w30, .ref g31, .ref g32, .ref g33])), (g1, .inl (T 0, 282, .inl fa)), (g3, .inl (T 0, 900, .inl ft)), (g4, .inl (T 0, 94, .inl (upd gf_41 3 ((gf_41 3) + (nI 1)))))]) rfl dX8_street_177 (fun H locs V => ?_)
                        have hl1 : lnA ft jn (nq, pq, f77) = (nq, p2_40, gf_41) := (by rw [ln_bl (n := nq) (p := pq) (f := f77) f_38, ← f_36, ← f_42, ← f_43])
                        have hl2 : p2_44 = edS ft jn p2_40 := (f_45.trans (ed_y f_46 f_47).symm)
                        have hln2 : (nq, p2_44, upd gf_41 3 (gf_41 3 + nI 1)) = lnS ft jn (nq, pq, f77) := by unfold lnS; rw [hl1, ← hl2]
                        have hln : (nq, p2_44, upd gf_41 3 (gf_41 3 + nI 1)) = itS ft jn (0, nxS ft jn (0, 0, 0, w10, 0, w12), frI ff) (kq + 1) := by show _ = lnS ft jn (itS ft jn (0, nxS ft jn (0, 0, 0, w10, 0, w12), frI ff) kq); rw [← hit]; exact hln2
                        refine lv_goto (tgt := 77) hx hb dX8_street_178 (by decide) ?_
                        exact ih_77 (upd gf_41 3 ((gf_41 3) + (nI 1))) p2_44 nq (kq + 1) hln (no_stp hit hw0 hk11 hns) hP2 (fun _ => fr_line hFs) (Nat.lt_of_lt_of_le (rdS_dec hP hw0 hk11 hln2) (Nat.le_of_lt_succ hmu_77)) _ _ _ V (lv_sub hl [0, 1] rfl)
                      · have V : gW D T A s [(o, .inr (8, [.int (nI 0), .ref g1, .ref g2, .ref g3, .ref g4, .int (nI 0), .int (nI p2_40.1), .int (nI p2_40.2.1), .int (nI jn), .int (nI p2_40.2.2.1), .int p2_40.2.2.2.1, .int (nI p2_40.2.2.2.2.1), .int p2_40.2.2.2.2.2, .int w13, .int w14, .ref g15, .int w16, .ref g17, .int w18, .int w19, .ref g20, .int w21, .ref g22, .ref g23, .ref g24, .int w25, .int w26, .int w27, .ref g28, .ref g29, .int w30, .ref g31, .ref g32, .ref g33])), (g1, .inl (T 0, 282, .inl fa)), (g3, .inl (T 0, 900, .inl ft)), (g4, .inl (T 0, 94, .inl gf_41))] H locs := V _ [0, 1] rfl rfl rfl (by decide +kernel) rfl
                        show W p l e _ s m args below meth c H locs _ _ _ (F0 m 160 ls [.int (nI 0)])
                        refine lv_if_ne (tgt := 168) hx hb dX8_street_160 (by decide) (fun c => absurd (show (nI 0) = 0 by decide +kernel) c) (fun _ => ?_)
                        refine lv_aload_n hx hb dX8_street_163 rfl (lv_at hl 0 rfl) ?_
                        refine lv_iconst (v := (nI 2)) hx hb dX8_street_164 (by decide +kernel) ?_
                        refine g_callVU (nA := 1) hC V hl.1 (m_fails_f l D T p2_40 jn o 2 (nI 0) g1 g2 g3 g4 0 w13 w14 g15 w16 g17 w18 w19 g20 w21 g22 g23 g24 w25 w26 w27 g28 g29 w30 g31 g32 g33 (by first | assumption | omega) (by first | assumption | omega)) w_1055 w_1057 w_s41 w_9 w_1058 (by decide +kernel) rfl ⟨(Nat.le_of_ble_eq_true rfl), (Nat.le_of_ble_eq_true rfl)⟩ 0 (ci := 8) rfl rfl [0] rfl rfl (Nat.le_of_ble_eq_true rfl) dX8_street_165 ⟨(Nat.le_of_ble_eq_true rfl), (Nat.le_of_ble_eq_true rfl)⟩ rfl (fun r w1 H locs hQ V => ?_)
                        obtain ⟨p2_49, rfl, rfl, f_50⟩ := hQ
                        have V : gW D T A s [(o, .inr (8, [.int (nI 0), .ref g1, .ref g2, .ref g3, .ref g4, .int (nI 0), .int (nI p2_49.1), .int (nI p2_49.2.1), .int (nI jn), .int (nI p2_49.2.2.1), .int p2_49.2.2.2.1, .int (nI p2_49.2.2.2.2.1), .int p2_49.2.2.2.2.2, .int w13, .int w14, .ref g15, .int w16, .ref g17, .int w18, .int w19, .ref g20, .int w21, .ref g22, .ref g23, .ref g24, .int w25, .int w26, .int w27, .ref g28, .ref g29, .int w30, .ref g31, .ref g32, .ref g33])), (g1, .inl (T 0, 282, .inl fa)), (g3, .inl (T 0, 900, .inl ft)), (g4, .inl (T 0, 94, .inl gf_41))] H locs := V _ [0] rfl rfl rfl (by decide +kernel) rfl
                        show W p l e _ s m args below meth c H locs _ _ _ (F0 m 168 ls [])
                        have hP2 : PI ft jn p2_49 := by rw [f_50]; exact PI_fa hPl (by decide)
                        obtain ⟨_, _, _, _, -⟩ := id hP2
                        refine lv_aload_n hx hb dX8_street_168 rfl (lv_at hl 0 rfl) ?_
                        refine g_get hC V (ci := 8) uwX8 0 rfl rfl 4 (by decide) w_916 rfl rfl dX8_street_169 ?_
                        refine lv_iconst (v := (nI 3)) hx hb dX8_street_172 (by decide +kernel) ?_
                        refine lv_dup2_11 hx hb dX8_street_173 rfl rfl ?_
                        refine g_iald hC V 3 rfl (vp_in_nI (by decide) (by decide)) (v := (gf_41 3)) (congrArg _ (nI_clamp (by decide))) dX8_street_174 ?_
                        refine lv_iconst (v := (nI 1)) hx hb dX8_street_175 (by decide +kernel) ?_
                        refine lv_iadd hx hb dX8_street_176 ?_
                        refine g_iast hC V 3 rfl (vp_in_nI (by decide) (by decide)) (f' := (upd gf_41 3 ((gf_41 3) + (nI 1)))) (by rw [nI_clamp (by decide)]) (ws' := [(o, .inr (8, [.int (nI 0), .ref g1, .ref g2, .ref g3, .ref g4, .int (nI 0), .int (nI p2_49.1), .int (nI p2_49.2.1), .int (nI jn), .int (nI p2_49.2.2.1), .int p2_49.2.2.2.1, .int (nI p2_49.2.2.2.2.1), .int p2_49.2.2.2.2.2, .int w13, .int w14, .ref g15, .int w16, .ref g17, .int w18, .int w19, .ref g20, .int w21, .ref g22, .ref g23, .ref g24, .int w25, .int w26, .int w27, .ref g28, .ref g29, .int w30, .ref g31, .ref g32, .ref g33])), (g1, .inl (T 0, 282, .inl fa)), (g3, .inl (T 0, 900, .inl ft)), (g4, .inl (T 0, 94, .inl (upd gf_41 3 ((gf_41 3) + (nI 1)))))]) rfl dX8_street_177 (fun H locs V => ?_)
                        have hl1 : lnA ft jn (nq, pq, f77) = (nq, p2_40, gf_41) := (by rw [ln_bl (n := nq) (p := pq) (f := f77) f_38, ← f_36, ← f_42, ← f_43])
                        have hl2 : p2_49 = edS ft jn p2_40 := (f_50.trans (ed_n f_48).symm)
                        have hln2 : (nq, p2_49, upd gf_41 3 (gf_41 3 + nI 1)) = lnS ft jn (nq, pq, f77) := by unfold lnS; rw [hl1, ← hl2]
                        have hln : (nq, p2_49, upd gf_41 3 (gf_41 3 + nI 1)) = itS ft jn (0, nxS ft jn (0, 0, 0, w10, 0, w12), frI ff) (kq + 1) := by show _ = lnS ft jn (itS ft jn (0, nxS ft jn (0, 0, 0, w10, 0, w12), frI ff) kq); rw [← hit]; exact hln2
                        refine lv_goto (tgt := 77) hx hb dX8_street_178 (by decide) ?_
                        exact ih_77 (upd gf_41 3 ((gf_41 3) + (nI 1))) p2_49 nq (kq + 1) hln (no_stp hit hw0 hk11 hns) hP2 (fun _ => fr_line hFs) (Nat.lt_of_lt_of_le (rdS_dec hP hw0 hk11 hln2) (Nat.le_of_lt_succ hmu_77)) _ _ _ V (lv_sub hl [0, 1] rfl)
                    · have V : gW D T A s [(o, .inr (8, [.int (nI 0), .ref g1, .ref g2, .ref g3, .ref g4, .int (nI 0), .int (nI pq.1), .int (nI pq.2.1), .int (nI jn), .int (nI pq.2.2.1), .int pq.2.2.2.1, .int (nI pq.2.2.2.2.1), .int pq.2.2.2.2.2, .int w13, .int w14, .ref g15, .int w16, .ref g17, .int w18, .int w19, .ref g20, .int w21, .ref g22, .ref g23, .ref g24, .int w25, .int w26, .int w27, .ref g28, .ref g29, .int w30, .ref g31, .ref g32, .ref g33])), (g1, .inl (T 0, 282, .inl fa)), (g3, .inl (T 0, 900, .inl ft)), (g4, .inl (T 0, 94, .inl f77))] H locs := V _ [0, 1] rfl rfl rfl (by decide +kernel) rfl
                      show W p l e _ s m args below meth c H locs _ _ _ (F0 m 114 ls [.int (nI 0)])
                      refine lv_if_eq (tgt := 124) hx hb dX8_street_114 (by decide) (fun _ => ?_) (fun c => absurd (show (nI 0) = 0 by decide +kernel) c)
                      refine lv_aload_n hx hb dX8_street_124 rfl (lv_at hl 0 rfl) ?_
                      refine lv_bipush (v := (nI 7)) hx hb dX8_street_125 (by decide +kernel) ?_
                      refine g_callVU (nA := 1) hC V hl.1 (m_eats_f l D T pq o 7 (nI 0) g1 g2 g3 g4 0 jn w13 w14 g15 w16 g17 w18 w19 g20 w21 g22 g23 g24 w25 w26 w27 g28 g29 w30 g31 g32 g33 ft (by first | assumption | omega) (by first | assumption | omega) (by first | assumption | omega)) w_1067 w_1069 w_s44 w_9 w_1070 (by decide +kernel) rfl ⟨(Nat.le_of_ble_eq_true rfl), (Nat.le_of_ble_eq_true rfl)⟩ 0 (ci := 8) rfl rfl [0, 2] rfl rfl (Nat.le_of_ble_eq_true rfl) dX8_street_127 ⟨(Nat.le_of_ble_eq_true rfl), (Nat.le_of_ble_eq_true rfl)⟩ rfl (fun r w1 H locs hQ V => ?_)
                      rcases hQ with ⟨p2_51, rfl, rfl, f_52, f_53, f_54⟩ | ⟨rfl, rfl, f_55⟩
                      · have V : gW D T A s [(o, .inr (8, [.int (nI 0), .ref g1, .ref g2, .ref g3, .ref g4, .int (nI 0), .int (nI p2_51.1), .int (nI p2_51.2.1), .int (nI jn), .int (nI p2_51.2.2.1), .int p2_51.2.2.2.1, .int (nI p2_51.2.2.2.2.1), .int p2_51.2.2.2.2.2, .int w13, .int w14, .ref g15, .int w16, .ref g17, .int w18, .int w19, .ref g20, .int w21, .ref g22, .ref g23, .ref g24, .int w25, .int w26, .int w27, .ref g28, .ref g29, .int w30, .ref g31, .ref g32, .ref g33])), (g1, .inl (T 0, 282, .inl fa)), (g3, .inl (T 0, 900, .inl ft)), (g4, .inl (T 0, 94, .inl f77))] H locs := V _ [0, 1] rfl rfl rfl (by decide +kernel) rfl
                        show W p l e _ s m args below meth c H locs _ _ _ (F0 m 130 ls [.int (nI 1)])
                        have hPe : PI ft jn p2_51 := by rw [f_52]; exact PI_nxI hP
                        obtain ⟨_, _, _, _, -⟩ := id hPe
                        refine lv_if_eq (tgt := 149) hx hb dX8_street_130 (by decide) (fun c => absurd (show (nI 1) = 0 from c) (by decide +kernel)) (fun _ => ?_)
                        refine lv_aload_n hx hb dX8_street_133 rfl (lv_at hl 0 rfl) ?_
                        refine g_get hC V (ci := 8) uwX8 0 rfl rfl 4 (by decide) w_916 rfl rfl dX8_street_134 ?_
                        refine lv_iconst (v := (nI 2)) hx hb dX8_street_137 (by decide +kernel) ?_
                        refine lv_aload_n hx hb dX8_street_138 rfl (lv_at hl 0 rfl) ?_
                        refine lv_iconst (v := (nI 0)) hx hb dX8_street_139 (by decide +kernel) ?_
                        refine lv_bipush (v := (nI 20)) hx hb dX8_street_140 (by decide +kernel) ?_
                        refine g_callVU (nA := 2) hC V hl.1 (m_takes_f l D T p2_51 o (nI 0) (nI 20) (nI 0) g1 g2 g3 g4 0 jn w13 w14 g15 w16 g17 w18 w19 g20 w21 g22 g23 g24 w25 w26 w27 g28 g29 w30 g31 g32 g33 ft (by first | assumption | omega) (by first | assumption | omega)) w_1059 w_1061 w_s42 w_9 w_1062 (by decide +kernel) rfl ⟨(Nat.le_of_ble_eq_true rfl), (Nat.le_of_ble_eq_true rfl)⟩ 0 (ci := 8) rfl rfl [0, 2] rfl rfl (Nat.le_of_ble_eq_true rfl) dX8_street_142 ⟨(Nat.le_of_ble_eq_true rfl), (Nat.le_of_ble_eq_true rfl)⟩ rfl (fun r w1 H locs hQ V => ?_)
                        obtain ⟨p2_56, rfl, rfl, f_57⟩ := hQ
                        have V : gW D T A s [(o, .inr (8, [.int (nI 0), .ref g1, .ref g2, .ref g3, .ref g4, .int (nI 0), .int (nI p2_56.1), .int (nI p2_56.2.1), .int (nI jn), .int (nI p2_56.2.2.1), .int p2_56.2.2.2.1, .int (nI p2_56.2.2.2.2.1), .int p2_56.2.2.2.2.2, .int w13, .int w14, .ref g15, .int w16, .ref g17, .int w18, .int w19, .ref g20, .int w21, .ref g22, .ref g23, .ref g24, .int w25, .int w26, .int w27, .ref g28, .ref g29, .int w30, .ref g31, .ref g32, .ref g33])), (g1, .inl (T 0, 282, .inl fa)), (g3, .inl (T 0, 900, .inl ft)), (g4, .inl (T 0, 94, .inl f77))] H locs := V _ [0, 1] rfl rfl rfl (by decide +kernel) rfl
                        show W p l e _ s m args below meth c H locs _ _ _ (F0 m 145 ls [.int p2_51.2.2.2.1, .int (nI 2), .ref g4])
                        have hPl : PI ft jn p2_56 := by rw [f_57]; exact PI_tk hPe
                        obtain ⟨_, _, _, _, -⟩ := id hPl
                        refine g_iast hC V 3 rfl (vp_in_nI (by decide) (by decide)) (f' := (upd f77 2 p2_51.2.2.2.1)) (by rw [nI_clamp (by decide)]) (ws' := [(o, .inr (8, [.int (nI 0), .ref g1, .ref g2, .ref g3, .ref g4, .int (nI 0), .int (nI p2_56.1), .int (nI p2_56.2.1), .int (nI jn), .int (nI p2_56.2.2.1), .int p2_56.2.2.2.1, .int (nI p2_56.2.2.2.2.1), .int p2_56.2.2.2.2.2, .int w13, .int w14, .ref g15, .int w16, .ref g17, .int w18, .int w19, .ref g20, .int w21, .ref g22, .ref g23, .ref g24, .int w25, .int w26, .int w27, .ref g28, .ref g29, .int w30, .ref g31, .ref g32, .ref g33])), (g1, .inl (T 0, 282, .inl fa)), (g3, .inl (T 0, 900, .inl ft)), (g4, .inl (T 0, 94, .inl (upd f77 2 p2_51.2.2.2.1)))]) rfl dX8_street_145 (fun H locs V => ?_)
                        refine lv_goto (tgt := 154) hx hb dX8_street_146 (by decide) ?_
                        refine lv_aload_n hx hb dX8_street_154 rfl (lv_at hl 0 rfl) ?_
                        refine lv_bipush (v := (nI 10)) hx hb dX8_street_155 (by decide +kernel) ?_
                        refine g_callVU (nA := 1) hC V hl.1 (m_eats_f l D T p2_56 o 10 (nI 0) g1 g2 g3 g4 0 jn w13 w14 g15 w16 g17 w18 w19 g20 w21 g22 g23 g24 w25 w26 w27 g28 g29 w30 g31 g32 g33 ft (by first | assumption | omega) (by first | assumption | omega) (by first | assumption | omega)) w_1067 w_1069 w_s44 w_9 w_1070 (by decide +kernel) rfl ⟨(Nat.le_of_ble_eq_true rfl), (Nat.le_of_ble_eq_true rfl)⟩ 0 (ci := 8) rfl rfl [0, 2] rfl rfl (Nat.le_of_ble_eq_true rfl) dX8_street_157 ⟨(Nat.le_of_ble_eq_true rfl), (Nat.le_of_ble_eq_true rfl)⟩ rfl (fun r w1 H locs hQ V => ?_)
                        rcases hQ with ⟨p2_58, rfl, rfl, f_59, f_60, f_61⟩ | ⟨rfl, rfl, f_62⟩
                        · have V : gW D T A s [(o, .inr (8, [.int (nI 0), .ref g1, .ref g2, .ref g3, .ref g4, .int (nI 0), .int (nI p2_58.1), .int (nI p2_58.2.1), .int (nI jn), .int (nI p2_58.2.2.1), .int p2_58.2.2.2.1, .int (nI p2_58.2.2.2.2.1), .int p2_58.2.2.2.2.2, .int w13, .int w14, .ref g15, .int w16, .ref g17, .int w18, .int w19, .ref g20, .int w21, .ref g22, .ref g23, .ref g24, .int w25, .int w26, .int w27, .ref g28, .ref g29, .int w30, .ref g31, .ref g32, .ref g33])), (g1, .inl (T 0, 282, .inl fa)), (g3, .inl (T 0, 900, .inl ft)), (g4, .inl (T 0, 94, .inl (upd f77 2 p2_51.2.2.2.1)))] H locs := V _ [0, 1] rfl rfl rfl (by decide +kernel) rfl
                          show W p l e _ s m args below meth c H locs _ _ _ (F0 m 160 ls [.int (nI 1)])
                          have hP2 : PI ft jn p2_58 := by rw [f_59]; exact PI_nxI hPl
                          obtain ⟨_, _, _, _, -⟩ := id hP2
                          refine lv_if_ne (tgt := 168) hx hb dX8_street_160 (by decide) (fun _ => ?_) (fun c => absurd (show (nI 1) = 0 from c) (by decide +kernel))
                          refine lv_aload_n hx hb dX8_street_168 rfl (lv_at hl 0 rfl) ?_
                          refine g_get hC V (ci := 8) uwX8 0 rfl rfl 4 (by decide) w_916 rfl rfl dX8_street_169 ?_
                          refine lv_iconst (v := (nI 3)) hx hb dX8_street_172 (by decide +kernel) ?_
                          refine lv_dup2_11 hx hb dX8_street_173 rfl rfl ?_
                          refine g_iald hC V 3 rfl (vp_in_nI (by decide) (by decide)) (v := ((upd f77 2 p2_51.2.2.2.1) 3)) (congrArg _ (nI_clamp (by decide))) dX8_street_174 ?_
                          refine lv_iconst (v := (nI 1)) hx hb dX8_street_175 (by decide +kernel) ?_
                          refine lv_iadd hx hb dX8_street_176 ?_
                          refine g_iast hC V 3 rfl (vp_in_nI (by decide) (by decide)) (f' := (upd (upd f77 2 p2_51.2.2.2.1) 3 (((upd f77 2 p2_51.2.2.2.1) 3) + (nI 1)))) (by rw [nI_clamp (by decide)]) (ws' := [(o, .inr (8, [.int (nI 0), .ref g1, .ref g2, .ref g3, .ref g4, .int (nI 0), .int (nI p2_58.1), .int (nI p2_58.2.1), .int (nI jn), .int (nI p2_58.2.2.1), .int p2_58.2.2.2.1, .int (nI p2_58.2.2.2.2.1), .int p2_58.2.2.2.2.2, .int w13, .int w14, .ref g15, .int w16, .ref g17, .int w18, .int w19, .ref g20, .int w21, .ref g22, .ref g23, .ref g24, .int w25, .int w26, .int w27, .ref g28, .ref g29, .int w30, .ref g31, .ref g32, .ref g33])), (g1, .inl (T 0, 282, .inl fa)), (g3, .inl (T 0, 900, .inl ft)), (g4, .inl (T 0, 94, .inl (upd (upd f77 2 p2_51.2.2.2.1) 3 (((upd f77 2 p2_51.2.2.2.1) 3) + (nI 1)))))]) rfl dX8_street_177 (fun H locs V => ?_)
                          have hl1 : lnA ft jn (nq, pq, f77) = (nq, p2_56, (upd f77 2 p2_51.2.2.2.1)) := (by rw [ln_bu (n := nq) (p := pq) (f := f77) f_54, ← f_52, ← f_57])
                          have hl2 : p2_58 = edS ft jn p2_56 := (f_59.trans (ed_y f_60 f_61).symm)
                          have hln2 : (nq, p2_58, upd (upd f77 2 p2_51.2.2.2.1) 3 ((upd f77 2 p2_51.2.2.2.1) 3 + nI 1)) = lnS ft jn (nq, pq, f77) := by unfold lnS; rw [hl1, ← hl2]
                          have hln : (nq, p2_58, upd (upd f77 2 p2_51.2.2.2.1) 3 ((upd f77 2 p2_51.2.2.2.1) 3 + nI 1)) = itS ft jn (0, nxS ft jn (0, 0, 0, w10, 0, w12), frI ff) (kq + 1) := by show _ = lnS ft jn (itS ft jn (0, nxS ft jn (0, 0, 0, w10, 0, w12), frI ff) kq); rw [← hit]; exact hln2
                          refine lv_goto (tgt := 77) hx hb dX8_street_178 (by decide) ?_
                          exact ih_77 (upd (upd f77 2 p2_51.2.2.2.1) 3 (((upd f77 2 p2_51.2.2.2.1) 3) + (nI 1))) p2_58 nq (kq + 1) hln (no_stp hit hw0 hk11 hns) hP2 (fun h => fr_line (fr_lost hF (bu_bd hl2 f_57 h))) (Nat.lt_of_lt_of_le (rdS_dec hP hw0 hk11 hln2) (Nat.le_of_lt_succ hmu_77)) _ _ _ V (lv_sub hl [0, 1] rfl)
                        · have V : gW D T A s [(o, .inr (8, [.int (nI 0), .ref g1, .ref g2, .ref g3, .ref g4, .int (nI 0), .int (nI p2_56.1), .int (nI p2_56.2.1), .int (nI jn), .int (nI p2_56.2.2.1), .int p2_56.2.2.2.1, .int (nI p2_56.2.2.2.2.1), .int p2_56.2.2.2.2.2, .int w13, .int w14, .ref g15, .int w16, .ref g17, .int w18, .int w19, .ref g20, .int w21, .ref g22, .ref g23, .ref g24, .int w25, .int w26, .int w27, .ref g28, .ref g29, .int w30, .ref g31, .ref g32, .ref g33])), (g1, .inl (T 0, 282, .inl fa)), (g3, .inl (T 0, 900, .inl ft)), (g4, .inl (T 0, 94, .inl (upd f77 2 p2_51.2.2.2.1)))] H locs := V _ [0, 1] rfl rfl rfl (by decide +kernel) rfl
                          show W p l e _ s m args below meth c H locs _ _ _ (F0 m 160 ls [.int (nI 0)])
                          refine lv_if_ne (tgt := 168) hx hb dX8_street_160 (by decide) (fun c => absurd (show (nI 0) = 0 by decide +kernel) c) (fun _ => ?_)
                          refine lv_aload_n hx hb dX8_street_163 rfl (lv_at hl 0 rfl) ?_
                          refine lv_iconst (v := (nI 2)) hx hb dX8_street_164 (by decide +kernel) ?_
                          refine g_callVU (nA := 1) hC V hl.1 (m_fails_f l D T p2_56 jn o 2 (nI 0) g1 g2 g3 g4 0 w13 w14 g15 w16 g17 w18 w19 g20 w21 g22 g23 g24 w25 w26 w27 g28 g29 w30 g31 g32 g33 (by first | assumption | omega) (by first | assumption | omega)) w_1055 w_1057 w_s41 w_9 w_1058 (by decide +kernel) rfl ⟨(Nat.le_of_ble_eq_true rfl), (Nat.le_of_ble_eq_true rfl)⟩ 0 (ci := 8) rfl rfl [0] rfl rfl (Nat.le_of_ble_eq_true rfl) dX8_street_165 ⟨(Nat.le_of_ble_eq_true rfl), (Nat.le_of_ble_eq_true rfl)⟩ rfl (fun r w1 H locs hQ V => ?_)
                          obtain ⟨p2_63, rfl, rfl, f_64⟩ := hQ
                          have V : gW D T A s [(o, .inr (8, [.int (nI 0), .ref g1, .ref g2, .ref g3, .ref g4, .int (nI 0), .int (nI p2_63.1), .int (nI p2_63.2.1), .int (nI jn), .int (nI p2_63.2.2.1), .int p2_63.2.2.2.1, .int (nI p2_63.2.2.2.2.1), .int p2_63.2.2.2.2.2, .int w13, .int w14, .ref g15, .int w16, .ref g17, .int w18, .int w19, .ref g20, .int w21, .ref g22, .ref g23, .ref g24, .int w25, .int w26, .int w27, .ref g28, .ref g29, .int w30, .ref g31, .ref g32, .ref g33])), (g1, .inl (T 0, 282, .inl fa)), (g3, .inl (T 0, 900, .inl ft)), (g4, .inl (T 0, 94, .inl (upd f77 2 p2_51.2.2.2.1)))] H locs := V _ [0] rfl rfl rfl (by decide +kernel) rfl
                          show W p l e _ s m args below meth c H locs _ _ _ (F0 m 168 ls [])
                          have hP2 : PI ft jn p2_63 := by rw [f_64]; exact PI_fa hPl (by decide)
                          obtain ⟨_, _, _, _, -⟩ := id hP2
                          refine lv_aload_n hx hb dX8_street_168 rfl (lv_at hl 0 rfl) ?_
                          refine g_get hC V (ci := 8) uwX8 0 rfl rfl 4 (by decide) w_916 rfl rfl dX8_street_169 ?_
                          refine lv_iconst (v := (nI 3)) hx hb dX8_street_172 (by decide +kernel) ?_
                          refine lv_dup2_11 hx hb dX8_street_173 rfl rfl ?_
                          refine g_iald hC V 3 rfl (vp_in_nI (by decide) (by decide)) (v := ((upd f77 2 p2_51.2.2.2.1) 3)) (congrArg _ (nI_clamp (by decide))) dX8_street_174 ?_
                          refine lv_iconst (v := (nI 1)) hx hb dX8_street_175 (by decide +kernel) ?_
                          refine lv_iadd hx hb dX8_street_176 ?_
                          refine g_iast hC V 3 rfl (vp_in_nI (by decide) (by decide)) (f' := (upd (upd f77 2 p2_51.2.2.2.1) 3 (((upd f77 2 p2_51.2.2.2.1) 3) + (nI 1)))) (by rw [nI_clamp (by decide)]) (ws' := [(o, .inr (8, [.int (nI 0), .ref g1, .ref g2, .ref g3, .ref g4, .int (nI 0), .int (nI p2_63.1), .int (nI p2_63.2.1), .int (nI jn), .int (nI p2_63.2.2.1), .int p2_63.2.2.2.1, .int (nI p2_63.2.2.2.2.1), .int p2_63.2.2.2.2.2, .int w13, .int w14, .ref g15, .int w16, .ref g17, .int w18, .int w19, .ref g20, .int w21, .ref g22, .ref g23, .ref g24, .int w25, .int w26, .int w27, .ref g28, .ref g29, .int w30, .ref g31, .ref g32, .ref g33])), (g1, .inl (T 0, 282, .inl fa)), (g3, .inl (T 0, 900, .inl ft)), (g4, .inl (T 0, 94, .inl (upd (upd f77 2 p2_51.2.2.2.1) 3 (((upd f77 2 p2_51.2.2.2.1) 3) + (nI 1)))))]) rfl dX8_street_177 (fun H locs V => ?_)
                          have hl1 : lnA ft jn (nq, pq, f77) = (nq, p2_56, (upd f77 2 p2_51.2.2.2.1)) := (by rw [ln_bu (n := nq) (p := pq) (f := f77) f_54, ← f_52, ← f_57])
                          have hl2 : p2_63 = edS ft jn p2_56 := (f_64.trans (ed_n f_62).symm)
                          have hln2 : (nq, p2_63, upd (upd f77 2 p2_51.2.2.2.1) 3 ((upd f77 2 p2_51.2.2.2.1) 3 + nI 1)) = lnS ft jn (nq, pq, f77) := by unfold lnS; rw [hl1, ← hl2]
                          have hln : (nq, p2_63, upd (upd f77 2 p2_51.2.2.2.1) 3 ((upd f77 2 p2_51.2.2.2.1) 3 + nI 1)) = itS ft jn (0, nxS ft jn (0, 0, 0, w10, 0, w12), frI ff) (kq + 1) := by show _ = lnS ft jn (itS ft jn (0, nxS ft jn (0, 0, 0, w10, 0, w12), frI ff) kq); rw [← hit]; exact hln2
                          refine lv_goto (tgt := 77) hx hb dX8_street_178 (by decide) ?_
                          exact ih_77 (upd (upd f77 2 p2_51.2.2.2.1) 3 (((upd f77 2 p2_51.2.2.2.1) 3) + (nI 1))) p2_63 nq (kq + 1) hln (no_stp hit hw0 hk11 hns) hP2 (fun h => fr_line (fr_lost hF (bu_bd hl2 f_57 h))) (Nat.lt_of_lt_of_le (rdS_dec hP hw0 hk11 hln2) (Nat.le_of_lt_succ hmu_77)) _ _ _ V (lv_sub hl [0, 1] rfl)
                      · have V : gW D T A s [(o, .inr (8, [.int (nI 0), .ref g1, .ref g2, .ref g3, .ref g4, .int (nI 0), .int (nI pq.1), .int (nI pq.2.1), .int (nI jn), .int (nI pq.2.2.1), .int pq.2.2.2.1, .int (nI pq.2.2.2.2.1), .int pq.2.2.2.2.2, .int w13, .int w14, .ref g15, .int w16, .ref g17, .int w18, .int w19, .ref g20, .int w21, .ref g22, .ref g23, .ref g24, .int w25, .int w26, .int w27, .ref g28, .ref g29, .int w30, .ref g31, .ref g32, .ref g33])), (g1, .inl (T 0, 282, .inl fa)), (g3, .inl (T 0, 900, .inl ft)), (g4, .inl (T 0, 94, .inl f77))] H locs := V _ [0, 1] rfl rfl rfl (by decide +kernel) rfl
                        show W p l e _ s m args below meth c H locs _ _ _ (F0 m 130 ls [.int (nI 0)])
                        refine lv_if_eq (tgt := 149) hx hb dX8_street_130 (by decide) (fun _ => ?_) (fun c => absurd (show (nI 0) = 0 by decide +kernel) c)
                        refine lv_aload_n hx hb dX8_street_149 rfl (lv_at hl 0 rfl) ?_
                        refine lv_iconst (v := (nI 2)) hx hb dX8_street_150 (by decide +kernel) ?_
                        refine g_callVU (nA := 1) hC V hl.1 (m_fails_f l D T pq jn o 2 (nI 0) g1 g2 g3 g4 0 w13 w14 g15 w16 g17 w18 w19 g20 w21 g22 g23 g24 w25 w26 w27 g28 g29 w30 g31 g32 g33 (by first | assumption | omega) (by first | assumption | omega)) w_1055 w_1057 w_s41 w_9 w_1058 (by decide +kernel) rfl ⟨(Nat.le_of_ble_eq_true rfl), (Nat.le_of_ble_eq_true rfl)⟩ 0 (ci := 8) rfl rfl [0] rfl rfl (Nat.le_of_ble_eq_true rfl) dX8_street_151 ⟨(Nat.le_of_ble_eq_true rfl), (Nat.le_of_ble_eq_true rfl)⟩ rfl (fun r w1 H locs hQ V => ?_)
                        obtain ⟨p2_65, rfl, rfl, f_66⟩ := hQ
                        have V : gW D T A s [(o, .inr (8, [.int (nI 0), .ref g1, .ref g2, .ref g3, .ref g4, .int (nI 0), .int (nI p2_65.1), .int (nI p2_65.2.1), .int (nI jn), .int (nI p2_65.2.2.1), .int p2_65.2.2.2.1, .int (nI p2_65.2.2.2.2.1), .int p2_65.2.2.2.2.2, .int w13, .int w14, .ref g15, .int w16, .ref g17, .int w18, .int w19, .ref g20, .int w21, .ref g22, .ref g23, .ref g24, .int w25, .int w26, .int w27, .ref g28, .ref g29, .int w30, .ref g31, .ref g32, .ref g33])), (g1, .inl (T 0, 282, .inl fa)), (g3, .inl (T 0, 900, .inl ft)), (g4, .inl (T 0, 94, .inl f77))] H locs := V _ [0] rfl rfl rfl (by decide +kernel) rfl
                        show W p l e _ s m args below meth c H locs _ _ _ (F0 m 154 ls [])
                        have hPl : PI ft jn p2_65 := by rw [f_66]; exact PI_fa hP (by decide)
                        obtain ⟨_, _, _, _, -⟩ := id hPl
                        refine lv_aload_n hx hb dX8_street_154 rfl (lv_at hl 0 rfl) ?_
                        refine lv_bipush (v := (nI 10)) hx hb dX8_street_155 (by decide +kernel) ?_
                        refine g_callVU (nA := 1) hC V hl.1 (m_eats_f l D T p2_65 o 10 (nI 0) g1 g2 g3 g4 0 jn w13 w14 g15 w16 g17 w18 w19 g20 w21 g22 g23 g24 w25 w26 w27 g28 g29 w30 g31 g32 g33 ft (by first | assumption | omega) (by first | assumption | omega) (by first | assumption | omega)) w_1067 w_1069 w_s44 w_9 w_1070 (by decide +kernel) rfl ⟨(Nat.le_of_ble_eq_true rfl), (Nat.le_of_ble_eq_true rfl)⟩ 0 (ci := 8) rfl rfl [0, 2] rfl rfl (Nat.le_of_ble_eq_true rfl) dX8_street_157 ⟨(Nat.le_of_ble_eq_true rfl), (Nat.le_of_ble_eq_true rfl)⟩ rfl (fun r w1 H locs hQ V => ?_)
                        rcases hQ with ⟨p2_67, rfl, rfl, f_68, f_69, f_70⟩ | ⟨rfl, rfl, f_71⟩
                        · have V : gW D T A s [(o, .inr (8, [.int (nI 0), .ref g1, .ref g2, .ref g3, .ref g4, .int (nI 0), .int (nI p2_67.1), .int (nI p2_67.2.1), .int (nI jn), .int (nI p2_67.2.2.1), .int p2_67.2.2.2.1, .int (nI p2_67.2.2.2.2.1), .int p2_67.2.2.2.2.2, .int w13, .int w14, .ref g15, .int w16, .ref g17, .int w18, .int w19, .ref g20, .int w21, .ref g22, .ref g23, .ref g24, .int w25, .int w26, .int w27, .ref g28, .ref g29, .int w30, .ref g31, .ref g32, .ref g33])), (g1, .inl (T 0, 282, .inl fa)), (g3, .inl (T 0, 900, .inl ft)), (g4, .inl (T 0, 94, .inl f77))] H locs := V _ [0, 1] rfl rfl rfl (by decide +kernel) rfl
                          show W p l e _ s m args below meth c H locs _ _ _ (F0 m 160 ls [.int (nI 1)])
                          have hP2 : PI ft jn p2_67 := by rw [f_68]; exact PI_nxI hPl
                          obtain ⟨_, _, _, _, -⟩ := id hP2
                          refine lv_if_ne (tgt := 168) hx hb dX8_street_160 (by decide) (fun _ => ?_) (fun c => absurd (show (nI 1) = 0 from c) (by decide +kernel))
                          refine lv_aload_n hx hb dX8_street_168 rfl (lv_at hl 0 rfl) ?_
                          refine g_get hC V (ci := 8) uwX8 0 rfl rfl 4 (by decide) w_916 rfl rfl dX8_street_169 ?_
                          refine lv_iconst (v := (nI 3)) hx hb dX8_street_172 (by decide +kernel) ?_
                          refine lv_dup2_11 hx hb dX8_street_173 rfl rfl ?_
                          refine g_iald hC V 3 rfl (vp_in_nI (by decide) (by decide)) (v := (f77 3)) (congrArg _ (nI_clamp (by decide))) dX8_street_174 ?_
                          refine lv_iconst (v := (nI 1)) hx hb dX8_street_175 (by decide +kernel) ?_
                          refine lv_iadd hx hb dX8_street_176 ?_
                          refine g_iast hC V 3 rfl (vp_in_nI (by decide) (by decide)) (f' := (upd f77 3 ((f77 3) + (nI 1)))) (by rw [nI_clamp (by decide)]) (ws' := [(o, .inr (8, [.int (nI 0), .ref g1, .ref g2, .ref g3, .ref g4, .int (nI 0), .int (nI p2_67.1), .int (nI p2_67.2.1), .int (nI jn), .int (nI p2_67.2.2.1), .int p2_67.2.2.2.1, .int (nI p2_67.2.2.2.2.1), .int p2_67.2.2.2.2.2, .int w13, .int w14, .ref g15, .int w16, .ref g17, .int w18, .int w19, .ref g20, .int w21, .ref g22, .ref g23, .ref g24, .int w25, .int w26, .int w27, .ref g28, .ref g29, .int w30, .ref g31, .ref g32, .ref g33])), (g1, .inl (T 0, 282, .inl fa)), (g3, .inl (T 0, 900, .inl ft)), (g4, .inl (T 0, 94, .inl (upd f77 3 ((f77 3) + (nI 1)))))]) rfl dX8_street_177 (fun H locs V => ?_)
                          have hl1 : lnA ft jn (nq, pq, f77) = (nq, p2_65, f77) := (by rw [ln_no (n := nq) (p := pq) (f := f77) (by omega) (by omega) (by omega), ← f_66])
                          have hl2 : p2_67 = edS ft jn p2_65 := (f_68.trans (ed_y f_69 f_70).symm)
                          have hln2 : (nq, p2_67, upd f77 3 (f77 3 + nI 1)) = lnS ft jn (nq, pq, f77) := by unfold lnS; rw [hl1, ← hl2]
                          have hln : (nq, p2_67, upd f77 3 (f77 3 + nI 1)) = itS ft jn (0, nxS ft jn (0, 0, 0, w10, 0, w12), frI ff) (kq + 1) := by show _ = lnS ft jn (itS ft jn (0, nxS ft jn (0, 0, 0, w10, 0, w12), frI ff) kq); rw [← hit]; exact hln2
                          refine lv_goto (tgt := 77) hx hb dX8_street_178 (by decide) ?_
                          exact ih_77 (upd f77 3 ((f77 3) + (nI 1))) p2_67 nq (kq + 1) hln (no_stp hit hw0 hk11 hns) hP2 (fun h => absurd h (fl_w hl2 f_66)) (Nat.lt_of_lt_of_le (rdS_dec hP hw0 hk11 hln2) (Nat.le_of_lt_succ hmu_77)) _ _ _ V (lv_sub hl [0, 1] rfl)
                        · have V : gW D T A s [(o, .inr (8, [.int (nI 0), .ref g1, .ref g2, .ref g3, .ref g4, .int (nI 0), .int (nI p2_65.1), .int (nI p2_65.2.1), .int (nI jn), .int (nI p2_65.2.2.1), .int p2_65.2.2.2.1, .int (nI p2_65.2.2.2.2.1), .int p2_65.2.2.2.2.2, .int w13, .int w14, .ref g15, .int w16, .ref g17, .int w18, .int w19, .ref g20, .int w21, .ref g22, .ref g23, .ref g24, .int w25, .int w26, .int w27, .ref g28, .ref g29, .int w30, .ref g31, .ref g32, .ref g33])), (g1, .inl (T 0, 282, .inl fa)), (g3, .inl (T 0, 900, .inl ft)), (g4, .inl (T 0, 94, .inl f77))] H locs := V _ [0, 1] rfl rfl rfl (by decide +kernel) rfl
                          show W p l e _ s m args below meth c H locs _ _ _ (F0 m 160 ls [.int (nI 0)])
                          refine lv_if_ne (tgt := 168) hx hb dX8_street_160 (by decide) (fun c => absurd (show (nI 0) = 0 by decide +kernel) c) (fun _ => ?_)
                          refine lv_aload_n hx hb dX8_street_163 rfl (lv_at hl 0 rfl) ?_
                          refine lv_iconst (v := (nI 2)) hx hb dX8_street_164 (by decide +kernel) ?_
                          refine g_callVU (nA := 1) hC V hl.1 (m_fails_f l D T p2_65 jn o 2 (nI 0) g1 g2 g3 g4 0 w13 w14 g15 w16 g17 w18 w19 g20 w21 g22 g23 g24 w25 w26 w27 g28 g29 w30 g31 g32 g33 (by first | assumption | omega) (by first | assumption | omega)) w_1055 w_1057 w_s41 w_9 w_1058 (by decide +kernel) rfl ⟨(Nat.le_of_ble_eq_true rfl), (Nat.le_of_ble_eq_true rfl)⟩ 0 (ci := 8) rfl rfl [0] rfl rfl (Nat.le_of_ble_eq_true rfl) dX8_street_165 ⟨(Nat.le_of_ble_eq_true rfl), (Nat.le_of_ble_eq_true rfl)⟩ rfl (fun r w1 H locs hQ V => ?_)
                          obtain ⟨p2_72, rfl, rfl, f_73⟩ := hQ
                          have V : gW D T A s [(o, .inr (8, [.int (nI 0), .ref g1, .ref g2, .ref g3, .ref g4, .int (nI 0), .int (nI p2_72.1), .int (nI p2_72.2.1), .int (nI jn), .int (nI p2_72.2.2.1), .int p2_72.2.2.2.1, .int (nI p2_72.2.2.2.2.1), .int p2_72.2.2.2.2.2, .int w13, .int w14, .ref g15, .int w16, .ref g17, .int w18, .int w19, .ref g20, .int w21, .ref g22, .ref g23, .ref g24, .int w25, .int w26, .int w27, .ref g28, .ref g29, .int w30, .ref g31, .ref g32, .ref g33])), (g1, .inl (T 0, 282, .inl fa)), (g3, .inl (T 0, 900, .inl ft)), (g4, .inl (T 0, 94, .inl f77))] H locs := V _ [0] rfl rfl rfl (by decide +kernel) rfl
                          show W p l e _ s m args below meth c H locs _ _ _ (F0 m 168 ls [])
                          have hP2 : PI ft jn p2_72 := by rw [f_73]; exact PI_fa hPl (by decide)
                          obtain ⟨_, _, _, _, -⟩ := id hP2
                          refine lv_aload_n hx hb dX8_street_168 rfl (lv_at hl 0 rfl) ?_
                          refine g_get hC V (ci := 8) uwX8 0 rfl rfl 4 (by decide) w_916 rfl rfl dX8_street_169 ?_
                          refine lv_iconst (v := (nI 3)) hx hb dX8_street_172 (by decide +kernel) ?_
                          refine lv_dup2_11 hx hb dX8_street_173 rfl rfl ?_
                          refine g_iald hC V 3 rfl (vp_in_nI (by decide) (by decide)) (v := (f77 3)) (congrArg _ (nI_clamp (by decide))) dX8_street_174 ?_
                          refine lv_iconst (v := (nI 1)) hx hb dX8_street_175 (by decide +kernel) ?_
                          refine lv_iadd hx hb dX8_street_176 ?_
                          refine g_iast hC V 3 rfl (vp_in_nI (by decide) (by decide)) (f' := (upd f77 3 ((f77 3) + (nI 1)))) (by rw [nI_clamp (by decide)]) (ws' := [(o, .inr (8, [.int (nI 0), .ref g1, .ref g2, .ref g3, .ref g4, .int (nI 0), .int (nI p2_72.1), .int (nI p2_72.2.1), .int (nI jn), .int (nI p2_72.2.2.1), .int p2_72.2.2.2.1, .int (nI p2_72.2.2.2.2.1), .int p2_72.2.2.2.2.2, .int w13, .int w14, .ref g15, .int w16, .ref g17, .int w18, .int w19, .ref g20, .int w21, .ref g22, .ref g23, .ref g24, .int w25, .int w26, .int w27, .ref g28, .ref g29, .int w30, .ref g31, .ref g32, .ref g33])), (g1, .inl (T 0, 282, .inl fa)), (g3, .inl (T 0, 900, .inl ft)), (g4, .inl (T 0, 94, .inl (upd f77 3 ((f77 3) + (nI 1)))))]) rfl dX8_street_177 (fun H locs V => ?_)
                          have hl1 : lnA ft jn (nq, pq, f77) = (nq, p2_65, f77) := (by rw [ln_no (n := nq) (p := pq) (f := f77) (by omega) (by omega) (by omega), ← f_66])
                          have hl2 : p2_72 = edS ft jn p2_65 := (f_73.trans (ed_n f_71).symm)
                          have hln2 : (nq, p2_72, upd f77 3 (f77 3 + nI 1)) = lnS ft jn (nq, pq, f77) := by unfold lnS; rw [hl1, ← hl2]
                          have hln : (nq, p2_72, upd f77 3 (f77 3 + nI 1)) = itS ft jn (0, nxS ft jn (0, 0, 0, w10, 0, w12), frI ff) (kq + 1) := by show _ = lnS ft jn (itS ft jn (0, nxS ft jn (0, 0, 0, w10, 0, w12), frI ff) kq); rw [← hit]; exact hln2
                          refine lv_goto (tgt := 77) hx hb dX8_street_178 (by decide) ?_
                          exact ih_77 (upd f77 3 ((f77 3) + (nI 1))) p2_72 nq (kq + 1) hln (no_stp hit hw0 hk11 hns) hP2 (fun h => absurd h (fl_w hl2 f_66)) (Nat.lt_of_lt_of_le (rdS_dec hP hw0 hk11 hln2) (Nat.le_of_lt_succ hmu_77)) _ _ _ V (lv_sub hl [0, 1] rfl)
          exact L_8 _ f44 p2_6 0 0 hi0 (fun i h => absurd h (Nat.not_lt_zero _)) hP0 (fun _ => by rw [ef0]; exact fr_frI ff) (Nat.lt_succ_self _) _ _ _ V (lv_sub hl [1, 2] rfl)
        · skip
          have c_5 := b_nle (by omega) (by omega) c_5
          refine lv_aload_n hx hb dX8_street_50 rfl (lv_at hl 1 rfl) ?_
          refine g_get hC V (ci := 8) uwX8 0 rfl rfl 4 (by decide) w_916 rfl rfl dX8_street_51 ?_
          refine lv_iload_n hx hb dX8_street_54 rfl (lv_at hl 0 rfl) ?_
          refine lv_iload_n hx hb dX8_street_55 rfl (lv_at hl 0 rfl) ?_
          refine lv_iconst (v := (nI 2)) hx hb dX8_street_56 (by decide +kernel) ?_
          refine lv_icmp_ne (tgt := 65) hx hb dX8_street_57 (by decide) (fun c_74 => ?_) (fun c_74 => ?_)
          · skip
            have c_74 := b_ne (by omega) (by omega) c_74
            refine lv_iconst (v := (nI 0)) hx hb dX8_street_65 (by decide +kernel) ?_
            refine g_iast hC V 3 rfl (vp_in_nI (by omega) (by omega)) (f' := (upd f44 k44 (nI 0))) (by rw [nI_clamp (by omega)]) (ws' := [(o, .inr (8, [.int (nI 0), .ref g1, .ref g2, .ref g3, .ref g4, .int (nI 0), .int w6, .int (nI 0), .int (nI jn), .int w9, .int w10, .int (nI 0), .int w12, .int w13, .int w14, .ref g15, .int w16, .ref g17, .int w18, .int w19, .ref g20, .int w21, .ref g22, .ref g23, .ref g24, .int w25, .int w26, .int w27, .ref g28, .ref g29, .int w30, .ref g31, .ref g32, .ref g33])), (g1, .inl (T 0, 282, .inl fa)), (g3, .inl (T 0, 900, .inl ft)), (g4, .inl (T 0, 94, .inl (upd f44 k44 (nI 0))))]) rfl dX8_street_66 (fun H locs V => ?_)
            refine lv_iinc (v := (nI (k44 + 1))) (lv' := [(2, .int (nI (k44 + 1))), (0, .ref o), (1, .int (nI jn))]) hx hb dX8_street_67 hl (k := 0) rfl (nI_1 _) (by decide) rfl (fun ls hl => ?_)
            refine lv_goto (tgt := 44) hx hb dX8_street_70 (by decide) ?_
            exact ih_44 (k44 + 1) (upd f44 k44 (nI 0)) (by omega) (up_one (p := fun j y => y = if j = 2 then nI 20 else nI 0) hf44 (by first | (rw [if_pos (by omega)]; done) | (rw [if_neg (by omega)]; done))) (fun j hj => (up_other (by omega)).trans (hf44b j hj)) (by omega) _ _ _ V (lv_sub hl [0, 1, 2] rfl)
          · skip
            have c_74 := b_eq (by omega) (by omega) c_74
            refine lv_bipush (v := (nI 20)) hx hb dX8_street_60 (by decide +kernel) ?_
            refine lv_goto (tgt := 66) hx hb dX8_street_62 (by decide) ?_
            refine g_iast hC V 3 rfl (vp_in_nI (by omega) (by omega)) (f' := (upd f44 k44 (nI 20))) (by rw [nI_clamp (by omega)]) (ws' := [(o, .inr (8, [.int (nI 0), .ref g1, .ref g2, .ref g3, .ref g4, .int (nI 0), .int w6, .int (nI 0), .int (nI jn), .int w9, .int w10, .int (nI 0), .int w12, .int w13, .int w14, .ref g15, .int w16, .ref g17, .int w18, .int w19, .ref g20, .int w21, .ref g22, .ref g23, .ref g24, .int w25, .int w26, .int w27, .ref g28, .ref g29, .int w30, .ref g31, .ref g32, .ref g33])), (g1, .inl (T 0, 282, .inl fa)), (g3, .inl (T 0, 900, .inl ft)), (g4, .inl (T 0, 94, .inl (upd f44 k44 (nI 20))))]) rfl dX8_street_66 (fun H locs V => ?_)
            refine lv_iinc (v := (nI (k44 + 1))) (lv' := [(2, .int (nI (k44 + 1))), (0, .ref o), (1, .int (nI jn))]) hx hb dX8_street_67 hl (k := 0) rfl (nI_1 _) (by decide) rfl (fun ls hl => ?_)
            refine lv_goto (tgt := 44) hx hb dX8_street_70 (by decide) ?_
            exact ih_44 (k44 + 1) (upd f44 k44 (nI 20)) (by omega) (up_one (p := fun j y => y = if j = 2 then nI 20 else nI 0) hf44 (by first | (rw [if_pos (by omega)]; done) | (rw [if_neg (by omega)]; done))) (fun j hj => (up_other (by omega)).trans (hf44b j hj)) (by omega) _ _ _ V (lv_sub hl [0, 1, 2] rfl)
    exact L_4 _ 0 ff (by omega) (fun i h => absurd h (Nat.not_lt_zero _)) (fun _ _ => rfl) (Nat.lt_succ_self _) _ _ _ V (lv_sub hl [0, 1, 2] rfl)
  · have V : gW D T A s [(o, .inr (8, [.int (nI 0), .ref g1, .ref g2, .ref g3, .ref g4, .int (nI tp), .int w6, .int w7, .int w8, .int w9, .int w10, .int w11, .int w12, .int w13, .int w14, .ref g15, .int w16, .ref g17, .int w18, .int w19, .ref g20, .int w21, .ref g22, .ref g23, .ref g24, .int w25, .int w26, .int w27, .ref g28, .ref g29, .int w30, .ref g31, .ref g32, .ref g33])), (g1, .inl (T 0, 282, .inl fa)), (g3, .inl (T 0, 900, .inl ft)), (g4, .inl (T 0, 94, .inl ff))] H locs := V _ [] rfl rfl rfl (by decide +kernel) rfl
    show W p l e _ s m args below meth c H locs _ _ _ (F0 m 16 ls [.int (nI 0)])
    refine lv_if_ne (tgt := 22) hx hb dX8_street_16 (by decide) (fun c => absurd (show (nI 0) = 0 by decide +kernel) c) (fun _ => ?_)
    refine lv_bipush (v := (-3)) hx hb dX8_street_19 (by decide +kernel) ?_
    exact g_iret (Qr := (q_m_street_f T n o n_ w0 g1 g2 g3 g4 tp w6 w7 w8 w9 w10 w11 w12 w13 w14 g15 w16 g17 w18 w19 g20 w21 g22 g23 g24 w25 w26 w27 g28 g29 w30 g31 g32 g33 fa ft ff)) hC V ⟨(Nat.le_of_ble_eq_true rfl), (Nat.le_of_ble_eq_true rfl)⟩ (.inl ⟨rfl, rfl, (by first | assumption | omega)⟩) dX8_street_21

/-! the class's view of the reading -/
def cK (k : Nat) : Nat := if k ≤ 8 then 1 else if k = 9 then 2 else if k = 10 then 3 else if k = 11 then 5 else 6
def cF (p : PS) : Nat := if p.2.2.2.2.1 = 0 then (if p.2.2.1 = 12 then 1 else 0) else p.2.2.2.2.1
def cP (p : PS) : Int32 := if p.2.2.2.2.1 = 0 then (if p.2.2.1 = 12 then nI p.1 else -1) else p.2.2.2.2.2
theorem cK_le (k : Nat) : cK k ≤ 6 := by unfold cK; split <;> (try split) <;> (try split) <;> (try split) <;> omega
theorem cK_1 {k : Nat} : cK k = 1 ↔ k ≤ 8 := by unfold cK; split <;> (try split) <;> (try split) <;> (try split) <;> omega
theorem cK_2 {k : Nat} : cK k = 2 ↔ k = 9 := by unfold cK; split <;> (try split) <;> (try split) <;> (try split) <;> omega
theorem cK_3 {k : Nat} : cK k = 3 ↔ k = 10 := by unfold cK; split <;> (try split) <;> (try split) <;> (try split) <;> omega
theorem cK_5 {k : Nat} : cK k = 5 ↔ k = 11 := by unfold cK; split <;> (try split) <;> (try split) <;> (try split) <;> omega
theorem cF_0 {p : PS} : cF p = 0 ↔ (p.2.2.2.2.1 = 0 ∧ ¬ p.2.2.1 = 12) := by
  unfold cF
  split
  · split <;> omega
  · omega
theorem cF_le {p : PS} (h : p.2.2.2.2.1 ≤ 4) : cF p ≤ 4 := by unfold cF; split <;> (try split) <;> omega
theorem cP_0 {p : PS} (h : cF p = 0) : cP p = -1 := by
  obtain ⟨h1, h2⟩ := cF_0.mp h
  unfold cP; rw [if_pos h1, if_neg h2]
/-- a FAULT is told: if there is none yet -/
theorem fa_v0 {f : Nat} {p : PS} (h : cF p = 0) (hf : ¬ f = 0) : faS f p = (p.1, p.2.1, p.2.2.1, p.2.2.2.1, f, nI p.1) ∧ cF (faS f p) = f ∧ cP (faS f p) = nI p.1 := by
  obtain ⟨h1, h2⟩ := cF_0.mp h
  rw [fa_0 h1 h2]
  refine ⟨rfl, ?_, ?_⟩
  · unfold cF; rw [if_neg hf]
  · unfold cP; rw [if_neg hf]
theorem fa_v1 {f : Nat} {p : PS} (h : ¬ cF p = 0) : (faS f p).1 = p.1 ∧ (faS f p).2.1 = p.2.1 ∧ (faS f p).2.2.1 = p.2.2.1 ∧ cF (faS f p) = cF p ∧ cP (faS f p) = cP p := by
  by_cases h1 : p.2.2.2.2.1 = 0
  · by_cases h2 : p.2.2.1 = 12
    · rw [fa_12 h1 h2]
      refine ⟨rfl, rfl, rfl, ?_, ?_⟩
      · show (1 : Nat) = cF p
        unfold cF; rw [if_pos h1, if_pos h2]
      · show nI p.1 = cP p
        unfold cP; rw [if_pos h1, if_pos h2]
    · exact absurd (cF_0.mpr ⟨h1, h2⟩) h
  · rw [fa_n0 h1]; exact ⟨rfl, rfl, rfl, rfl, rfl⟩
theorem fa_cF {f : Nat} {p : PS} (hf : ¬ f = 0) : ¬ cF (faS f p) = 0 := fun h => fa_w hf (cF_0.mp h).1
theorem tk_cF {t : Nat → Int32} {sz : Nat} {lo hi : Int32} {p : PS} (h : cF (tkS t sz lo hi p) = 0) : cF p = 0 ∧ p.2.2.1 = 9 := by
  by_cases c : p.2.2.2.2.1 = 0 ∧ p.2.2.1 = 9
  · exact ⟨cF_0.mpr ⟨c.1, by omega⟩, c.2⟩
  · rw [tk_2 c] at h; exact absurd h (fa_cF (by decide))
theorem ti_cF {t : Nat → Int32} {sz k : Nat} {lo hi : Int32} {p : PS} (hk : k < 9) (h : cF (tiS t sz k lo hi p) = 0) : cF p = 0 := by
  by_cases c : p.2.2.2.2.1 = 0 ∧ p.2.2.1 = k
  · exact cF_0.mpr ⟨c.1, by omega⟩
  · rw [ti_n c] at h; exact h
theorem ti_ff {t : Nat → Int32} {sz k : Nat} {lo hi : Int32} {p : PS} (hk : k < 9) (h : ¬ cF p = 0) : tiS t sz k lo hi p = p := by
  refine ti_n (fun c => h (cF_0.mpr ⟨c.1, by omega⟩))
/-- a byte with its sign -/
def sB (x : Int32) : Int32 := x.toInt8.toInt32
/-- the class's kinds of a byte -/
def ckS (x : Int32) : Nat := if x < nI 97 ∨ nI 122 < x then (if x < nI 48 ∨ nI 57 < x then (if x = nI 10 ∨ x = nI 32 then 4 else if x = nI 59 then 3 else 6) else 2) else 1
def ckA (t : Nat → Int32) (sz j : Nat) : Nat := if j < sz then ckS (t j) else 5
theorem ckS_1 {x : Int32} (h : ¬ x < nI 97) (h2 : ¬ nI 122 < x) : ckS x = 1 := by unfold ckS; rw [if_neg (fun q => q.elim h h2)]
theorem ckS_2 {x : Int32} (h0 : x < nI 97 ∨ nI 122 < x) (h : ¬ x < nI 48) (h2 : ¬ nI 57 < x) : ckS x = 2 := by unfold ckS; rw [if_pos h0, if_neg (fun q => q.elim h h2)]
theorem ckS_4 {x : Int32} (h0 : x < nI 97 ∨ nI 122 < x) (h : x < nI 48 ∨ nI 57 < x) (h2 : x = nI 10 ∨ x = nI 32) : ckS x = 4 := by unfold ckS; rw [if_pos h0, if_pos h, if_pos h2]
theorem ckS_3 {x : Int32} (h0 : x < nI 97 ∨ nI 122 < x) (h : x < nI 48 ∨ nI 57 < x) (h2 : ¬ x = nI 10) (h3 : ¬ x = nI 32) (h4 : x = nI 59) : ckS x = 3 := by unfold ckS; rw [if_pos h0, if_pos h, if_neg (fun q => q.elim h2 h3), if_pos h4]
theorem ckS_6 {x : Int32} (h0 : x < nI 97 ∨ nI 122 < x) (h : x < nI 48 ∨ nI 57 < x) (h2 : ¬ x = nI 10) (h3 : ¬ x = nI 32) (h4 : ¬ x = nI 59) : ckS x = 6 := by unfold ckS; rw [if_pos h0, if_pos h, if_neg (fun q => q.elim h2 h3), if_neg h4]
theorem ck_sB {x : Int32} (h : bd x 256) : ckS (sB x) = ckS x := by
  obtain ⟨j, hj, rfl⟩ := h
  have H : ∀ j : Fin 256, ckS (sB (nI j.1)) = ckS (nI j.1) := by decide +kernel
  exact H ⟨j, hj⟩
theorem ck256 {x : Int32} (h : bd x 256) : (ckS x = 1 ↔ smB x = true) ∧ (ckS x = 2 ↔ dgB x = true) ∧ (ckS x = 4 ↔ blkB x = true) ∧ (ckS x = 3 ↔ x = nI 59) ∧ 1 ≤ ckS x ∧ ckS x ≤ 6 ∧ ¬ ckS x = 5 := by
  obtain ⟨j, hj, rfl⟩ := h
  have H : ∀ j : Fin 256, (ckS (nI j.1) = 1 ↔ smB (nI j.1) = true) ∧ (ckS (nI j.1) = 2 ↔ dgB (nI j.1) = true) ∧ (ckS (nI j.1) = 4 ↔ blkB (nI j.1) = true) ∧ (ckS (nI j.1) = 3 ↔ nI j.1 = nI 59) ∧ 1 ≤ ckS (nI j.1) ∧ ckS (nI j.1) ≤ 6 ∧ ¬ ckS (nI j.1) = 5 := by decide +kernel
  exact H ⟨j, hj⟩
theorem sB_sm {x : Int32} (h : bd x 256) (hs : smB x = true) : sB x = x := by
  obtain ⟨j, hj, rfl⟩ := h
  have H : ∀ j : Fin 256, smB (nI j.1) = true → sB (nI j.1) = nI j.1 := by decide +kernel
  exact H ⟨j, hj⟩ hs
theorem sB_dg {x : Int32} (h : bd x 256) (hs : dgB x = true) : sB x = x := by
  obtain ⟨j, hj, rfl⟩ := h
  have H : ∀ j : Fin 256, dgB (nI j.1) = true → sB (nI j.1) = nI j.1 := by decide +kernel
  exact H ⟨j, hj⟩ hs
/-- the text as both have it -/
def TXT (sz : Nat) (tx t : Nat → Int32) : Prop := ∀ i, i < sz → bd (t i) 256 ∧ tx i = sB (t i)
theorem ck_mk {tx t : Nat → Int32} {sz j k : Nat} (h : TXT sz tx t) (hj : j < sz) (e : ckS (tx j) = k) : k = ckA t sz j := by
  unfold ckA; rw [if_pos hj, ← e, (h j hj).2, ck_sB (h j hj).1]
theorem ck_5 {t : Nat → Int32} {sz j : Nat} (hj : sz ≤ j) : 5 = ckA t sz j := by unfold ckA; rw [if_neg (by omega)]
theorem ckA_le {tx t : Nat → Int32} {sz : Nat} (h : TXT sz tx t) (j : Nat) : 1 ≤ ckA t sz j ∧ ckA t sz j ≤ 6 := by
  unfold ckA
  split
  · rename_i hj; have := ck256 (h j hj).1; exact ⟨this.2.2.2.2.1, this.2.2.2.2.2.1⟩
  · omega
theorem ckA_bl {tx t : Nat → Int32} {sz j z : Nat} (h : TXT sz tx t) (hj : j < sz) (e : z = ckA t sz j) : z = 4 ↔ blkB (t j) = true := by
  unfold ckA at e; rw [if_pos hj] at e; rw [e]; exact (ck256 (h j hj).1).2.2.1
theorem ckA_sm {tx t : Nat → Int32} {sz j z : Nat} (h : TXT sz tx t) (hj : j < sz) (e : z = ckA t sz j) : z = 1 ↔ smB (t j) = true := by
  unfold ckA at e; rw [if_pos hj] at e; rw [e]; exact (ck256 (h j hj).1).1
theorem ckA_dg {tx t : Nat → Int32} {sz j z : Nat} (h : TXT sz tx t) (hj : j < sz) (e : z = ckA t sz j) : z = 2 ↔ dgB (t j) = true := by
  unfold ckA at e; rw [if_pos hj] at e; rw [e]; exact (ck256 (h j hj).1).2.1
theorem ckA_sg {tx t : Nat → Int32} {sz j z : Nat} (h : TXT sz tx t) (hj : j < sz) (e : z = ckA t sz j) : z = 3 ↔ t j = nI 59 := by
  unfold ckA at e; rw [if_pos hj] at e; rw [e]; exact (ck256 (h j hj).1).2.2.2.1
theorem ckA_end {tx t : Nat → Int32} {sz j z : Nat} (h : TXT sz tx t) (e : z = ckA t sz j) : z = 5 ↔ sz ≤ j := by
  unfold ckA at e
  by_cases hj : j < sz
  · rw [if_pos hj] at e
    have := (ck256 (h j hj).1).2.2.2.2.2.2
    omega
  · rw [if_neg hj] at e
    omega
/-- where the TOKEN ends, by the class -/
theorem nt_B {tx t : Nat → Int32} {sz a b z : Nat} (h : TXT sz tx t) (ha : a ≤ sz) (hb : b ≤ sz) (e : z = ckA t sz a) (h1 : z = 1 → rn smB t sz b = rn smB t sz a) (h2 : z = 2 → rn dgB t sz b = rn dgB t sz a) (h3 : ¬ z = 1 → ¬ z = 2 → b = min (a + 1) sz)
    (hx : sz ≤ b ∨ (¬ z = 1 ∧ ¬ z = 2) ∨ (b < sz ∧ ¬ ckA t sz b = z)) : b = tkB t sz a := by
  by_cases ca : a < sz
  · by_cases c1 : z = 1
    · rw [tkB_w ca ((ckA_sm h ca e).mp c1)]
      refine rn_st (h1 c1) ?_
      rcases hx with q | q | ⟨q, q2⟩
      · exact rn_end q
      · exact absurd c1 q.1
      · exact rn_no (fun r => q2 (((ckA_sm h q rfl).mpr r).trans c1.symm))
    · by_cases c2 : z = 2
      · have hd := (ckA_dg h ca e).mp c2
        rw [tkB_d ca (dg_not_sm hd) hd]
        refine rn_st (h2 c2) ?_
        rcases hx with q | q | ⟨q, q2⟩
        · exact rn_end q
        · exact absurd c2 q.2
        · exact rn_no (fun r => q2 (((ckA_dg h q rfl).mpr r).trans c2.symm))
      · rw [tkB_s ca (fun r => c1 ((ckA_sm h ca e).mpr r)) (fun r => c2 ((ckA_dg h ca e).mpr r)), h3 c1 c2]
        omega
  · have : ¬ z = 1 := fun r => by have := (ckA_end h e).mpr (by omega); omega
    have h5 := (ckA_end h e).mpr (by omega)
    rw [tkB_e (by omega), h3 (by omega) (by omega)]
    omega
/-- its kind, by the class -/
theorem nt_K {tx t : Nat → Int32} {sz a b z : Nat} (h : TXT sz tx t) (ha : a ≤ sz) (e : z = ckA t sz a) (hb : a < sz → ¬ blkB (t a) = true) (h6 : ¬ z = 6) (h3 : z = 2 → b - a ≤ 3) : cK (tkK t sz a b) = z ∧ ¬ tkK t sz a b = 12 := by
  by_cases ca : a < sz
  · by_cases c1 : z = 1
    · rw [tkK_w ca ((ckA_sm h ca e).mp c1)]
      have := keyOf_le t a b
      exact ⟨(cK_1.mpr this).trans c1.symm, by omega⟩
    · by_cases c2 : z = 2
      · have hd := (ckA_dg h ca e).mp c2
        rw [tkK_d9 ca (dg_not_sm hd) hd (h3 c2), c2]
        exact ⟨rfl, by decide⟩
      · have n1 : ¬ smB (t a) = true := fun r => c1 ((ckA_sm h ca e).mpr r)
        have n2 : ¬ dgB (t a) = true := fun r => c2 ((ckA_dg h ca e).mpr r)
        have n4 : ¬ z = 4 := fun r => hb ca ((ckA_bl h ca e).mp r)
        have n5 : ¬ z = 5 := fun r => by have := (ckA_end h e).mp r; omega
        have hz := ckA_le h a
        have c3 : z = 3 := by omega
        rw [tkK_10 ca n1 n2 ((ckA_sg h ca e).mp c3), c3]
        exact ⟨rfl, by decide⟩
  · rw [tkK_e (by omega), (ckA_end h e).mpr (by omega)]
    exact ⟨rfl, by decide⟩
theorem nt_K12 {tx t : Nat → Int32} {sz a b z : Nat} (h : TXT sz tx t) (e : z = ckA t sz a) (h6 : z = 6 ∨ (z = 2 ∧ 3 < b - a)) : tkK t sz a b = 12 := by
  have ca : a < sz := by
    apply Classical.byContradiction
    intro q
    have := (ckA_end h e).mpr (by omega)
    omega
  rcases h6 with c6 | ⟨c2, c3⟩
  · exact tkK_12 ca (fun r => by have := (ckA_sm h ca e).mpr r; omega) (fun r => by have := (ckA_dg h ca e).mpr r; omega) (fun r => by have := (ckA_sg h ca e).mpr r; omega)
  · have hd := (ckA_dg h ca e).mp c2
    exact tkK_d12 ca (dg_not_sm hd) hd c3
/-- the next TOKEN, by the class: as it is told, and with a FAULT -/
theorem nt_v {tx t : Nat → Int32} {sz be a b z : Nat} {nu wa : Int32} (h : TXT sz tx t) (ha : a ≤ sz) (ea : a = rn blkB t sz be) (eb : b = tkB t sz a) (e : z = ckA t sz a) (hb : a < sz → ¬ blkB (t a) = true) (h6 : ¬ z = 6) (h3 : z = 2 → b - a ≤ 3) :
    (nxS t sz (0, be, 0, nu, 0, wa)).1 = a ∧ (nxS t sz (0, be, 0, nu, 0, wa)).2.1 = b ∧ cK (nxS t sz (0, be, 0, nu, 0, wa)).2.2.1 = z ∧ cF (nxS t sz (0, be, 0, nu, 0, wa)) = 0 ∧ cP (nxS t sz (0, be, 0, nu, 0, wa)) = -1 := by
  obtain ⟨q1, q2⟩ := nt_K (b := b) h ha e hb h6 h3
  have e0 := (nx_eq (t := t) (sz := sz) (p := (0, be, 0, nu, 0, wa)) ea eb rfl rfl rfl rfl).symm
  have e1 : (nxS t sz (0, be, 0, nu, 0, wa)).2.2.1 = tkK t sz a b := by rw [e0]
  have e2 : cF (nxS t sz (0, be, 0, nu, 0, wa)) = 0 := cF_0.mpr ⟨rfl, by rw [e1]; exact q2⟩
  exact ⟨by rw [e0], by rw [e0], by rw [e1]; exact q1, e2, cP_0 e2⟩
theorem nt_f {tx t : Nat → Int32} {sz be a b z : Nat} {nu wa : Int32} (h : TXT sz tx t) (ea : a = rn blkB t sz be) (eb : b = tkB t sz a) (e : z = ckA t sz a) (h6 : z = 6 ∨ (z = 2 ∧ 3 < b - a)) :
    (nxS t sz (0, be, 0, nu, 0, wa)).1 = a ∧ (nxS t sz (0, be, 0, nu, 0, wa)).2.1 = b ∧ cK (nxS t sz (0, be, 0, nu, 0, wa)).2.2.1 = 6 ∧ cF (nxS t sz (0, be, 0, nu, 0, wa)) = 1 ∧ cP (nxS t sz (0, be, 0, nu, 0, wa)) = nI a := by
  have q := nt_K12 h e h6
  have e0 := (nx_eq (t := t) (sz := sz) (p := (0, be, 0, nu, 0, wa)) ea eb rfl rfl rfl rfl).symm
  have e1 : (nxS t sz (0, be, 0, nu, 0, wa)).2.2.1 = 12 := by rw [e0]; exact q
  have ew : (nxS t sz (0, be, 0, nu, 0, wa)).2.2.2.2.1 = 0 := rfl
  refine ⟨by rw [e0], by rw [e0], by rw [e1]; rfl, ?_, ?_⟩
  · unfold cF; rw [if_pos ew, if_pos e1]
  · unfold cP; rw [if_pos ew, if_pos e1, e0]
theorem nx_w0 {t : Nat → Int32} {sz : Nat} {p : PS} (h : p.2.2.2.2.1 = 0) : nxS t sz (0, p.2.1, 0, p.2.2.2.1, 0, p.2.2.2.2.2) = nxS t sz p := by
  unfold nxS; rw [h]
theorem nx_c0 {t : Nat → Int32} {sz : Nat} {p : PS} (h : cF p = 0) : nxS t sz (0, p.2.1, 0, p.2.2.2.1, 0, p.2.2.2.2.2) = nxS t sz p := nx_w0 (cF_0.mp h).1
theorem min_go {t : Nat → Int32} {pr : Int32 → Bool} {sz a : Nat} (h : a < sz) (hp : pr (t a) = true) : rn pr t sz (min (a + 1) sz) = rn pr t sz a := by
  rw [rn_go h hp, Nat.min_eq_left (by omega)]
/-- the digits of a TOKEN -/
theorem pi_dg {t : Nat → Int32} {sz : Nat} {p : PS} (h : PI t sz p) (h9 : p.2.2.1 = 9) : ∀ j, p.1 ≤ j → j < p.2.1 → dgB (t j) = true := by
  obtain ⟨a1, a2, a3, a4, a6, a7, a8⟩ := h
  rw [a6] at h9
  obtain ⟨q1, q2, q3, q4⟩ := tk9 h9
  have e : p.2.1 = rn dgB t sz p.1 := a7.trans (tkB_d q1 q2 q3)
  intro j h1 h2
  rw [e] at h2
  exact rn_all (by omega) j h1 h2
theorem pi_sm {t : Nat → Int32} {sz : Nat} {p : PS} (h : PI t sz p) (h9 : p.2.2.1 ≤ 8) : p.1 < sz ∧ p.2.2.1 = keyOf t p.1 p.2.1 ∧ ∀ j, p.1 ≤ j → j < p.2.1 → smB (t j) = true := by
  obtain ⟨a1, a2, a3, a4, a6, a7, a8⟩ := h
  have h1 : p.1 < sz := by
    apply Classical.byContradiction
    intro q
    rw [tkK_e (by omega)] at a6
    omega
  have h2 : smB (t p.1) = true := by
    apply Classical.byContradiction
    intro q
    by_cases c : dgB (t p.1) = true
    · by_cases c2 : 3 < p.2.1 - p.1
      · rw [tkK_d12 h1 q c c2] at a6; omega
      · rw [tkK_d9 h1 q c (by omega)] at a6; omega
    · by_cases c2 : t p.1 = nI 59
      · rw [tkK_10 h1 q c c2] at a6; omega
      · rw [tkK_12 h1 q c c2] at a6; omega
  refine ⟨h1, a6.trans (tkK_w h1 h2), ?_⟩
  have e : p.2.1 = rn smB t sz p.1 := a7.trans (tkB_w h1 h2)
  intro j q1 q2
  rw [e] at q2
  exact rn_all (by omega) j q1 q2
theorem nu_c {tx t : Nat → Int32} {sz j : Nat} {p : PS} {wv : Int32} (h : TXT sz tx t) (hP : PI t sz p) (h9 : p.2.2.1 = 9) (h1 : p.1 ≤ j) (h2 : j < p.2.1) (e : wv = nuV t p.1 (j - p.1)) : nI 10 * wv + tx j - nI 48 = nuV t p.1 (j + 1 - p.1) := by
  have hd := pi_dg hP h9 j h1 h2
  have hs := h j (Nat.lt_of_lt_of_le h2 hP.2.1)
  rw [hs.2, sB_dg hs.1 hd, e, show j + 1 - p.1 = (j - p.1) + 1 by omega]
  show _ = nI 10 * nuV t p.1 (j - p.1) + t (p.1 + (j - p.1)) - nI 48
  rw [show p.1 + (j - p.1) = j by omega]
theorem iw_len {t : Nat → Int32} {sz si : Nat} {p : PS} (hP : PI t sz p) (hs : si < 8) (h : ¬ p.2.1 = p.1 + sLen.getD si 0) : ¬ p.2.2.1 = si := by
  intro e
  have q := (pi_sm hP (by omega)).2.1
  exact h ((keyOf_iff hs).mp (q.symm.trans e)).1
theorem iw_ch {tx t : Nat → Int32} {sz si k : Nat} {p : PS} (h : TXT sz tx t) (hP : PI t sz p) (hs : si < 8) (h8 : p.2.2.1 ≤ 8) (hk : k < sLen.getD si 0) (hl : p.2.1 = p.1 + sLen.getD si 0) : tx (p.1 + k) = t (p.1 + k) := by
  have q := (pi_sm hP h8).2.2 (p.1 + k) (by omega) (by omega)
  have hx := h (p.1 + k) (by have := hP.2.1; omega)
  rw [hx.2, sB_sm hx.1 q]
theorem iw_no {t : Nat → Int32} {sz si k : Nat} {p : PS} (hP : PI t sz p) (hs : si < 8) (hk : k < sLen.getD si 0) (h : ¬ t (p.1 + k) = sch si k) : ¬ p.2.2.1 = si := by
  intro e
  have q := (pi_sm hP (by omega)).2.1
  exact h (((keyOf_iff hs).mp (q.symm.trans e)).2 k hk)
theorem iw_y {t : Nat → Int32} {sz si : Nat} {p : PS} (hP : PI t sz p) (hs : si < 8) (h8 : p.2.2.1 ≤ 8) (hl : p.2.1 = p.1 + sLen.getD si 0) (h : ∀ k, k < sLen.getD si 0 → t (p.1 + k) = sch si k) : p.2.2.1 = si :=
  (pi_sm hP h8).2.1.trans (keyOf_is hs ⟨hl, h⟩)

theorem nt_lt {tx t : Nat → Int32} {sz a z : Nat} (h : TXT sz tx t) (e : z = ckA t sz a) (h5 : ¬ z = 5) : a < sz := by
  apply Classical.byContradiction
  intro q
  exact h5 ((ckA_end h e).mpr (by omega))

theorem tk_3w {t : Nat → Int32} {sz : Nat} {lo hi : Int32} {p : PS} (h9 : p.2.2.1 = 9) (h : p.2.2.2.1 < lo ∨ hi < p.2.2.2.1) : faS 3 p = tkS t sz lo hi p := by
  by_cases c : p.2.2.2.2.1 = 0
  · exact (tk_3 c h9 h).symm
  · rw [tk_w c, fa_n0 c]

def q_f_kindAt (T : Nat → ClassId) (ft : Nat → Int32) (t0 : Nat) (j : Nat) (tf : Int32) (tu : Int32) (tl : Int32) (t1 : Nat) (sz : Nat) (tk : Int32) (tr : Int32) (tb : Int32) (tx : Nat → Int32) : Option Value → va_W → Prop := fun rr ww => (∃ (z : Nat), rr = some (.int (nI z)) ∧ ww = [(t0, .inr (2, [.int tf, .int tu, .int tl, .ref t1, .int (nI sz), .int tk, .int tr, .int tb])), (t1, .inl (T 3, 900, .inl tx))] ∧ z = ckA ft sz j)
set_option maxHeartbeats 4000000 in
set_option maxRecDepth 100000 in
theorem f_kindAt (l : Launch) (D : va_G) (T : Nat → ClassId) (ft : Nat → Int32) (t0 : Nat) (j : Nat) (tf : Int32) (tu : Int32) (tl : Int32) (t1 : Nat) (sz : Nat) (tk : Int32) (tr : Int32) (tb : Int32) (tx : Nat → Int32) (h_sz : sz ≤ 900) (h_tx : TXT sz tx ft) (h_j : j ≤ sz) : Ct l yX2_kindAt cX2_kindAt 3 (some .int) 0 0 0 D T [.ref t0, .int (nI j)] [(t0, .inr (2, [.int tf, .int tu, .int tl, .ref t1, .int (nI sz), .int tk, .int tr, .int tb])), (t1, .inl (T 3, 900, .inl tx))] (q_f_kindAt T ft t0 j tf tu tl t1 sz tk tr tb tx) := by
  refine Ct.of (cc := cX2_kindAt) (maxL := 3) (ret := (some .int)) (by decide) (Nat.le_of_ble_eq_true rfl) ?_
  intro p e s m args below meth c A ls hC hnm V hl
  obtain ⟨hx, hb, hr, hml, hown, hts, hlocks⟩ := id hC
  generalize hH : s.heap = H at V ⊢
  clear hH
  have hl : lv_has ls 3 [(0, .ref t0), (1, .int (nI j))] := hl
  generalize hlo : ([] : List Loc) = locs at V ⊢
  clear hlo
  refine lv_iload_n hx hb dX2_kindAt_0 rfl (lv_at hl 1 rfl) ?_
  refine lv_aload_n hx hb dX2_kindAt_1 rfl (lv_at hl 0 rfl) ?_
  refine g_get hC V (ci := 2) uwX2 0 rfl rfl 4 (by decide) w_135 rfl rfl dX2_kindAt_2 ?_
  refine lv_icmp_lt (tgt := 10) hx hb dX2_kindAt_5 (by decide) (fun c_1 => ?_) (fun c_1 => ?_)
  · skip
    have c_1 := b_lt (by omega) (by omega) c_1
    refine lv_aload_n hx hb dX2_kindAt_10 rfl (lv_at hl 0 rfl) ?_
    refine g_get hC V (ci := 2) uwX2 0 rfl rfl 3 (by decide) w_134 rfl rfl dX2_kindAt_11 ?_
    refine lv_iload_n hx hb dX2_kindAt_14 rfl (lv_at hl 1 rfl) ?_
    refine g_bald hC V 1 rfl (vp_in_nI (by omega) (by omega)) (v := (tx j)) (congrArg _ (nI_clamp (by omega))) dX2_kindAt_15 ?_
    refine lv_istore_n (lv' := [(2, .int (tx j)), (0, .ref t0), (1, .int (nI j))]) hx hb dX2_kindAt_16 rfl hl (by decide) rfl (fun ls hl => ?_)
    refine lv_iload_n hx hb dX2_kindAt_17 rfl (lv_at hl 0 rfl) ?_
    refine lv_bipush (v := (nI 97)) hx hb dX2_kindAt_18 (by decide +kernel) ?_
    refine lv_icmp_lt (tgt := 31) hx hb dX2_kindAt_20 (by decide) (fun c_2 => ?_) (fun c_2 => ?_)
    · skip
      refine lv_iload_n hx hb dX2_kindAt_31 rfl (lv_at hl 0 rfl) ?_
      refine lv_bipush (v := (nI 48)) hx hb dX2_kindAt_32 (by decide +kernel) ?_
      refine lv_icmp_lt (tgt := 45) hx hb dX2_kindAt_34 (by decide) (fun c_3 => ?_) (fun c_3 => ?_)
      · skip
        refine lv_iload_n hx hb dX2_kindAt_45 rfl (lv_at hl 0 rfl) ?_
        refine lv_bipush (v := (nI 10)) hx hb dX2_kindAt_46 (by decide +kernel) ?_
        refine lv_icmp_eq (tgt := 57) hx hb dX2_kindAt_48 (by decide) (fun c_4 => ?_) (fun c_4 => ?_)
        · skip
          refine lv_iconst (v := (nI 4)) hx hb dX2_kindAt_57 (by decide +kernel) ?_
          exact g_iret (Qr := (q_f_kindAt T ft t0 j tf tu tl t1 sz tk tr tb tx)) hC V ⟨(Nat.le_of_ble_eq_true rfl), (Nat.le_of_ble_eq_true rfl)⟩ ⟨4, rfl, rfl, (ck_mk h_tx (by omega) (ckS_4 (by first | exact Or.inl (by assumption) | exact Or.inr (by assumption)) (by first | exact Or.inl (by assumption) | exact Or.inr (by assumption)) (by first | exact Or.inl (by assumption) | exact Or.inr (by assumption))))⟩ dX2_kindAt_58
        · skip
          refine lv_iload_n hx hb dX2_kindAt_51 rfl (lv_at hl 0 rfl) ?_
          refine lv_bipush (v := (nI 32)) hx hb dX2_kindAt_52 (by decide +kernel) ?_
          refine lv_icmp_ne (tgt := 59) hx hb dX2_kindAt_54 (by decide) (fun c_5 => ?_) (fun c_5 => ?_)
          · skip
            refine lv_iload_n hx hb dX2_kindAt_59 rfl (lv_at hl 0 rfl) ?_
            refine lv_bipush (v := (nI 59)) hx hb dX2_kindAt_60 (by decide +kernel) ?_
            refine lv_icmp_ne (tgt := 69) hx hb dX2_kindAt_62 (by decide) (fun c_6 => ?_) (fun c_6 => ?_)
            · skip
              refine lv_bipush (v := (nI 6)) hx hb dX2_kindAt_69 (by decide +kernel) ?_
              exact g_iret (Qr := (q_f_kindAt T ft t0 j tf tu tl t1 sz tk tr tb tx)) hC V ⟨(Nat.le_of_ble_eq_true rfl), (Nat.le_of_ble_eq_true rfl)⟩ ⟨6, rfl, rfl, (ck_mk h_tx (by omega) (ckS_6 (by first | exact Or.inl (by assumption) | exact Or.inr (by assumption)) (by first | exact Or.inl (by assumption) | exact Or.inr (by assumption)) (by assumption) (by assumption) (by assumption)))⟩ dX2_kindAt_71
            · skip
              refine lv_iconst (v := (nI 3)) hx hb dX2_kindAt_65 (by decide +kernel) ?_
              refine lv_goto (tgt := 71) hx hb dX2_kindAt_66 (by decide) ?_
              exact g_iret (Qr := (q_f_kindAt T ft t0 j tf tu tl t1 sz tk tr tb tx)) hC V ⟨(Nat.le_of_ble_eq_true rfl), (Nat.le_of_ble_eq_true rfl)⟩ ⟨3, rfl, rfl, (ck_mk h_tx (by omega) (ckS_3 (by first | exact Or.inl (by assumption) | exact Or.inr (by assumption)) (by first | exact Or.inl (by assumption) | exact Or.inr (by assumption)) (by assumption) (by assumption) (by assumption)))⟩ dX2_kindAt_71
          · skip
            refine lv_iconst (v := (nI 4)) hx hb dX2_kindAt_57 (by decide +kernel) ?_
            exact g_iret (Qr := (q_f_kindAt T ft t0 j tf tu tl t1 sz tk tr tb tx)) hC V ⟨(Nat.le_of_ble_eq_true rfl), (Nat.le_of_ble_eq_true rfl)⟩ ⟨4, rfl, rfl, (ck_mk h_tx (by omega) (ckS_4 (by first | exact Or.inl (by assumption) | exact Or.inr (by assumption)) (by first | exact Or.inl (by assumption) | exact Or.inr (by assumption)) (by first | exact Or.inl (by assumption) | exact Or.inr (by assumption))))⟩ dX2_kindAt_58
      · skip
        refine lv_iload_n hx hb dX2_kindAt_37 rfl (lv_at hl 0 rfl) ?_
        refine lv_bipush (v := (nI 57)) hx hb dX2_kindAt_38 (by decide +kernel) ?_
        refine lv_icmp_gt (tgt := 45) hx hb dX2_kindAt_40 (by decide) (fun c_7 => ?_) (fun c_7 => ?_)
        · skip
          refine lv_iload_n hx hb dX2_kindAt_45 rfl (lv_at hl 0 rfl) ?_
          refine lv_bipush (v := (nI 10)) hx hb dX2_kindAt_46 (by decide +kernel) ?_
          refine lv_icmp_eq (tgt := 57) hx hb dX2_kindAt_48 (by decide) (fun c_8 => ?_) (fun c_8 => ?_)
          · skip
            refine lv_iconst (v := (nI 4)) hx hb dX2_kindAt_57 (by decide +kernel) ?_
            exact g_iret (Qr := (q_f_kindAt T ft t0 j tf tu tl t1 sz tk tr tb tx)) hC V ⟨(Nat.le_of_ble_eq_true rfl), (Nat.le_of_ble_eq_true rfl)⟩ ⟨4, rfl, rfl, (ck_mk h_tx (by omega) (ckS_4 (by first | exact Or.inl (by assumption) | exact Or.inr (by assumption)) (by first | exact Or.inl (by assumption) | exact Or.inr (by assumption)) (by first | exact Or.inl (by assumption) | exact Or.inr (by assumption))))⟩ dX2_kindAt_58
          · skip
            refine lv_iload_n hx hb dX2_kindAt_51 rfl (lv_at hl 0 rfl) ?_
            refine lv_bipush (v := (nI 32)) hx hb dX2_kindAt_52 (by decide +kernel) ?_
            refine lv_icmp_ne (tgt := 59) hx hb dX2_kindAt_54 (by decide) (fun c_9 => ?_) (fun c_9 => ?_)
            · skip
              refine lv_iload_n hx hb dX2_kindAt_59 rfl (lv_at hl 0 rfl) ?_
              refine lv_bipush (v := (nI 59)) hx hb dX2_kindAt_60 (by decide +kernel) ?_
              refine lv_icmp_ne (tgt := 69) hx hb dX2_kindAt_62 (by decide) (fun c_10 => ?_) (fun c_10 => ?_)
              · skip
                refine lv_bipush (v := (nI 6)) hx hb dX2_kindAt_69 (by decide +kernel) ?_
                exact g_iret (Qr := (q_f_kindAt T ft t0 j tf tu tl t1 sz tk tr tb tx)) hC V ⟨(Nat.le_of_ble_eq_true rfl), (Nat.le_of_ble_eq_true rfl)⟩ ⟨6, rfl, rfl, (ck_mk h_tx (by omega) (ckS_6 (by first | exact Or.inl (by assumption) | exact Or.inr (by assumption)) (by first | exact Or.inl (by assumption) | exact Or.inr (by assumption)) (by assumption) (by assumption) (by assumption)))⟩ dX2_kindAt_71
              · skip
                refine lv_iconst (v := (nI 3)) hx hb dX2_kindAt_65 (by decide +kernel) ?_
                refine lv_goto (tgt := 71) hx hb dX2_kindAt_66 (by decide) ?_
                exact g_iret (Qr := (q_f_kindAt T ft t0 j tf tu tl t1 sz tk tr tb tx)) hC V ⟨(Nat.le_of_ble_eq_true rfl), (Nat.le_of_ble_eq_true rfl)⟩ ⟨3, rfl, rfl, (ck_mk h_tx (by omega) (ckS_3 (by first | exact Or.inl (by assumption) | exact Or.inr (by assumption)) (by first | exact Or.inl (by assumption) | exact Or.inr (by assumption)) (by assumption) (by assumption) (by assumption)))⟩ dX2_kindAt_71
            · skip
              refine lv_iconst (v := (nI 4)) hx hb dX2_kindAt_57 (by decide +kernel) ?_
              exact g_iret (Qr := (q_f_kindAt T ft t0 j tf tu tl t1 sz tk tr tb tx)) hC V ⟨(Nat.le_of_ble_eq_true rfl), (Nat.le_of_ble_eq_true rfl)⟩ ⟨4, rfl, rfl, (ck_mk h_tx (by omega) (ckS_4 (by first | exact Or.inl (by assumption) | exact Or.inr (by assumption)) (by first | exact Or.inl (by assumption) | exact Or.inr (by assumption)) (by first | exact Or.inl (by assumption) | exact Or.inr (by assumption))))⟩ dX2_kindAt_58
        · skip
          refine lv_iconst (v := (nI 2)) hx hb dX2_kindAt_43 (by decide +kernel) ?_
          exact g_iret (Qr := (q_f_kindAt T ft t0 j tf tu tl t1 sz tk tr tb tx)) hC V ⟨(Nat.le_of_ble_eq_true rfl), (Nat.le_of_ble_eq_true rfl)⟩ ⟨2, rfl, rfl, (ck_mk h_tx (by omega) (ckS_2 (by first | exact Or.inl (by assumption) | exact Or.inr (by assumption)) (by assumption) (by assumption)))⟩ dX2_kindAt_44
    · skip
      refine lv_iload_n hx hb dX2_kindAt_23 rfl (lv_at hl 0 rfl) ?_
      refine lv_bipush (v := (nI 122)) hx hb dX2_kindAt_24 (by decide +kernel) ?_
      refine lv_icmp_gt (tgt := 31) hx hb dX2_kindAt_26 (by decide) (fun c_11 => ?_) (fun c_11 => ?_)
      · skip
        refine lv_iload_n hx hb dX2_kindAt_31 rfl (lv_at hl 0 rfl) ?_
        refine lv_bipush (v := (nI 48)) hx hb dX2_kindAt_32 (by decide +kernel) ?_
        refine lv_icmp_lt (tgt := 45) hx hb dX2_kindAt_34 (by decide) (fun c_12 => ?_) (fun c_12 => ?_)
        · skip
          refine lv_iload_n hx hb dX2_kindAt_45 rfl (lv_at hl 0 rfl) ?_
          refine lv_bipush (v := (nI 10)) hx hb dX2_kindAt_46 (by decide +kernel) ?_
          refine lv_icmp_eq (tgt := 57) hx hb dX2_kindAt_48 (by decide) (fun c_13 => ?_) (fun c_13 => ?_)
          · skip
            refine lv_iconst (v := (nI 4)) hx hb dX2_kindAt_57 (by decide +kernel) ?_
            exact g_iret (Qr := (q_f_kindAt T ft t0 j tf tu tl t1 sz tk tr tb tx)) hC V ⟨(Nat.le_of_ble_eq_true rfl), (Nat.le_of_ble_eq_true rfl)⟩ ⟨4, rfl, rfl, (ck_mk h_tx (by omega) (ckS_4 (by first | exact Or.inl (by assumption) | exact Or.inr (by assumption)) (by first | exact Or.inl (by assumption) | exact Or.inr (by assumption)) (by first | exact Or.inl (by assumption) | exact Or.inr (by assumption))))⟩ dX2_kindAt_58
          · skip
            refine lv_iload_n hx hb dX2_kindAt_51 rfl (lv_at hl 0 rfl) ?_
            refine lv_bipush (v := (nI 32)) hx hb dX2_kindAt_52 (by decide +kernel) ?_
            refine lv_icmp_ne (tgt := 59) hx hb dX2_kindAt_54 (by decide) (fun c_14 => ?_) (fun c_14 => ?_)
            · skip
              refine lv_iload_n hx hb dX2_kindAt_59 rfl (lv_at hl 0 rfl) ?_
              refine lv_bipush (v := (nI 59)) hx hb dX2_kindAt_60 (by decide +kernel) ?_
              refine lv_icmp_ne (tgt := 69) hx hb dX2_kindAt_62 (by decide) (fun c_15 => ?_) (fun c_15 => ?_)
              · skip
                refine lv_bipush (v := (nI 6)) hx hb dX2_kindAt_69 (by decide +kernel) ?_
                exact g_iret (Qr := (q_f_kindAt T ft t0 j tf tu tl t1 sz tk tr tb tx)) hC V ⟨(Nat.le_of_ble_eq_true rfl), (Nat.le_of_ble_eq_true rfl)⟩ ⟨6, rfl, rfl, (ck_mk h_tx (by omega) (ckS_6 (by first | exact Or.inl (by assumption) | exact Or.inr (by assumption)) (by first | exact Or.inl (by assumption) | exact Or.inr (by assumption)) (by assumption) (by assumption) (by assumption)))⟩ dX2_kindAt_71
              · skip
                refine lv_iconst (v := (nI 3)) hx hb dX2_kindAt_65 (by decide +kernel) ?_
                refine lv_goto (tgt := 71) hx hb dX2_kindAt_66 (by decide) ?_
                exact g_iret (Qr := (q_f_kindAt T ft t0 j tf tu tl t1 sz tk tr tb tx)) hC V ⟨(Nat.le_of_ble_eq_true rfl), (Nat.le_of_ble_eq_true rfl)⟩ ⟨3, rfl, rfl, (ck_mk h_tx (by omega) (ckS_3 (by first | exact Or.inl (by assumption) | exact Or.inr (by assumption)) (by first | exact Or.inl (by assumption) | exact Or.inr (by assumption)) (by assumption) (by assumption) (by assumption)))⟩ dX2_kindAt_71
            · skip
              refine lv_iconst (v := (nI 4)) hx hb dX2_kindAt_57 (by decide +kernel) ?_
              exact g_iret (Qr := (q_f_kindAt T ft t0 j tf tu tl t1 sz tk tr tb tx)) hC V ⟨(Nat.le_of_ble_eq_true rfl), (Nat.le_of_ble_eq_true rfl)⟩ ⟨4, rfl, rfl, (ck_mk h_tx (by omega) (ckS_4 (by first | exact Or.inl (by assumption) | exact Or.inr (by assumption)) (by first | exact Or.inl (by assumption) | exact Or.inr (by assumption)) (by first | exact Or.inl (by assumption) | exact Or.inr (by assumption))))⟩ dX2_kindAt_58
        · skip
          refine lv_iload_n hx hb dX2_kindAt_37 rfl (lv_at hl 0 rfl) ?_
          refine lv_bipush (v := (nI 57)) hx hb dX2_kindAt_38 (by decide +kernel) ?_
          refine lv_icmp_gt (tgt := 45) hx hb dX2_kindAt_40 (by decide) (fun c_16 => ?_) (fun c_16 => ?_)
          · skip
            refine lv_iload_n hx hb dX2_kindAt_45 rfl (lv_at hl 0 rfl) ?_
            refine lv_bipush (v := (nI 10)) hx hb dX2_kindAt_46 (by decide +kernel) ?_
            refine lv_icmp_eq (tgt := 57) hx hb dX2_kindAt_48 (by decide) (fun c_17 => ?_) (fun c_17 => ?_)
            · skip
              refine lv_iconst (v := (nI 4)) hx hb dX2_kindAt_57 (by decide +kernel) ?_
              exact g_iret (Qr := (q_f_kindAt T ft t0 j tf tu tl t1 sz tk tr tb tx)) hC V ⟨(Nat.le_of_ble_eq_true rfl), (Nat.le_of_ble_eq_true rfl)⟩ ⟨4, rfl, rfl, (ck_mk h_tx (by omega) (ckS_4 (by first | exact Or.inl (by assumption) | exact Or.inr (by assumption)) (by first | exact Or.inl (by assumption) | exact Or.inr (by assumption)) (by first | exact Or.inl (by assumption) | exact Or.inr (by assumption))))⟩ dX2_kindAt_58
            · skip
              refine lv_iload_n hx hb dX2_kindAt_51 rfl (lv_at hl 0 rfl) ?_
              refine lv_bipush (v := (nI 32)) hx hb dX2_kindAt_52 (by decide +kernel) ?_
              refine lv_icmp_ne (tgt := 59) hx hb dX2_kindAt_54 (by decide) (fun c_18 => ?_) (fun c_18 => ?_)
              · skip
                refine lv_iload_n hx hb dX2_kindAt_59 rfl (lv_at hl 0 rfl) ?_
                refine lv_bipush (v := (nI 59)) hx hb dX2_kindAt_60 (by decide +kernel) ?_
                refine lv_icmp_ne (tgt := 69) hx hb dX2_kindAt_62 (by decide) (fun c_19 => ?_) (fun c_19 => ?_)
                · skip
                  refine lv_bipush (v := (nI 6)) hx hb dX2_kindAt_69 (by decide +kernel) ?_
                  exact g_iret (Qr := (q_f_kindAt T ft t0 j tf tu tl t1 sz tk tr tb tx)) hC V ⟨(Nat.le_of_ble_eq_true rfl), (Nat.le_of_ble_eq_true rfl)⟩ ⟨6, rfl, rfl, (ck_mk h_tx (by omega) (ckS_6 (by first | exact Or.inl (by assumption) | exact Or.inr (by assumption)) (by first | exact Or.inl (by assumption) | exact Or.inr (by assumption)) (by assumption) (by assumption) (by assumption)))⟩ dX2_kindAt_71
                · skip
                  refine lv_iconst (v := (nI 3)) hx hb dX2_kindAt_65 (by decide +kernel) ?_
                  refine lv_goto (tgt := 71) hx hb dX2_kindAt_66 (by decide) ?_
                  exact g_iret (Qr := (q_f_kindAt T ft t0 j tf tu tl t1 sz tk tr tb tx)) hC V ⟨(Nat.le_of_ble_eq_true rfl), (Nat.le_of_ble_eq_true rfl)⟩ ⟨3, rfl, rfl, (ck_mk h_tx (by omega) (ckS_3 (by first | exact Or.inl (by assumption) | exact Or.inr (by assumption)) (by first | exact Or.inl (by assumption) | exact Or.inr (by assumption)) (by assumption) (by assumption) (by assumption)))⟩ dX2_kindAt_71
              · skip
                refine lv_iconst (v := (nI 4)) hx hb dX2_kindAt_57 (by decide +kernel) ?_
                exact g_iret (Qr := (q_f_kindAt T ft t0 j tf tu tl t1 sz tk tr tb tx)) hC V ⟨(Nat.le_of_ble_eq_true rfl), (Nat.le_of_ble_eq_true rfl)⟩ ⟨4, rfl, rfl, (ck_mk h_tx (by omega) (ckS_4 (by first | exact Or.inl (by assumption) | exact Or.inr (by assumption)) (by first | exact Or.inl (by assumption) | exact Or.inr (by assumption)) (by first | exact Or.inl (by assumption) | exact Or.inr (by assumption))))⟩ dX2_kindAt_58
          · skip
            refine lv_iconst (v := (nI 2)) hx hb dX2_kindAt_43 (by decide +kernel) ?_
            exact g_iret (Qr := (q_f_kindAt T ft t0 j tf tu tl t1 sz tk tr tb tx)) hC V ⟨(Nat.le_of_ble_eq_true rfl), (Nat.le_of_ble_eq_true rfl)⟩ ⟨2, rfl, rfl, (ck_mk h_tx (by omega) (ckS_2 (by first | exact Or.inl (by assumption) | exact Or.inr (by assumption)) (by assumption) (by assumption)))⟩ dX2_kindAt_44
      · skip
        refine lv_iconst (v := (nI 1)) hx hb dX2_kindAt_29 (by decide +kernel) ?_
        exact g_iret (Qr := (q_f_kindAt T ft t0 j tf tu tl t1 sz tk tr tb tx)) hC V ⟨(Nat.le_of_ble_eq_true rfl), (Nat.le_of_ble_eq_true rfl)⟩ ⟨1, rfl, rfl, (ck_mk h_tx (by omega) (ckS_1 (by assumption) (by assumption)))⟩ dX2_kindAt_30
  · skip
    have c_1 := b_nlt (by omega) (by omega) c_1
    refine lv_iconst (v := (nI 5)) hx hb dX2_kindAt_8 (by decide +kernel) ?_
    exact g_iret (Qr := (q_f_kindAt T ft t0 j tf tu tl t1 sz tk tr tb tx)) hC V ⟨(Nat.le_of_ble_eq_true rfl), (Nat.le_of_ble_eq_true rfl)⟩ ⟨5, rfl, rfl, (ck_5 (by omega))⟩ dX2_kindAt_9

def q_f_fail0 (T : Nat → ClassId) (t0 : Nat) (w : Nat) (tf : Int32) (tu : Nat) (tl : Int32) (t1 : Nat) (sz : Nat) (tk : Int32) (tr : Nat) (tb : Int32) : Option Value → va_W → Prop := fun rr ww => (rr = none ∧ ww = [(t0, .inr (2, [.int tf, .int (nI w), .int (nI tr), .ref t1, .int (nI sz), .int tk, .int (nI tr), .int tb]))])
set_option maxHeartbeats 4000000 in
set_option maxRecDepth 100000 in
theorem f_fail0 (l : Launch) (D : va_G) (T : Nat → ClassId) (t0 : Nat) (w : Nat) (tf : Int32) (tu : Nat) (tl : Int32) (t1 : Nat) (sz : Nat) (tk : Int32) (tr : Nat) (tb : Int32) (h_u : tu = 0) : Ct l yX2_fail cX2_fail 2 none 0 0 0 D T [.ref t0, .int (nI w)] [(t0, .inr (2, [.int tf, .int (nI tu), .int tl, .ref t1, .int (nI sz), .int tk, .int (nI tr), .int tb]))] (q_f_fail0 T t0 w tf tu tl t1 sz tk tr tb) := by
  refine Ct.of (cc := cX2_fail) (maxL := 2) (ret := none) (by decide) (Nat.le_of_ble_eq_true rfl) ?_
  intro p e s m args below meth c A ls hC hnm V hl
  obtain ⟨hx, hb, hr, hml, hown, hts, hlocks⟩ := id hC
  generalize hH : s.heap = H at V ⊢
  clear hH
  have hl : lv_has ls 2 [(0, .ref t0), (1, .int (nI w))] := hl
  generalize hlo : ([] : List Loc) = locs at V ⊢
  clear hlo
  refine lv_aload_n hx hb dX2_fail_0 rfl (lv_at hl 0 rfl) ?_
  refine g_get hC V (ci := 2) uwX2 0 rfl rfl 1 (by decide) w_130 rfl rfl dX2_fail_1 ?_
  refine lv_if_ne (tgt := 20) hx hb dX2_fail_4 (by decide) (fun c_1 => ?_) (fun c_1 => ?_)
  · skip
    rw [show (0 : Int32) = nI 0 from rfl] at c_1
    have c_1 := b_ne (by omega) (by omega) c_1
    exact (by omega : False).elim
  · skip
    rw [show (0 : Int32) = nI 0 from rfl] at c_1
    have c_1 := b_eq (by omega) (by omega) c_1
    refine lv_aload_n hx hb dX2_fail_7 rfl (lv_at hl 0 rfl) ?_
    refine lv_iload_n hx hb dX2_fail_8 rfl (lv_at hl 1 rfl) ?_
    refine g_put hC V (ci := 2) uwX2 tyX2 tyX2_ok nmX2 0 rfl rfl 1 (by decide) w_130 rfl rfl rfl rfl (Nat.le_of_ble_eq_true rfl) (ws' := [(t0, .inr (2, [.int tf, .int (nI w), .int tl, .ref t1, .int (nI sz), .int tk, .int (nI tr), .int tb]))]) rfl dX2_fail_9 (fun H locs V => ?_)
    refine lv_aload_n hx hb dX2_fail_12 rfl (lv_at hl 0 rfl) ?_
    refine lv_aload_n hx hb dX2_fail_13 rfl (lv_at hl 0 rfl) ?_
    refine g_get hC V (ci := 2) uwX2 0 rfl rfl 6 (by decide) w_137 rfl rfl dX2_fail_14 ?_
    refine g_put hC V (ci := 2) uwX2 tyX2 tyX2_ok nmX2 0 rfl rfl 2 (by decide) w_132 rfl rfl rfl rfl (Nat.le_of_ble_eq_true rfl) (ws' := [(t0, .inr (2, [.int tf, .int (nI w), .int (nI tr), .ref t1, .int (nI sz), .int tk, .int (nI tr), .int tb]))]) rfl dX2_fail_17 (fun H locs V => ?_)
    exact g_vret (Qr := (q_f_fail0 T t0 w tf tu tl t1 sz tk tr tb)) hC V ⟨(Nat.le_of_ble_eq_true rfl), (Nat.le_of_ble_eq_true rfl)⟩ ⟨rfl, rfl⟩ dX2_fail_20

def q_f_nextToken (T : Nat → ClassId) (ft : Nat → Int32) (nu : Int32) (wa : Int32) (t0 : Nat) (tf : Int32) (tu : Nat) (tl : Int32) (t1 : Nat) (sz : Nat) (tk : Int32) (tr : Int32) (be : Nat) (tx : Nat → Int32) : Option Value → va_W → Prop := fun rr ww => (∃ (p2 : PS), rr = none ∧ ww = [(t0, .inr (2, [.int tf, .int (nI (cF p2)), .int (cP p2), .ref t1, .int (nI sz), .int (nI (cK p2.2.2.1)), .int (nI p2.1), .int (nI p2.2.1)])), (t1, .inl (T 3, 900, .inl tx))] ∧ p2 = nxS ft sz (0, be, 0, nu, 0, wa))
set_option maxHeartbeats 4000000 in
set_option maxRecDepth 100000 in
theorem f_nextToken (l : Launch) (D : va_G) (T : Nat → ClassId) (ft : Nat → Int32) (nu : Int32) (wa : Int32) (t0 : Nat) (tf : Int32) (tu : Nat) (tl : Int32) (t1 : Nat) (sz : Nat) (tk : Int32) (tr : Int32) (be : Nat) (tx : Nat → Int32) (h_sz : sz ≤ 900) (h_tx : TXT sz tx ft) (h_b : be ≤ sz) (h_u : tu = 0) (h_l : tl = -1) : Ct l yX2_nextToken cX2_nextToken 1 none 1 0 0 D T [.ref t0] [(t0, .inr (2, [.int tf, .int (nI tu), .int tl, .ref t1, .int (nI sz), .int tk, .int tr, .int (nI be)])), (t1, .inl (T 3, 900, .inl tx))] (q_f_nextToken T ft nu wa t0 tf tu tl t1 sz tk tr be tx) := by
  refine Ct.of (cc := cX2_nextToken) (maxL := 1) (ret := none) (by decide) (Nat.le_of_ble_eq_true rfl) ?_
  intro p e s m args below meth c A ls hC hnm V hl
  obtain ⟨hx, hb, hr, hml, hown, hts, hlocks⟩ := id hC
  generalize hH : s.heap = H at V ⊢
  clear hH
  have hl : lv_has ls 1 [(0, .ref t0)] := hl
  generalize hlo : ([] : List Loc) = locs at V ⊢
  clear hlo
  refine lv_aload_n hx hb dX2_nextToken_0 rfl (lv_at hl 0 rfl) ?_
  refine lv_aload_n hx hb dX2_nextToken_1 rfl (lv_at hl 0 rfl) ?_
  refine g_get hC V (ci := 2) uwX2 0 rfl rfl 7 (by decide) w_138 rfl rfl dX2_nextToken_2 ?_
  refine g_put hC V (ci := 2) uwX2 tyX2 tyX2_ok nmX2 0 rfl rfl 6 (by decide) w_137 rfl rfl rfl rfl (Nat.le_of_ble_eq_true rfl) (ws' := [(t0, .inr (2, [.int tf, .int (nI tu), .int tl, .ref t1, .int (nI sz), .int tk, .int (nI be), .int (nI be)])), (t1, .inl (T 3, 900, .inl tx))]) rfl dX2_nextToken_5 (fun H locs V => ?_)
  have J_44 : ∀ (aq : Nat), (be ≤ aq ∧ aq ≤ sz) → aq = rn blkB ft sz be → (aq < sz → ¬ blkB (ft aq) = true) → ∀ (H : Heap) (locs : List Loc) (ls : Array Slot), gW D T A s [(t0, .inr (2, [.int tf, .int (nI tu), .int tl, .ref t1, .int (nI sz), .int tk, .int (nI aq), .int (nI be)])), (t1, .inl (T 3, 900, .inl tx))] H locs → lv_has ls 1 [(0, .ref t0)] → W p l e (rmD 1 0 0) s m args below meth c H locs 0 0 (MQ below (gQ D A (q_f_nextToken T ft nu wa t0 tf tu tl t1 sz tk tr be tx)) args s 0 0 A) (F0 m 44 ls []) := by
    intro aq haq haq2 hnb2 H locs ls V hl
    refine lv_aload_n hx hb dX2_nextToken_44 rfl (lv_at hl 0 rfl) ?_
    refine lv_aload_n hx hb dX2_nextToken_45 rfl (lv_at hl 0 rfl) ?_
    refine lv_aload_n hx hb dX2_nextToken_46 rfl (lv_at hl 0 rfl) ?_
    refine g_get hC V (ci := 2) uwX2 0 rfl rfl 6 (by decide) w_137 rfl rfl dX2_nextToken_47 ?_
    refine g_callV (wr := []) (nA := 1) hC V hl.1 (f_kindAt l D T ft t0 aq tf (nI tu) tl t1 sz tk (nI aq) (nI be) tx (by first | assumption | omega) (by first | assumption | omega) (by first | assumption | omega)) w_313 w_315 w_s1 w_4 w_316 (by decide +kernel) rfl ⟨(Nat.le_of_ble_eq_true rfl), (Nat.le_of_ble_eq_true rfl)⟩ 0 (ci := 2) rfl rfl [0, 1] [] rfl rfl rfl rfl (by decide) (Nat.le_of_ble_eq_true rfl) dX2_nextToken_50 ⟨(Nat.le_of_ble_eq_true rfl), (Nat.le_of_ble_eq_true rfl)⟩ rfl (fun r w1 H locs hQ V => ?_)
    obtain ⟨zk, rfl, rfl, f_1⟩ := hQ
    have V : gW D T A s [(t0, .inr (2, [.int tf, .int (nI tu), .int tl, .ref t1, .int (nI sz), .int tk, .int (nI aq), .int (nI be)])), (t1, .inl (T 3, 900, .inl tx))] H locs := V
    show W p l e _ s m args below meth c H locs _ _ _ (F0 m 53 ls [.int (nI zk), .ref t0])
    have ezk := f_1
    have hzk := ckA_le h_tx aq
    refine g_put hC V (ci := 2) uwX2 tyX2 tyX2_ok nmX2 0 rfl rfl 5 (by decide) w_136 rfl rfl rfl rfl (Nat.le_of_ble_eq_true rfl) (ws' := [(t0, .inr (2, [.int tf, .int (nI tu), .int tl, .ref t1, .int (nI sz), .int (nI zk), .int (nI aq), .int (nI be)])), (t1, .inl (T 3, 900, .inl tx))]) rfl dX2_nextToken_53 (fun H locs V => ?_)
    refine lv_aload_n hx hb dX2_nextToken_56 rfl (lv_at hl 0 rfl) ?_
    refine lv_aload_n hx hb dX2_nextToken_57 rfl (lv_at hl 0 rfl) ?_
    refine g_get hC V (ci := 2) uwX2 0 rfl rfl 6 (by decide) w_137 rfl rfl dX2_nextToken_58 ?_
    refine lv_iconst (v := (nI 1)) hx hb dX2_nextToken_61 (by decide +kernel) ?_
    refine lv_iadd hx hb dX2_nextToken_62 ?_
    refine g_vi (y := (nI (aq + 1))) (nI_add _ _) ?_
    refine lv_aload_n hx hb dX2_nextToken_63 rfl (lv_at hl 0 rfl) ?_
    refine g_get hC V (ci := 2) uwX2 0 rfl rfl 4 (by decide) w_135 rfl rfl dX2_nextToken_64 ?_
    refine va_mmin hx hb (hml.trans hl.1.symm) hown (hts _ w_299) (hts _ w_300) (hts _ w_10) (hts _ w_301) (Nat.le_of_ble_eq_true rfl) (Nat.le_of_ble_eq_true rfl) (Nat.le_of_ble_eq_true rfl) (Nat.le_of_ble_eq_true rfl) dX2_nextToken_67 ?_
    refine g_vi (y := (nI (min (aq + 1) sz))) (min_nI (by omega) (by omega)) ?_
    refine g_put hC V (ci := 2) uwX2 tyX2 tyX2_ok nmX2 0 rfl rfl 7 (by decide) w_138 rfl rfl rfl rfl (Nat.le_of_ble_eq_true rfl) (ws' := [(t0, .inr (2, [.int tf, .int (nI tu), .int tl, .ref t1, .int (nI sz), .int (nI zk), .int (nI aq), .int (nI (min (aq + 1) sz))])), (t1, .inl (T 3, 900, .inl tx))]) rfl dX2_nextToken_70 (fun H locs V => ?_)
    have L_2 : ∀ (fu : Nat) (bq : Nat), (aq ≤ bq ∧ bq ≤ sz) → (zk = 1 → rn smB ft sz bq = rn smB ft sz aq) → (zk = 2 → rn dgB ft sz bq = rn dgB ft sz aq) → (¬ zk = 1 → ¬ zk = 2 → bq = min (aq + 1) sz) → sz - bq < fu → ∀ (H : Heap) (locs : List Loc) (ls : Array Slot), gW D T A s [(t0, .inr (2, [.int tf, .int (nI tu), .int tl, .ref t1, .int (nI sz), .int (nI zk), .int (nI aq), .int (nI bq)])), (t1, .inl (T 3, 900, .inl tx))] H locs → lv_has ls 1 [(0, .ref t0)] → W p l e (rmD 1 0 0) s m args below meth c H locs 0 0 (MQ below (gQ D A (q_f_nextToken T ft nu wa t0 tf tu tl t1 sz tk tr be tx)) args s 0 0 A) (F0 m 73 ls []) := by
      intro fu_73
      induction fu_73 with
      | zero => intro bq hbq hb1 hb2 hb3 hmu; exact absurd hmu (Nat.not_lt_zero _)
      | succ fu_73 ih_73 =>
        intro bq hbq hb1 hb2 hb3 hmu_73 H locs ls V hl
        refine lv_aload_n hx hb dX2_nextToken_73 rfl (lv_at hl 0 rfl) ?_
        refine g_get hC V (ci := 2) uwX2 0 rfl rfl 7 (by decide) w_138 rfl rfl dX2_nextToken_74 ?_
        refine lv_aload_n hx hb dX2_nextToken_77 rfl (lv_at hl 0 rfl) ?_
        refine g_get hC V (ci := 2) uwX2 0 rfl rfl 4 (by decide) w_135 rfl rfl dX2_nextToken_78 ?_
        refine lv_icmp_ge (tgt := 128) hx hb dX2_nextToken_81 (by decide) (fun c_3 => ?_) (fun c_3 => ?_)
        · skip
          have c_3 := b_le (by omega) (by omega) c_3
          have hB : bq = tkB ft sz aq := nt_B h_tx (by omega) (by omega) ezk hb1 hb2 hb3 (Or.inl (by omega))
          refine lv_aload_n hx hb dX2_nextToken_128 rfl (lv_at hl 0 rfl) ?_
          refine g_get hC V (ci := 2) uwX2 0 rfl rfl 5 (by decide) w_136 rfl rfl dX2_nextToken_129 ?_
          refine lv_bipush (v := (nI 6)) hx hb dX2_nextToken_132 (by decide +kernel) ?_
          refine lv_icmp_eq (tgt := 158) hx hb dX2_nextToken_134 (by decide) (fun c_4 => ?_) (fun c_4 => ?_)
          · skip
            have c_4 := b_eq (by omega) (by omega) c_4
            refine lv_aload_n hx hb dX2_nextToken_158 rfl (lv_at hl 0 rfl) ?_
            refine lv_bipush (v := (nI 6)) hx hb dX2_nextToken_159 (by decide +kernel) ?_
            refine g_put hC V (ci := 2) uwX2 tyX2 tyX2_ok nmX2 0 rfl rfl 5 (by decide) w_136 rfl rfl rfl rfl (Nat.le_of_ble_eq_true rfl) (ws' := [(t0, .inr (2, [.int tf, .int (nI tu), .int tl, .ref t1, .int (nI sz), .int (nI 6), .int (nI aq), .int (nI bq)])), (t1, .inl (T 3, 900, .inl tx))]) rfl dX2_nextToken_161 (fun H locs V => ?_)
            refine lv_aload_n hx hb dX2_nextToken_164 rfl (lv_at hl 0 rfl) ?_
            refine lv_iconst (v := (nI 1)) hx hb dX2_nextToken_165 (by decide +kernel) ?_
            refine g_callVU (nA := 1) hC V hl.1 (f_fail0 l D T t0 1 tf tu tl t1 sz (nI 6) aq (nI bq) h_u) w_317 w_319 w_s2 w_4 w_320 (by decide +kernel) rfl ⟨(Nat.le_of_ble_eq_true rfl), (Nat.le_of_ble_eq_true rfl)⟩ 0 (ci := 2) rfl rfl [0] rfl rfl (Nat.le_of_ble_eq_true rfl) dX2_nextToken_166 ⟨(Nat.le_of_ble_eq_true rfl), (Nat.le_of_ble_eq_true rfl)⟩ rfl (fun r w1 H locs hQ V => ?_)
            obtain ⟨rfl, rfl⟩ := hQ
            have V : gW D T A s [(t0, .inr (2, [.int tf, .int (nI 1), .int (nI aq), .ref t1, .int (nI sz), .int (nI 6), .int (nI aq), .int (nI bq)])), (t1, .inl (T 3, 900, .inl tx))] H locs := V _ [0] rfl rfl rfl (by decide +kernel) rfl
            show W p l e _ s m args below meth c H locs _ _ _ (F0 m 169 ls [])
            exact g_vret (Qr := (q_f_nextToken T ft nu wa t0 tf tu tl t1 sz tk tr be tx)) hC V ⟨(Nat.le_of_ble_eq_true rfl), (Nat.le_of_ble_eq_true rfl)⟩ ⟨(nxS ft sz (0, be, 0, nu, 0, wa)), rfl, (by obtain ⟨q1, q2, q3, q4, q5⟩ := nt_f (nu := nu) (wa := wa) h_tx haq2 hB ezk (by omega); rw [q1, q2, q3, q4, q5]), rfl⟩ dX2_nextToken_169
          · skip
            have c_4 := b_ne (by omega) (by omega) c_4
            refine lv_aload_n hx hb dX2_nextToken_137 rfl (lv_at hl 0 rfl) ?_
            refine g_get hC V (ci := 2) uwX2 0 rfl rfl 5 (by decide) w_136 rfl rfl dX2_nextToken_138 ?_
            refine lv_iconst (v := (nI 2)) hx hb dX2_nextToken_141 (by decide +kernel) ?_
            refine lv_icmp_ne (tgt := 169) hx hb dX2_nextToken_142 (by decide) (fun c_5 => ?_) (fun c_5 => ?_)
            · skip
              have c_5 := b_ne (by omega) (by omega) c_5
              exact g_vret (Qr := (q_f_nextToken T ft nu wa t0 tf tu tl t1 sz tk tr be tx)) hC V ⟨(Nat.le_of_ble_eq_true rfl), (Nat.le_of_ble_eq_true rfl)⟩ ⟨(nxS ft sz (0, be, 0, nu, 0, wa)), rfl, (by obtain ⟨q1, q2, q3, q4, q5⟩ := nt_v (nu := nu) (wa := wa) h_tx (by omega) haq2 hB ezk hnb2 (by omega) (by omega); rw [q1, q2, q3, q4, q5, h_u, h_l]), rfl⟩ dX2_nextToken_169
            · skip
              have c_5 := b_eq (by omega) (by omega) c_5
              refine lv_aload_n hx hb dX2_nextToken_145 rfl (lv_at hl 0 rfl) ?_
              refine g_get hC V (ci := 2) uwX2 0 rfl rfl 7 (by decide) w_138 rfl rfl dX2_nextToken_146 ?_
              refine lv_aload_n hx hb dX2_nextToken_149 rfl (lv_at hl 0 rfl) ?_
              refine g_get hC V (ci := 2) uwX2 0 rfl rfl 6 (by decide) w_137 rfl rfl dX2_nextToken_150 ?_
              refine lv_isub hx hb dX2_nextToken_153 ?_
              refine g_vi (y := (nI (bq - aq))) (nI_sub (by omega)) ?_
              refine lv_iconst (v := (nI 3)) hx hb dX2_nextToken_154 (by decide +kernel) ?_
              refine lv_icmp_le (tgt := 169) hx hb dX2_nextToken_155 (by decide) (fun c_6 => ?_) (fun c_6 => ?_)
              · skip
                have c_6 := b_le (by omega) (by omega) c_6
                exact g_vret (Qr := (q_f_nextToken T ft nu wa t0 tf tu tl t1 sz tk tr be tx)) hC V ⟨(Nat.le_of_ble_eq_true rfl), (Nat.le_of_ble_eq_true rfl)⟩ ⟨(nxS ft sz (0, be, 0, nu, 0, wa)), rfl, (by obtain ⟨q1, q2, q3, q4, q5⟩ := nt_v (nu := nu) (wa := wa) h_tx (by omega) haq2 hB ezk hnb2 (by omega) (by omega); rw [q1, q2, q3, q4, q5, h_u, h_l]), rfl⟩ dX2_nextToken_169
              · skip
                have c_6 := b_nle (by omega) (by omega) c_6
                refine lv_aload_n hx hb dX2_nextToken_158 rfl (lv_at hl 0 rfl) ?_
                refine lv_bipush (v := (nI 6)) hx hb dX2_nextToken_159 (by decide +kernel) ?_
                refine g_put hC V (ci := 2) uwX2 tyX2 tyX2_ok nmX2 0 rfl rfl 5 (by decide) w_136 rfl rfl rfl rfl (Nat.le_of_ble_eq_true rfl) (ws' := [(t0, .inr (2, [.int tf, .int (nI tu), .int tl, .ref t1, .int (nI sz), .int (nI 6), .int (nI aq), .int (nI bq)])), (t1, .inl (T 3, 900, .inl tx))]) rfl dX2_nextToken_161 (fun H locs V => ?_)
                refine lv_aload_n hx hb dX2_nextToken_164 rfl (lv_at hl 0 rfl) ?_
                refine lv_iconst (v := (nI 1)) hx hb dX2_nextToken_165 (by decide +kernel) ?_
                refine g_callVU (nA := 1) hC V hl.1 (f_fail0 l D T t0 1 tf tu tl t1 sz (nI 6) aq (nI bq) h_u) w_317 w_319 w_s2 w_4 w_320 (by decide +kernel) rfl ⟨(Nat.le_of_ble_eq_true rfl), (Nat.le_of_ble_eq_true rfl)⟩ 0 (ci := 2) rfl rfl [0] rfl rfl (Nat.le_of_ble_eq_true rfl) dX2_nextToken_166 ⟨(Nat.le_of_ble_eq_true rfl), (Nat.le_of_ble_eq_true rfl)⟩ rfl (fun r w1 H locs hQ V => ?_)
                obtain ⟨rfl, rfl⟩ := hQ
                have V : gW D T A s [(t0, .inr (2, [.int tf, .int (nI 1), .int (nI aq), .ref t1, .int (nI sz), .int (nI 6), .int (nI aq), .int (nI bq)])), (t1, .inl (T 3, 900, .inl tx))] H locs := V _ [0] rfl rfl rfl (by decide +kernel) rfl
                show W p l e _ s m args below meth c H locs _ _ _ (F0 m 169 ls [])
                exact g_vret (Qr := (q_f_nextToken T ft nu wa t0 tf tu tl t1 sz tk tr be tx)) hC V ⟨(Nat.le_of_ble_eq_true rfl), (Nat.le_of_ble_eq_true rfl)⟩ ⟨(nxS ft sz (0, be, 0, nu, 0, wa)), rfl, (by obtain ⟨q1, q2, q3, q4, q5⟩ := nt_f (nu := nu) (wa := wa) h_tx haq2 hB ezk (by omega); rw [q1, q2, q3, q4, q5]), rfl⟩ dX2_nextToken_169
        · skip
          have c_3 := b_nle (by omega) (by omega) c_3
          refine lv_aload_n hx hb dX2_nextToken_84 rfl (lv_at hl 0 rfl) ?_
          refine g_get hC V (ci := 2) uwX2 0 rfl rfl 5 (by decide) w_136 rfl rfl dX2_nextToken_85 ?_
          refine lv_iconst (v := (nI 1)) hx hb dX2_nextToken_88 (by decide +kernel) ?_
          refine lv_icmp_eq (tgt := 100) hx hb dX2_nextToken_89 (by decide) (fun c_7 => ?_) (fun c_7 => ?_)
          · skip
            have c_7 := b_eq (by omega) (by omega) c_7
            refine lv_aload_n hx hb dX2_nextToken_100 rfl (lv_at hl 0 rfl) ?_
            refine lv_aload_n hx hb dX2_nextToken_101 rfl (lv_at hl 0 rfl) ?_
            refine g_get hC V (ci := 2) uwX2 0 rfl rfl 7 (by decide) w_138 rfl rfl dX2_nextToken_102 ?_
            refine g_callV (wr := []) (nA := 1) hC V hl.1 (f_kindAt l D T ft t0 bq tf (nI tu) tl t1 sz (nI zk) (nI aq) (nI bq) tx (by first | assumption | omega) (by first | assumption | omega) (by first | assumption | omega)) w_313 w_315 w_s1 w_4 w_316 (by decide +kernel) rfl ⟨(Nat.le_of_ble_eq_true rfl), (Nat.le_of_ble_eq_true rfl)⟩ 0 (ci := 2) rfl rfl [0, 1] [] rfl rfl rfl rfl (by decide) (Nat.le_of_ble_eq_true rfl) dX2_nextToken_105 ⟨(Nat.le_of_ble_eq_true rfl), (Nat.le_of_ble_eq_true rfl)⟩ rfl (fun r w1 H locs hQ V => ?_)
            obtain ⟨zb, rfl, rfl, f_8⟩ := hQ
            have V : gW D T A s [(t0, .inr (2, [.int tf, .int (nI tu), .int tl, .ref t1, .int (nI sz), .int (nI zk), .int (nI aq), .int (nI bq)])), (t1, .inl (T 3, 900, .inl tx))] H locs := V
            show W p l e _ s m args below meth c H locs _ _ _ (F0 m 108 ls [.int (nI zb)])
            have hzb6 := ckA_le h_tx bq
            have ezb := f_8
            refine lv_aload_n hx hb dX2_nextToken_108 rfl (lv_at hl 0 rfl) ?_
            refine g_get hC V (ci := 2) uwX2 0 rfl rfl 5 (by decide) w_136 rfl rfl dX2_nextToken_109 ?_
            refine lv_icmp_ne (tgt := 128) hx hb dX2_nextToken_112 (by decide) (fun c_9 => ?_) (fun c_9 => ?_)
            · skip
              have c_9 := b_ne (by omega) (by omega) c_9
              have hB : bq = tkB ft sz aq := nt_B h_tx (by omega) (by omega) ezk hb1 hb2 hb3 (Or.inr (Or.inr ⟨by omega, by omega⟩))
              refine lv_aload_n hx hb dX2_nextToken_128 rfl (lv_at hl 0 rfl) ?_
              refine g_get hC V (ci := 2) uwX2 0 rfl rfl 5 (by decide) w_136 rfl rfl dX2_nextToken_129 ?_
              refine lv_bipush (v := (nI 6)) hx hb dX2_nextToken_132 (by decide +kernel) ?_
              refine lv_icmp_eq (tgt := 158) hx hb dX2_nextToken_134 (by decide) (fun c_10 => ?_) (fun c_10 => ?_)
              · skip
                have c_10 := b_eq (by omega) (by omega) c_10
                refine lv_aload_n hx hb dX2_nextToken_158 rfl (lv_at hl 0 rfl) ?_
                refine lv_bipush (v := (nI 6)) hx hb dX2_nextToken_159 (by decide +kernel) ?_
                refine g_put hC V (ci := 2) uwX2 tyX2 tyX2_ok nmX2 0 rfl rfl 5 (by decide) w_136 rfl rfl rfl rfl (Nat.le_of_ble_eq_true rfl) (ws' := [(t0, .inr (2, [.int tf, .int (nI tu), .int tl, .ref t1, .int (nI sz), .int (nI 6), .int (nI aq), .int (nI bq)])), (t1, .inl (T 3, 900, .inl tx))]) rfl dX2_nextToken_161 (fun H locs V => ?_)
                refine lv_aload_n hx hb dX2_nextToken_164 rfl (lv_at hl 0 rfl) ?_
                refine lv_iconst (v := (nI 1)) hx hb dX2_nextToken_165 (by decide +kernel) ?_
                refine g_callVU (nA := 1) hC V hl.1 (f_fail0 l D T t0 1 tf tu tl t1 sz (nI 6) aq (nI bq) h_u) w_317 w_319 w_s2 w_4 w_320 (by decide +kernel) rfl ⟨(Nat.le_of_ble_eq_true rfl), (Nat.le_of_ble_eq_true rfl)⟩ 0 (ci := 2) rfl rfl [0] rfl rfl (Nat.le_of_ble_eq_true rfl) dX2_nextToken_166 ⟨(Nat.le_of_ble_eq_true rfl), (Nat.le_of_ble_eq_true rfl)⟩ rfl (fun r w1 H locs hQ V => ?_)
                obtain ⟨rfl, rfl⟩ := hQ
                have V : gW D T A s [(t0, .inr (2, [.int tf, .int (nI 1), .int (nI aq), .ref t1, .int (nI sz), .int (nI 6), .int (nI aq), .int (nI bq)])), (t1, .inl (T 3, 900, .inl tx))] H locs := V _ [0] rfl rfl rfl (by decide +kernel) rfl
                show W p l e _ s m args below meth c H locs _ _ _ (F0 m 169 ls [])
                exact g_vret (Qr := (q_f_nextToken T ft nu wa t0 tf tu tl t1 sz tk tr be tx)) hC V ⟨(Nat.le_of_ble_eq_true rfl), (Nat.le_of_ble_eq_true rfl)⟩ ⟨(nxS ft sz (0, be, 0, nu, 0, wa)), rfl, (by obtain ⟨q1, q2, q3, q4, q5⟩ := nt_f (nu := nu) (wa := wa) h_tx haq2 hB ezk (by omega); rw [q1, q2, q3, q4, q5]), rfl⟩ dX2_nextToken_169
              · skip
                have c_10 := b_ne (by omega) (by omega) c_10
                refine lv_aload_n hx hb dX2_nextToken_137 rfl (lv_at hl 0 rfl) ?_
                refine g_get hC V (ci := 2) uwX2 0 rfl rfl 5 (by decide) w_136 rfl rfl dX2_nextToken_138 ?_
                refine lv_iconst (v := (nI 2)) hx hb dX2_nextToken_141 (by decide +kernel) ?_
                refine lv_icmp_ne (tgt := 169) hx hb dX2_nextToken_142 (by decide) (fun c_11 => ?_) (fun c_11 => ?_)
                · skip
                  have c_11 := b_ne (by omega) (by omega) c_11
                  exact g_vret (Qr := (q_f_nextToken T ft nu wa t0 tf tu tl t1 sz tk tr be tx)) hC V ⟨(Nat.le_of_ble_eq_true rfl), (Nat.le_of_ble_eq_true rfl)⟩ ⟨(nxS ft sz (0, be, 0, nu, 0, wa)), rfl, (by obtain ⟨q1, q2, q3, q4, q5⟩ := nt_v (nu := nu) (wa := wa) h_tx (by omega) haq2 hB ezk hnb2 (by omega) (by omega); rw [q1, q2, q3, q4, q5, h_u, h_l]), rfl⟩ dX2_nextToken_169
                · skip
                  have c_11 := b_eq (by omega) (by omega) c_11
                  refine lv_aload_n hx hb dX2_nextToken_145 rfl (lv_at hl 0 rfl) ?_
                  refine g_get hC V (ci := 2) uwX2 0 rfl rfl 7 (by decide) w_138 rfl rfl dX2_nextToken_146 ?_
                  refine lv_aload_n hx hb dX2_nextToken_149 rfl (lv_at hl 0 rfl) ?_
                  refine g_get hC V (ci := 2) uwX2 0 rfl rfl 6 (by decide) w_137 rfl rfl dX2_nextToken_150 ?_
                  refine lv_isub hx hb dX2_nextToken_153 ?_
                  refine g_vi (y := (nI (bq - aq))) (nI_sub (by omega)) ?_
                  refine lv_iconst (v := (nI 3)) hx hb dX2_nextToken_154 (by decide +kernel) ?_
                  refine lv_icmp_le (tgt := 169) hx hb dX2_nextToken_155 (by decide) (fun c_12 => ?_) (fun c_12 => ?_)
                  · skip
                    have c_12 := b_le (by omega) (by omega) c_12
                    exact g_vret (Qr := (q_f_nextToken T ft nu wa t0 tf tu tl t1 sz tk tr be tx)) hC V ⟨(Nat.le_of_ble_eq_true rfl), (Nat.le_of_ble_eq_true rfl)⟩ ⟨(nxS ft sz (0, be, 0, nu, 0, wa)), rfl, (by obtain ⟨q1, q2, q3, q4, q5⟩ := nt_v (nu := nu) (wa := wa) h_tx (by omega) haq2 hB ezk hnb2 (by omega) (by omega); rw [q1, q2, q3, q4, q5, h_u, h_l]), rfl⟩ dX2_nextToken_169
                  · skip
                    have c_12 := b_nle (by omega) (by omega) c_12
                    refine lv_aload_n hx hb dX2_nextToken_158 rfl (lv_at hl 0 rfl) ?_
                    refine lv_bipush (v := (nI 6)) hx hb dX2_nextToken_159 (by decide +kernel) ?_
                    refine g_put hC V (ci := 2) uwX2 tyX2 tyX2_ok nmX2 0 rfl rfl 5 (by decide) w_136 rfl rfl rfl rfl (Nat.le_of_ble_eq_true rfl) (ws' := [(t0, .inr (2, [.int tf, .int (nI tu), .int tl, .ref t1, .int (nI sz), .int (nI 6), .int (nI aq), .int (nI bq)])), (t1, .inl (T 3, 900, .inl tx))]) rfl dX2_nextToken_161 (fun H locs V => ?_)
                    refine lv_aload_n hx hb dX2_nextToken_164 rfl (lv_at hl 0 rfl) ?_
                    refine lv_iconst (v := (nI 1)) hx hb dX2_nextToken_165 (by decide +kernel) ?_
                    refine g_callVU (nA := 1) hC V hl.1 (f_fail0 l D T t0 1 tf tu tl t1 sz (nI 6) aq (nI bq) h_u) w_317 w_319 w_s2 w_4 w_320 (by decide +kernel) rfl ⟨(Nat.le_of_ble_eq_true rfl), (Nat.le_of_ble_eq_true rfl)⟩ 0 (ci := 2) rfl rfl [0] rfl rfl (Nat.le_of_ble_eq_true rfl) dX2_nextToken_166 ⟨(Nat.le_of_ble_eq_true rfl), (Nat.le_of_ble_eq_true rfl)⟩ rfl (fun r w1 H locs hQ V => ?_)
                    obtain ⟨rfl, rfl⟩ := hQ
                    have V : gW D T A s [(t0, .inr (2, [.int tf, .int (nI 1), .int (nI aq), .ref t1, .int (nI sz), .int (nI 6), .int (nI aq), .int (nI bq)])), (t1, .inl (T 3, 900, .inl tx))] H locs := V _ [0] rfl rfl rfl (by decide +kernel) rfl
                    show W p l e _ s m args below meth c H locs _ _ _ (F0 m 169 ls [])
                    exact g_vret (Qr := (q_f_nextToken T ft nu wa t0 tf tu tl t1 sz tk tr be tx)) hC V ⟨(Nat.le_of_ble_eq_true rfl), (Nat.le_of_ble_eq_true rfl)⟩ ⟨(nxS ft sz (0, be, 0, nu, 0, wa)), rfl, (by obtain ⟨q1, q2, q3, q4, q5⟩ := nt_f (nu := nu) (wa := wa) h_tx haq2 hB ezk (by omega); rw [q1, q2, q3, q4, q5]), rfl⟩ dX2_nextToken_169
            · skip
              have c_9 := b_eq (by omega) (by omega) c_9
              refine lv_aload_n hx hb dX2_nextToken_115 rfl (lv_at hl 0 rfl) ?_
              refine lv_dup hx hb dX2_nextToken_116 rfl ?_
              refine g_get hC V (ci := 2) uwX2 0 rfl rfl 7 (by decide) w_138 rfl rfl dX2_nextToken_117 ?_
              refine lv_iconst (v := (nI 1)) hx hb dX2_nextToken_120 (by decide +kernel) ?_
              refine lv_iadd hx hb dX2_nextToken_121 ?_
              refine g_vi (y := (nI (bq + 1))) (nI_add _ _) ?_
              refine g_put hC V (ci := 2) uwX2 tyX2 tyX2_ok nmX2 0 rfl rfl 7 (by decide) w_138 rfl rfl rfl rfl (Nat.le_of_ble_eq_true rfl) (ws' := [(t0, .inr (2, [.int tf, .int (nI tu), .int tl, .ref t1, .int (nI sz), .int (nI zk), .int (nI aq), .int (nI (bq + 1))])), (t1, .inl (T 3, 900, .inl tx))]) rfl dX2_nextToken_122 (fun H locs V => ?_)
              refine lv_goto (tgt := 73) hx hb dX2_nextToken_125 (by decide) ?_
              exact ih_73 (bq + 1) (by omega) (fun h => (rn_go (by omega) ((ckA_sm h_tx (by omega) ezb).mp (by omega))).symm.trans (hb1 h)) (fun h => (rn_go (by omega) ((ckA_dg h_tx (by omega) ezb).mp (by omega))).symm.trans (hb2 h)) (fun h1 h2 => by omega) (by omega) _ _ _ V (lv_sub hl [0] rfl)
          · skip
            have c_7 := b_ne (by omega) (by omega) c_7
            refine lv_aload_n hx hb dX2_nextToken_92 rfl (lv_at hl 0 rfl) ?_
            refine g_get hC V (ci := 2) uwX2 0 rfl rfl 5 (by decide) w_136 rfl rfl dX2_nextToken_93 ?_
            refine lv_iconst (v := (nI 2)) hx hb dX2_nextToken_96 (by decide +kernel) ?_
            refine lv_icmp_ne (tgt := 128) hx hb dX2_nextToken_97 (by decide) (fun c_13 => ?_) (fun c_13 => ?_)
            · skip
              have c_13 := b_ne (by omega) (by omega) c_13
              have hB : bq = tkB ft sz aq := nt_B h_tx (by omega) (by omega) ezk hb1 hb2 hb3 (Or.inr (Or.inl ⟨by omega, by omega⟩))
              refine lv_aload_n hx hb dX2_nextToken_128 rfl (lv_at hl 0 rfl) ?_
              refine g_get hC V (ci := 2) uwX2 0 rfl rfl 5 (by decide) w_136 rfl rfl dX2_nextToken_129 ?_
              refine lv_bipush (v := (nI 6)) hx hb dX2_nextToken_132 (by decide +kernel) ?_
              refine lv_icmp_eq (tgt := 158) hx hb dX2_nextToken_134 (by decide) (fun c_14 => ?_) (fun c_14 => ?_)
              · skip
                have c_14 := b_eq (by omega) (by omega) c_14
                refine lv_aload_n hx hb dX2_nextToken_158 rfl (lv_at hl 0 rfl) ?_
                refine lv_bipush (v := (nI 6)) hx hb dX2_nextToken_159 (by decide +kernel) ?_
                refine g_put hC V (ci := 2) uwX2 tyX2 tyX2_ok nmX2 0 rfl rfl 5 (by decide) w_136 rfl rfl rfl rfl (Nat.le_of_ble_eq_true rfl) (ws' := [(t0, .inr (2, [.int tf, .int (nI tu), .int tl, .ref t1, .int (nI sz), .int (nI 6), .int (nI aq), .int (nI bq)])), (t1, .inl (T 3, 900, .inl tx))]) rfl dX2_nextToken_161 (fun H locs V => ?_)
                refine lv_aload_n hx hb dX2_nextToken_164 rfl (lv_at hl 0 rfl) ?_
                refine lv_iconst (v := (nI 1)) hx hb dX2_nextToken_165 (by decide +kernel) ?_
                refine g_callVU (nA := 1) hC V hl.1 (f_fail0 l D T t0 1 tf tu tl t1 sz (nI 6) aq (nI bq) h_u) w_317 w_319 w_s2 w_4 w_320 (by decide +kernel) rfl ⟨(Nat.le_of_ble_eq_true rfl), (Nat.le_of_ble_eq_true rfl)⟩ 0 (ci := 2) rfl rfl [0] rfl rfl (Nat.le_of_ble_eq_true rfl) dX2_nextToken_166 ⟨(Nat.le_of_ble_eq_true rfl), (Nat.le_of_ble_eq_true rfl)⟩ rfl (fun r w1 H locs hQ V => ?_)
                obtain ⟨rfl, rfl⟩ := hQ
                have V : gW D T A s [(t0, .inr (2, [.int tf, .int (nI 1), .int (nI aq), .ref t1, .int (nI sz), .int (nI 6), .int (nI aq), .int (nI bq)])), (t1, .inl (T 3, 900, .inl tx))] H locs := V _ [0] rfl rfl rfl (by decide +kernel) rfl
                show W p l e _ s m args below meth c H locs _ _ _ (F0 m 169 ls [])
                exact g_vret (Qr := (q_f_nextToken T ft nu wa t0 tf tu tl t1 sz tk tr be tx)) hC V ⟨(Nat.le_of_ble_eq_true rfl), (Nat.le_of_ble_eq_true rfl)⟩ ⟨(nxS ft sz (0, be, 0, nu, 0, wa)), rfl, (by obtain ⟨q1, q2, q3, q4, q5⟩ := nt_f (nu := nu) (wa := wa) h_tx haq2 hB ezk (by omega); rw [q1, q2, q3, q4, q5]), rfl⟩ dX2_nextToken_169
              · skip
                have c_14 := b_ne (by omega) (by omega) c_14
                refine lv_aload_n hx hb dX2_nextToken_137 rfl (lv_at hl 0 rfl) ?_
                refine g_get hC V (ci := 2) uwX2 0 rfl rfl 5 (by decide) w_136 rfl rfl dX2_nextToken_138 ?_
                refine lv_iconst (v := (nI 2)) hx hb dX2_nextToken_141 (by decide +kernel) ?_
                refine lv_icmp_ne (tgt := 169) hx hb dX2_nextToken_142 (by decide) (fun c_15 => ?_) (fun c_15 => ?_)
                · skip
                  have c_15 := b_ne (by omega) (by omega) c_15
                  exact g_vret (Qr := (q_f_nextToken T ft nu wa t0 tf tu tl t1 sz tk tr be tx)) hC V ⟨(Nat.le_of_ble_eq_true rfl), (Nat.le_of_ble_eq_true rfl)⟩ ⟨(nxS ft sz (0, be, 0, nu, 0, wa)), rfl, (by obtain ⟨q1, q2, q3, q4, q5⟩ := nt_v (nu := nu) (wa := wa) h_tx (by omega) haq2 hB ezk hnb2 (by omega) (by omega); rw [q1, q2, q3, q4, q5, h_u, h_l]), rfl⟩ dX2_nextToken_169
                · skip
                  have c_15 := b_eq (by omega) (by omega) c_15
                  refine lv_aload_n hx hb dX2_nextToken_145 rfl (lv_at hl 0 rfl) ?_
                  refine g_get hC V (ci := 2) uwX2 0 rfl rfl 7 (by decide) w_138 rfl rfl dX2_nextToken_146 ?_
                  refine lv_aload_n hx hb dX2_nextToken_149 rfl (lv_at hl 0 rfl) ?_
                  refine g_get hC V (ci := 2) uwX2 0 rfl rfl 6 (by decide) w_137 rfl rfl dX2_nextToken_150 ?_
                  refine lv_isub hx hb dX2_nextToken_153 ?_
                  refine g_vi (y := (nI (bq - aq))) (nI_sub (by omega)) ?_
                  refine lv_iconst (v := (nI 3)) hx hb dX2_nextToken_154 (by decide +kernel) ?_
                  refine lv_icmp_le (tgt := 169) hx hb dX2_nextToken_155 (by decide) (fun c_16 => ?_) (fun c_16 => ?_)
                  · skip
                    have c_16 := b_le (by omega) (by omega) c_16
                    exact g_vret (Qr := (q_f_nextToken T ft nu wa t0 tf tu tl t1 sz tk tr be tx)) hC V ⟨(Nat.le_of_ble_eq_true rfl), (Nat.le_of_ble_eq_true rfl)⟩ ⟨(nxS ft sz (0, be, 0, nu, 0, wa)), rfl, (by obtain ⟨q1, q2, q3, q4, q5⟩ := nt_v (nu := nu) (wa := wa) h_tx (by omega) haq2 hB ezk hnb2 (by omega) (by omega); rw [q1, q2, q3, q4, q5, h_u, h_l]), rfl⟩ dX2_nextToken_169
                  · skip
                    have c_16 := b_nle (by omega) (by omega) c_16
                    refine lv_aload_n hx hb dX2_nextToken_158 rfl (lv_at hl 0 rfl) ?_
                    refine lv_bipush (v := (nI 6)) hx hb dX2_nextToken_159 (by decide +kernel) ?_
                    refine g_put hC V (ci := 2) uwX2 tyX2 tyX2_ok nmX2 0 rfl rfl 5 (by decide) w_136 rfl rfl rfl rfl (Nat.le_of_ble_eq_true rfl) (ws' := [(t0, .inr (2, [.int tf, .int (nI tu), .int tl, .ref t1, .int (nI sz), .int (nI 6), .int (nI aq), .int (nI bq)])), (t1, .inl (T 3, 900, .inl tx))]) rfl dX2_nextToken_161 (fun H locs V => ?_)
                    refine lv_aload_n hx hb dX2_nextToken_164 rfl (lv_at hl 0 rfl) ?_
                    refine lv_iconst (v := (nI 1)) hx hb dX2_nextToken_165 (by decide +kernel) ?_
                    refine g_callVU (nA := 1) hC V hl.1 (f_fail0 l D T t0 1 tf tu tl t1 sz (nI 6) aq (nI bq) h_u) w_317 w_319 w_s2 w_4 w_320 (by decide +kernel) rfl ⟨(Nat.le_of_ble_eq_true rfl), (Nat.le_of_ble_eq_true rfl)⟩ 0 (ci := 2) rfl rfl [0] rfl rfl (Nat.le_of_ble_eq_true rfl) dX2_nextToken_166 ⟨(Nat.le_of_ble_eq_true rfl), (Nat.le_of_ble_eq_true rfl)⟩ rfl (fun r w1 H locs hQ V => ?_)
                    obtain ⟨rfl, rfl⟩ := hQ
                    have V : gW D T A s [(t0, .inr (2, [.int tf, .int (nI 1), .int (nI aq), .ref t1, .int (nI sz), .int (nI 6), .int (nI aq), .int (nI bq)])), (t1, .inl (T 3, 900, .inl tx))] H locs := V _ [0] rfl rfl rfl (by decide +kernel) rfl
                    show W p l e _ s m args below meth c H locs _ _ _ (F0 m 169 ls [])
                    exact g_vret (Qr := (q_f_nextToken T ft nu wa t0 tf tu tl t1 sz tk tr be tx)) hC V ⟨(Nat.le_of_ble_eq_true rfl), (Nat.le_of_ble_eq_true rfl)⟩ ⟨(nxS ft sz (0, be, 0, nu, 0, wa)), rfl, (by obtain ⟨q1, q2, q3, q4, q5⟩ := nt_f (nu := nu) (wa := wa) h_tx haq2 hB ezk (by omega); rw [q1, q2, q3, q4, q5]), rfl⟩ dX2_nextToken_169
            · skip
              have c_13 := b_eq (by omega) (by omega) c_13
              refine lv_aload_n hx hb dX2_nextToken_100 rfl (lv_at hl 0 rfl) ?_
              refine lv_aload_n hx hb dX2_nextToken_101 rfl (lv_at hl 0 rfl) ?_
              refine g_get hC V (ci := 2) uwX2 0 rfl rfl 7 (by decide) w_138 rfl rfl dX2_nextToken_102 ?_
              refine g_callV (wr := []) (nA := 1) hC V hl.1 (f_kindAt l D T ft t0 bq tf (nI tu) tl t1 sz (nI zk) (nI aq) (nI bq) tx (by first | assumption | omega) (by first | assumption | omega) (by first | assumption | omega)) w_313 w_315 w_s1 w_4 w_316 (by decide +kernel) rfl ⟨(Nat.le_of_ble_eq_true rfl), (Nat.le_of_ble_eq_true rfl)⟩ 0 (ci := 2) rfl rfl [0, 1] [] rfl rfl rfl rfl (by decide) (Nat.le_of_ble_eq_true rfl) dX2_nextToken_105 ⟨(Nat.le_of_ble_eq_true rfl), (Nat.le_of_ble_eq_true rfl)⟩ rfl (fun r w1 H locs hQ V => ?_)
              obtain ⟨zb, rfl, rfl, f_17⟩ := hQ
              have V : gW D T A s [(t0, .inr (2, [.int tf, .int (nI tu), .int tl, .ref t1, .int (nI sz), .int (nI zk), .int (nI aq), .int (nI bq)])), (t1, .inl (T 3, 900, .inl tx))] H locs := V
              show W p l e _ s m args below meth c H locs _ _ _ (F0 m 108 ls [.int (nI zb)])
              have hzb6 := ckA_le h_tx bq
              have ezb := f_17
              refine lv_aload_n hx hb dX2_nextToken_108 rfl (lv_at hl 0 rfl) ?_
              refine g_get hC V (ci := 2) uwX2 0 rfl rfl 5 (by decide) w_136 rfl rfl dX2_nextToken_109 ?_
              refine lv_icmp_ne (tgt := 128) hx hb dX2_nextToken_112 (by decide) (fun c_18 => ?_) (fun c_18 => ?_)
              · skip
                have c_18 := b_ne (by omega) (by omega) c_18
                have hB : bq = tkB ft sz aq := nt_B h_tx (by omega) (by omega) ezk hb1 hb2 hb3 (Or.inr (Or.inr ⟨by omega, by omega⟩))
                refine lv_aload_n hx hb dX2_nextToken_128 rfl (lv_at hl 0 rfl) ?_
                refine g_get hC V (ci := 2) uwX2 0 rfl rfl 5 (by decide) w_136 rfl rfl dX2_nextToken_129 ?_
                refine lv_bipush (v := (nI 6)) hx hb dX2_nextToken_132 (by decide +kernel) ?_
                refine lv_icmp_eq (tgt := 158) hx hb dX2_nextToken_134 (by decide) (fun c_19 => ?_) (fun c_19 => ?_)
                · skip
                  have c_19 := b_eq (by omega) (by omega) c_19
                  refine lv_aload_n hx hb dX2_nextToken_158 rfl (lv_at hl 0 rfl) ?_
                  refine lv_bipush (v := (nI 6)) hx hb dX2_nextToken_159 (by decide +kernel) ?_
                  refine g_put hC V (ci := 2) uwX2 tyX2 tyX2_ok nmX2 0 rfl rfl 5 (by decide) w_136 rfl rfl rfl rfl (Nat.le_of_ble_eq_true rfl) (ws' := [(t0, .inr (2, [.int tf, .int (nI tu), .int tl, .ref t1, .int (nI sz), .int (nI 6), .int (nI aq), .int (nI bq)])), (t1, .inl (T 3, 900, .inl tx))]) rfl dX2_nextToken_161 (fun H locs V => ?_)
                  refine lv_aload_n hx hb dX2_nextToken_164 rfl (lv_at hl 0 rfl) ?_
                  refine lv_iconst (v := (nI 1)) hx hb dX2_nextToken_165 (by decide +kernel) ?_
                  refine g_callVU (nA := 1) hC V hl.1 (f_fail0 l D T t0 1 tf tu tl t1 sz (nI 6) aq (nI bq) h_u) w_317 w_319 w_s2 w_4 w_320 (by decide +kernel) rfl ⟨(Nat.le_of_ble_eq_true rfl), (Nat.le_of_ble_eq_true rfl)⟩ 0 (ci := 2) rfl rfl [0] rfl rfl (Nat.le_of_ble_eq_true rfl) dX2_nextToken_166 ⟨(Nat.le_of_ble_eq_true rfl), (Nat.le_of_ble_eq_true rfl)⟩ rfl (fun r w1 H locs hQ V => ?_)
                  obtain ⟨rfl, rfl⟩ := hQ
                  have V : gW D T A s [(t0, .inr (2, [.int tf, .int (nI 1), .int (nI aq), .ref t1, .int (nI sz), .int (nI 6), .int (nI aq), .int (nI bq)])), (t1, .inl (T 3, 900, .inl tx))] H locs := V _ [0] rfl rfl rfl (by decide +kernel) rfl
                  show W p l e _ s m args below meth c H locs _ _ _ (F0 m 169 ls [])
                  exact g_vret (Qr := (q_f_nextToken T ft nu wa t0 tf tu tl t1 sz tk tr be tx)) hC V ⟨(Nat.le_of_ble_eq_true rfl), (Nat.le_of_ble_eq_true rfl)⟩ ⟨(nxS ft sz (0, be, 0, nu, 0, wa)), rfl, (by obtain ⟨q1, q2, q3, q4, q5⟩ := nt_f (nu := nu) (wa := wa) h_tx haq2 hB ezk (by omega); rw [q1, q2, q3, q4, q5]), rfl⟩ dX2_nextToken_169
                · skip
                  have c_19 := b_ne (by omega) (by omega) c_19
                  refine lv_aload_n hx hb dX2_nextToken_137 rfl (lv_at hl 0 rfl) ?_
                  refine g_get hC V (ci := 2) uwX2 0 rfl rfl 5 (by decide) w_136 rfl rfl dX2_nextToken_138 ?_
                  refine lv_iconst (v := (nI 2)) hx hb dX2_nextToken_141 (by decide +kernel) ?_
                  refine lv_icmp_ne (tgt := 169) hx hb dX2_nextToken_142 (by decide) (fun c_20 => ?_) (fun c_20 => ?_)
                  · skip
                    have c_20 := b_ne (by omega) (by omega) c_20
                    exact g_vret (Qr := (q_f_nextToken T ft nu wa t0 tf tu tl t1 sz tk tr be tx)) hC V ⟨(Nat.le_of_ble_eq_true rfl), (Nat.le_of_ble_eq_true rfl)⟩ ⟨(nxS ft sz (0, be, 0, nu, 0, wa)), rfl, (by obtain ⟨q1, q2, q3, q4, q5⟩ := nt_v (nu := nu) (wa := wa) h_tx (by omega) haq2 hB ezk hnb2 (by omega) (by omega); rw [q1, q2, q3, q4, q5, h_u, h_l]), rfl⟩ dX2_nextToken_169
                  · skip
                    have c_20 := b_eq (by omega) (by omega) c_20
                    refine lv_aload_n hx hb dX2_nextToken_145 rfl (lv_at hl 0 rfl) ?_
                    refine g_get hC V (ci := 2) uwX2 0 rfl rfl 7 (by decide) w_138 rfl rfl dX2_nextToken_146 ?_
                    refine lv_aload_n hx hb dX2_nextToken_149 rfl (lv_at hl 0 rfl) ?_
                    refine g_get hC V (ci := 2) uwX2 0 rfl rfl 6 (by decide) w_137 rfl rfl dX2_nextToken_150 ?_
                    refine lv_isub hx hb dX2_nextToken_153 ?_
                    refine g_vi (y := (nI (bq - aq))) (nI_sub (by omega)) ?_
                    refine lv_iconst (v := (nI 3)) hx hb dX2_nextToken_154 (by decide +kernel) ?_
                    refine lv_icmp_le (tgt := 169) hx hb dX2_nextToken_155 (by decide) (fun c_21 => ?_) (fun c_21 => ?_)
                    · skip
                      have c_21 := b_le (by omega) (by omega) c_21
                      exact g_vret (Qr := (q_f_nextToken T ft nu wa t0 tf tu tl t1 sz tk tr be tx)) hC V ⟨(Nat.le_of_ble_eq_true rfl), (Nat.le_of_ble_eq_true rfl)⟩ ⟨(nxS ft sz (0, be, 0, nu, 0, wa)), rfl, (by obtain ⟨q1, q2, q3, q4, q5⟩ := nt_v (nu := nu) (wa := wa) h_tx (by omega) haq2 hB ezk hnb2 (by omega) (by omega); rw [q1, q2, q3, q4, q5, h_u, h_l]), rfl⟩ dX2_nextToken_169
                    · skip
                      have c_21 := b_nle (by omega) (by omega) c_21
                      refine lv_aload_n hx hb dX2_nextToken_158 rfl (lv_at hl 0 rfl) ?_
                      refine lv_bipush (v := (nI 6)) hx hb dX2_nextToken_159 (by decide +kernel) ?_
                      refine g_put hC V (ci := 2) uwX2 tyX2 tyX2_ok nmX2 0 rfl rfl 5 (by decide) w_136 rfl rfl rfl rfl (Nat.le_of_ble_eq_true rfl) (ws' := [(t0, .inr (2, [.int tf, .int (nI tu), .int tl, .ref t1, .int (nI sz), .int (nI 6), .int (nI aq), .int (nI bq)])), (t1, .inl (T 3, 900, .inl tx))]) rfl dX2_nextToken_161 (fun H locs V => ?_)
                      refine lv_aload_n hx hb dX2_nextToken_164 rfl (lv_at hl 0 rfl) ?_
                      refine lv_iconst (v := (nI 1)) hx hb dX2_nextToken_165 (by decide +kernel) ?_
                      refine g_callVU (nA := 1) hC V hl.1 (f_fail0 l D T t0 1 tf tu tl t1 sz (nI 6) aq (nI bq) h_u) w_317 w_319 w_s2 w_4 w_320 (by decide +kernel) rfl ⟨(Nat.le_of_ble_eq_true rfl), (Nat.le_of_ble_eq_true rfl)⟩ 0 (ci := 2) rfl rfl [0] rfl rfl (Nat.le_of_ble_eq_true rfl) dX2_nextToken_166 ⟨(Nat.le_of_ble_eq_true rfl), (Nat.le_of_ble_eq_true rfl)⟩ rfl (fun r w1 H locs hQ V => ?_)
                      obtain ⟨rfl, rfl⟩ := hQ
                      have V : gW D T A s [(t0, .inr (2, [.int tf, .int (nI 1), .int (nI aq), .ref t1, .int (nI sz), .int (nI 6), .int (nI aq), .int (nI bq)])), (t1, .inl (T 3, 900, .inl tx))] H locs := V _ [0] rfl rfl rfl (by decide +kernel) rfl
                      show W p l e _ s m args below meth c H locs _ _ _ (F0 m 169 ls [])
                      exact g_vret (Qr := (q_f_nextToken T ft nu wa t0 tf tu tl t1 sz tk tr be tx)) hC V ⟨(Nat.le_of_ble_eq_true rfl), (Nat.le_of_ble_eq_true rfl)⟩ ⟨(nxS ft sz (0, be, 0, nu, 0, wa)), rfl, (by obtain ⟨q1, q2, q3, q4, q5⟩ := nt_f (nu := nu) (wa := wa) h_tx haq2 hB ezk (by omega); rw [q1, q2, q3, q4, q5]), rfl⟩ dX2_nextToken_169
              · skip
                have c_18 := b_eq (by omega) (by omega) c_18
                refine lv_aload_n hx hb dX2_nextToken_115 rfl (lv_at hl 0 rfl) ?_
                refine lv_dup hx hb dX2_nextToken_116 rfl ?_
                refine g_get hC V (ci := 2) uwX2 0 rfl rfl 7 (by decide) w_138 rfl rfl dX2_nextToken_117 ?_
                refine lv_iconst (v := (nI 1)) hx hb dX2_nextToken_120 (by decide +kernel) ?_
                refine lv_iadd hx hb dX2_nextToken_121 ?_
                refine g_vi (y := (nI (bq + 1))) (nI_add _ _) ?_
                refine g_put hC V (ci := 2) uwX2 tyX2 tyX2_ok nmX2 0 rfl rfl 7 (by decide) w_138 rfl rfl rfl rfl (Nat.le_of_ble_eq_true rfl) (ws' := [(t0, .inr (2, [.int tf, .int (nI tu), .int tl, .ref t1, .int (nI sz), .int (nI zk), .int (nI aq), .int (nI (bq + 1))])), (t1, .inl (T 3, 900, .inl tx))]) rfl dX2_nextToken_122 (fun H locs V => ?_)
                refine lv_goto (tgt := 73) hx hb dX2_nextToken_125 (by decide) ?_
                exact ih_73 (bq + 1) (by omega) (fun h => (rn_go (by omega) ((ckA_sm h_tx (by omega) ezb).mp (by omega))).symm.trans (hb1 h)) (fun h => (rn_go (by omega) ((ckA_dg h_tx (by omega) ezb).mp (by omega))).symm.trans (hb2 h)) (fun h1 h2 => by omega) (by omega) _ _ _ V (lv_sub hl [0] rfl)
    exact L_2 _ (min (aq + 1) sz) (by omega) (fun h => by have hl_ : aq < sz := nt_lt h_tx ezk (by omega); exact min_go hl_ ((ckA_sm h_tx hl_ ezk).mp h)) (fun h => by have hl_ : aq < sz := nt_lt h_tx ezk (by omega); exact min_go hl_ ((ckA_dg h_tx hl_ ezk).mp h)) (fun _ _ => rfl) (Nat.lt_succ_self _) _ _ _ V (lv_sub hl [0] rfl)
  have L_22 : ∀ (fu : Nat) (aq : Nat), (be ≤ aq ∧ aq ≤ sz) → rn blkB ft sz aq = rn blkB ft sz be → sz - aq < fu → ∀ (H : Heap) (locs : List Loc) (ls : Array Slot), gW D T A s [(t0, .inr (2, [.int tf, .int (nI tu), .int tl, .ref t1, .int (nI sz), .int tk, .int (nI aq), .int (nI be)])), (t1, .inl (T 3, 900, .inl tx))] H locs → lv_has ls 1 [(0, .ref t0)] → W p l e (rmD 1 0 0) s m args below meth c H locs 0 0 (MQ below (gQ D A (q_f_nextToken T ft nu wa t0 tf tu tl t1 sz tk tr be tx)) args s 0 0 A) (F0 m 8 ls []) := by
    intro fu_8
    induction fu_8 with
    | zero => intro aq haq hrn hmu; exact absurd hmu (Nat.not_lt_zero _)
    | succ fu_8 ih_8 =>
      intro aq haq hrn hmu_8 H locs ls V hl
      refine lv_aload_n hx hb dX2_nextToken_8 rfl (lv_at hl 0 rfl) ?_
      refine g_get hC V (ci := 2) uwX2 0 rfl rfl 6 (by decide) w_137 rfl rfl dX2_nextToken_9 ?_
      refine lv_aload_n hx hb dX2_nextToken_12 rfl (lv_at hl 0 rfl) ?_
      refine g_get hC V (ci := 2) uwX2 0 rfl rfl 4 (by decide) w_135 rfl rfl dX2_nextToken_13 ?_
      refine lv_icmp_ge (tgt := 44) hx hb dX2_nextToken_16 (by decide) (fun c_23 => ?_) (fun c_23 => ?_)
      · skip
        have c_23 := b_le (by omega) (by omega) c_23
        exact J_44 aq (by omega) (by first | exact rn_st hrn hst | exact rn_st hrn (rn_end (by omega))) (fun hq => by first | exact hnb | (exfalso; omega)) _ _ _ V (lv_sub hl [0] rfl)
      · skip
        have c_23 := b_nle (by omega) (by omega) c_23
        refine lv_aload_n hx hb dX2_nextToken_19 rfl (lv_at hl 0 rfl) ?_
        refine lv_aload_n hx hb dX2_nextToken_20 rfl (lv_at hl 0 rfl) ?_
        refine g_get hC V (ci := 2) uwX2 0 rfl rfl 6 (by decide) w_137 rfl rfl dX2_nextToken_21 ?_
        refine g_callV (wr := []) (nA := 1) hC V hl.1 (f_kindAt l D T ft t0 aq tf (nI tu) tl t1 sz tk (nI aq) (nI be) tx (by first | assumption | omega) (by first | assumption | omega) (by first | assumption | omega)) w_313 w_315 w_s1 w_4 w_316 (by decide +kernel) rfl ⟨(Nat.le_of_ble_eq_true rfl), (Nat.le_of_ble_eq_true rfl)⟩ 0 (ci := 2) rfl rfl [0, 1] [] rfl rfl rfl rfl (by decide) (Nat.le_of_ble_eq_true rfl) dX2_nextToken_24 ⟨(Nat.le_of_ble_eq_true rfl), (Nat.le_of_ble_eq_true rfl)⟩ rfl (fun r w1 H locs hQ V => ?_)
        obtain ⟨z_24, rfl, rfl, f_25⟩ := hQ
        have V : gW D T A s [(t0, .inr (2, [.int tf, .int (nI tu), .int tl, .ref t1, .int (nI sz), .int tk, .int (nI aq), .int (nI be)])), (t1, .inl (T 3, 900, .inl tx))] H locs := V
        show W p l e _ s m args below meth c H locs _ _ _ (F0 m 27 ls [.int (nI z_24)])
        have hz24 := ckA_le h_tx aq
        refine lv_iconst (v := (nI 4)) hx hb dX2_nextToken_27 (by decide +kernel) ?_
        refine lv_icmp_ne (tgt := 44) hx hb dX2_nextToken_28 (by decide) (fun c_26 => ?_) (fun c_26 => ?_)
        · skip
          have c_26 := b_ne (by omega) (by omega) c_26
          have hnb : ¬ blkB (ft aq) = true := fun q => c_26 ((ckA_bl h_tx (by omega) f_25).mpr q)
          have hst := rn_no (sz := sz) hnb
          exact J_44 aq (by omega) (by first | exact rn_st hrn hst | exact rn_st hrn (rn_end (by omega))) (fun hq => by first | exact hnb | (exfalso; omega)) _ _ _ V (lv_sub hl [0] rfl)
        · skip
          have c_26 := b_eq (by omega) (by omega) c_26
          have hgo := (ckA_bl h_tx (by omega) f_25).mp c_26
          refine lv_aload_n hx hb dX2_nextToken_31 rfl (lv_at hl 0 rfl) ?_
          refine lv_dup hx hb dX2_nextToken_32 rfl ?_
          refine g_get hC V (ci := 2) uwX2 0 rfl rfl 6 (by decide) w_137 rfl rfl dX2_nextToken_33 ?_
          refine lv_iconst (v := (nI 1)) hx hb dX2_nextToken_36 (by decide +kernel) ?_
          refine lv_iadd hx hb dX2_nextToken_37 ?_
          refine g_vi (y := (nI (aq + 1))) (nI_add _ _) ?_
          refine g_put hC V (ci := 2) uwX2 tyX2 tyX2_ok nmX2 0 rfl rfl 6 (by decide) w_137 rfl rfl rfl rfl (Nat.le_of_ble_eq_true rfl) (ws' := [(t0, .inr (2, [.int tf, .int (nI tu), .int tl, .ref t1, .int (nI sz), .int tk, .int (nI (aq + 1)), .int (nI be)])), (t1, .inl (T 3, 900, .inl tx))]) rfl dX2_nextToken_38 (fun H locs V => ?_)
          refine lv_goto (tgt := 8) hx hb dX2_nextToken_41 (by decide) ?_
          exact ih_8 (aq + 1) (by omega) ((rn_go (by omega) hgo).symm.trans hrn) (by omega) _ _ _ V (lv_sub hl [0] rfl)
  exact L_22 _ be (by omega) rfl (Nat.lt_succ_self _) _ _ _ V (lv_sub hl [0] rfl)

def q_f_fail (T : Nat → ClassId) (ps : PS) (t0 : Nat) (f : Nat) (tf : Int32) (t1 : Nat) (sz : Nat) : Option Value → va_W → Prop := fun rr ww => (∃ (p2 : PS), rr = none ∧ ww = [(t0, .inr (2, [.int tf, .int (nI (cF p2)), .int (cP p2), .ref t1, .int (nI sz), .int (nI (cK p2.2.2.1)), .int (nI p2.1), .int (nI p2.2.1)]))] ∧ p2 = faS f ps)
set_option maxHeartbeats 4000000 in
set_option maxRecDepth 100000 in
theorem f_fail (l : Launch) (D : va_G) (T : Nat → ClassId) (ps : PS) (t0 : Nat) (f : Nat) (tf : Int32) (t1 : Nat) (sz : Nat) (h_f : ¬ f = 0) (h_c : cF ps ≤ 4) : Ct l yX2_fail cX2_fail 2 none 0 0 0 D T [.ref t0, .int (nI f)] [(t0, .inr (2, [.int tf, .int (nI (cF ps)), .int (cP ps), .ref t1, .int (nI sz), .int (nI (cK ps.2.2.1)), .int (nI ps.1), .int (nI ps.2.1)]))] (q_f_fail T ps t0 f tf t1 sz) := by
  refine Ct.of (cc := cX2_fail) (maxL := 2) (ret := none) (by decide) (Nat.le_of_ble_eq_true rfl) ?_
  intro p e s m args below meth c A ls hC hnm V hl
  obtain ⟨hx, hb, hr, hml, hown, hts, hlocks⟩ := id hC
  generalize hH : s.heap = H at V ⊢
  clear hH
  have hl : lv_has ls 2 [(0, .ref t0), (1, .int (nI f))] := hl
  generalize hlo : ([] : List Loc) = locs at V ⊢
  clear hlo
  refine lv_aload_n hx hb dX2_fail_0 rfl (lv_at hl 0 rfl) ?_
  refine g_get hC V (ci := 2) uwX2 0 rfl rfl 1 (by decide) w_130 rfl rfl dX2_fail_1 ?_
  refine lv_if_ne (tgt := 20) hx hb dX2_fail_4 (by decide) (fun c_1 => ?_) (fun c_1 => ?_)
  · skip
    rw [show (0 : Int32) = nI 0 from rfl] at c_1
    have c_1 := b_ne (by omega) (by omega) c_1
    exact g_vret (Qr := (q_f_fail T ps t0 f tf t1 sz)) hC V ⟨(Nat.le_of_ble_eq_true rfl), (Nat.le_of_ble_eq_true rfl)⟩ ⟨(faS f ps), rfl, (by obtain ⟨q0, q1, q2, q3, q4⟩ := fa_v1 (f := f) (p := ps) (by assumption); rw [q0, q1, q2, q3, q4]), rfl⟩ dX2_fail_20
  · skip
    rw [show (0 : Int32) = nI 0 from rfl] at c_1
    have c_1 := b_eq (by omega) (by omega) c_1
    refine lv_aload_n hx hb dX2_fail_7 rfl (lv_at hl 0 rfl) ?_
    refine lv_iload_n hx hb dX2_fail_8 rfl (lv_at hl 1 rfl) ?_
    refine g_put hC V (ci := 2) uwX2 tyX2 tyX2_ok nmX2 0 rfl rfl 1 (by decide) w_130 rfl rfl rfl rfl (Nat.le_of_ble_eq_true rfl) (ws' := [(t0, .inr (2, [.int tf, .int (nI f), .int (cP ps), .ref t1, .int (nI sz), .int (nI (cK ps.2.2.1)), .int (nI ps.1), .int (nI ps.2.1)]))]) rfl dX2_fail_9 (fun H locs V => ?_)
    refine lv_aload_n hx hb dX2_fail_12 rfl (lv_at hl 0 rfl) ?_
    refine lv_aload_n hx hb dX2_fail_13 rfl (lv_at hl 0 rfl) ?_
    refine g_get hC V (ci := 2) uwX2 0 rfl rfl 6 (by decide) w_137 rfl rfl dX2_fail_14 ?_
    refine g_put hC V (ci := 2) uwX2 tyX2 tyX2_ok nmX2 0 rfl rfl 2 (by decide) w_132 rfl rfl rfl rfl (Nat.le_of_ble_eq_true rfl) (ws' := [(t0, .inr (2, [.int tf, .int (nI f), .int (nI ps.1), .ref t1, .int (nI sz), .int (nI (cK ps.2.2.1)), .int (nI ps.1), .int (nI ps.2.1)]))]) rfl dX2_fail_17 (fun H locs V => ?_)
    exact g_vret (Qr := (q_f_fail T ps t0 f tf t1 sz)) hC V ⟨(Nat.le_of_ble_eq_true rfl), (Nat.le_of_ble_eq_true rfl)⟩ ⟨(faS f ps), rfl, (by obtain ⟨q0, q1, q2⟩ := fa_v0 (f := f) (p := ps) (by assumption) h_f; rw [q1, q2, q0]), rfl⟩ dX2_fail_20

def q_f_isWord (T : Nat → ClassId) (si : Nat) (ft : Nat → Int32) (ps : PS) (t0 : Nat) (tf : Int32) (t1 : Nat) (sz : Nat) (tx : Nat → Int32) : Option Value → va_W → Prop := fun rr ww => (rr = some (.int (nI 1)) ∧ ww = [(t0, .inr (2, [.int tf, .int (nI (cF ps)), .int (cP ps), .ref t1, .int (nI sz), .int (nI (cK ps.2.2.1)), .int (nI ps.1), .int (nI ps.2.1)])), (t1, .inl (T 3, 900, .inl tx))] ∧ ps.2.2.1 = si) ∨ (rr = some (.int (nI 0)) ∧ ww = [(t0, .inr (2, [.int tf, .int (nI (cF ps)), .int (cP ps), .ref t1, .int (nI sz), .int (nI (cK ps.2.2.1)), .int (nI ps.1), .int (nI ps.2.1)])), (t1, .inl (T 3, 900, .inl tx))] ∧ ¬ ps.2.2.1 = si)
set_option maxHeartbeats 4000000 in
set_option maxRecDepth 100000 in
theorem f_isWord (l : Launch) (D : va_G) (T : Nat → ClassId) (si : Nat) (ft : Nat → Int32) (ps : PS) (t0 : Nat) (tf : Int32) (t1 : Nat) (sz : Nat) (tx : Nat → Int32) (h_sz : sz ≤ 900) (h_tx : TXT sz tx ft) (h_p : PI ft sz ps) (h_i : si < 8) : Ct l yX2_isWord cX2_isWord 3 (some .boolean) 4 0 0 D T [.ref t0, .ref (D.2 9 si)] [(t0, .inr (2, [.int tf, .int (nI (cF ps)), .int (cP ps), .ref t1, .int (nI sz), .int (nI (cK ps.2.2.1)), .int (nI ps.1), .int (nI ps.2.1)])), (t1, .inl (T 3, 900, .inl tx))] (q_f_isWord T si ft ps t0 tf t1 sz tx) := by
  refine Ct.of (cc := cX2_isWord) (maxL := 3) (ret := (some .boolean)) (by decide) (Nat.le_of_ble_eq_true rfl) ?_
  intro p e s m args below meth c A ls hC hnm V hl
  obtain ⟨hx, hb, hr, hml, hown, hts, hlocks⟩ := id hC
  generalize hH : s.heap = H at V ⊢
  clear hH
  have hl : lv_has ls 3 [(0, .ref t0), (1, .ref (D.2 9 si))] := hl
  generalize hlo : ([] : List Loc) = locs at V ⊢
  clear hlo
  obtain ⟨_, _, _, _, -⟩ := id h_p
  have hcF := cF_le (p := ps) (by omega)
  have hcK := cK_le ps.2.2.1
  have hsl := slen_le (i := si) (by omega)
  have h_i9 : si < 9 := by omega
  refine lv_aload_n hx hb dX2_isWord_0 rfl (lv_at hl 0 rfl) ?_
  refine g_get hC V (ci := 2) uwX2 0 rfl rfl 5 (by decide) w_136 rfl rfl dX2_isWord_1 ?_
  refine lv_iconst (v := (nI 1)) hx hb dX2_isWord_4 (by decide +kernel) ?_
  refine lv_icmp_ne (tgt := 24) hx hb dX2_isWord_5 (by decide) (fun c_1 => ?_) (fun c_1 => ?_)
  · skip
    have c_1 := b_ne (by omega) (by omega) c_1
    refine lv_iconst (v := (nI 0)) hx hb dX2_isWord_24 (by decide +kernel) ?_
    exact g_zret (Qr := (q_f_isWord T si ft ps t0 tf t1 sz tx)) hC V ⟨(Nat.le_of_ble_eq_true rfl), (Nat.le_of_ble_eq_true rfl)⟩ (by first | decide +kernel | exact rfl) (.inr ⟨rfl, rfl, (by first | exact iw_len h_p h_i (by omega) | (intro e; have := cK_1 (k := ps.2.2.1); omega))⟩) dX2_isWord_25
  · skip
    have c_1 := b_eq (by omega) (by omega) c_1
    have hw8 := cK_1.mp c_1
    refine lv_aload_n hx hb dX2_isWord_8 rfl (lv_at hl 0 rfl) ?_
    refine g_get hC V (ci := 2) uwX2 0 rfl rfl 7 (by decide) w_138 rfl rfl dX2_isWord_9 ?_
    refine lv_aload_n hx hb dX2_isWord_12 rfl (lv_at hl 0 rfl) ?_
    refine g_get hC V (ci := 2) uwX2 0 rfl rfl 6 (by decide) w_137 rfl rfl dX2_isWord_13 ?_
    refine lv_isub hx hb dX2_isWord_16 ?_
    refine g_vi (y := (nI (ps.2.1 - ps.1))) (nI_sub (by omega)) ?_
    refine lv_aload_n hx hb dX2_isWord_17 rfl (lv_at hl 1 rfl) ?_
    refine g_callZU (nA := 0) hC V hl.1 (z_length l D T si (by omega)) w_326 w_327 w_328 w_12 w_329 (by decide +kernel) rfl ⟨(Nat.le_of_ble_eq_true rfl), (Nat.le_of_ble_eq_true rfl)⟩ (si := si) (by first | assumption | decide) rfl rfl [] rfl rfl (Nat.le_of_ble_eq_true rfl) dX2_isWord_18 ⟨(Nat.le_of_ble_eq_true rfl), (Nat.le_of_ble_eq_true rfl)⟩ rfl (fun r w1 H locs hQ V => ?_)
    obtain ⟨rfl, rfl⟩ := hQ
    have V : gW D T A s [(t0, .inr (2, [.int tf, .int (nI (cF ps)), .int (cP ps), .ref t1, .int (nI sz), .int (nI (cK ps.2.2.1)), .int (nI ps.1), .int (nI ps.2.1)])), (t1, .inl (T 3, 900, .inl tx))] H locs := V _ [] rfl rfl rfl (by decide +kernel) rfl
    show W p l e _ s m args below meth c H locs _ _ _ (F0 m 21 ls [.int (nI (sLen.getD si 0)), .int (nI (ps.2.1 - ps.1))])
    refine lv_icmp_eq (tgt := 26) hx hb dX2_isWord_21 (by decide) (fun c_2 => ?_) (fun c_2 => ?_)
    · skip
      have c_2 := b_eq (by omega) (by omega) c_2
      have hlen : ps.2.1 = ps.1 + sLen.getD si 0 := by omega
      refine lv_iconst (v := (nI 0)) hx hb dX2_isWord_26 (by decide +kernel) ?_
      refine lv_istore_n (lv' := [(2, .int (nI 0)), (0, .ref t0), (1, .ref (D.2 9 si))]) hx hb dX2_isWord_27 rfl hl (by decide) rfl (fun ls hl => ?_)
      have L_3 : ∀ (fu : Nat) (k : Nat), k ≤ sLen.getD si 0 → (∀ j, j < k → ft (ps.1 + j) = sch si j) → sLen.getD si 0 - k < fu → ∀ (H : Heap) (locs : List Loc) (ls : Array Slot), gW D T A s [(t0, .inr (2, [.int tf, .int (nI (cF ps)), .int (cP ps), .ref t1, .int (nI sz), .int (nI (cK ps.2.2.1)), .int (nI ps.1), .int (nI ps.2.1)])), (t1, .inl (T 3, 900, .inl tx))] H locs → lv_has ls 3 [(2, .int (nI k)), (0, .ref t0), (1, .ref (D.2 9 si))] → W p l e (rmD 4 0 0) s m args below meth c H locs 0 0 (MQ below (gQ D A (q_f_isWord T si ft ps t0 tf t1 sz tx)) args s 0 0 A) (F0 m 28 ls []) := by
        intro fu_28
        induction fu_28 with
        | zero => intro k hk hmt hmu; exact absurd hmu (Nat.not_lt_zero _)
        | succ fu_28 ih_28 =>
          intro k hk hmt hmu_28 H locs ls V hl
          refine lv_iload_n hx hb dX2_isWord_28 rfl (lv_at hl 0 rfl) ?_
          refine lv_aload_n hx hb dX2_isWord_29 rfl (lv_at hl 2 rfl) ?_
          refine g_callZU (nA := 0) hC V hl.1 (z_length l D T si (by omega)) w_326 w_327 w_328 w_12 w_329 (by decide +kernel) rfl ⟨(Nat.le_of_ble_eq_true rfl), (Nat.le_of_ble_eq_true rfl)⟩ (si := si) (by first | assumption | decide) rfl rfl [] rfl rfl (Nat.le_of_ble_eq_true rfl) dX2_isWord_30 ⟨(Nat.le_of_ble_eq_true rfl), (Nat.le_of_ble_eq_true rfl)⟩ rfl (fun r w1 H locs hQ V => ?_)
          obtain ⟨rfl, rfl⟩ := hQ
          have V : gW D T A s [(t0, .inr (2, [.int tf, .int (nI (cF ps)), .int (cP ps), .ref t1, .int (nI sz), .int (nI (cK ps.2.2.1)), .int (nI ps.1), .int (nI ps.2.1)])), (t1, .inl (T 3, 900, .inl tx))] H locs := V _ [] rfl rfl rfl (by decide +kernel) rfl
          show W p l e _ s m args below meth c H locs _ _ _ (F0 m 33 ls [.int (nI (sLen.getD si 0)), .int (nI k)])
          refine lv_icmp_ge (tgt := 63) hx hb dX2_isWord_33 (by decide) (fun c_4 => ?_) (fun c_4 => ?_)
          · skip
            have c_4 := b_le (by omega) (by omega) c_4
            refine lv_iconst (v := (nI 1)) hx hb dX2_isWord_63 (by decide +kernel) ?_
            exact g_zret (Qr := (q_f_isWord T si ft ps t0 tf t1 sz tx)) hC V ⟨(Nat.le_of_ble_eq_true rfl), (Nat.le_of_ble_eq_true rfl)⟩ (by first | decide +kernel | exact rfl) (.inl ⟨rfl, rfl, (iw_y h_p h_i hw8 hlen (fun j hj => hmt j (by omega)))⟩) dX2_isWord_64
          · skip
            have c_4 := b_nle (by omega) (by omega) c_4
            refine lv_aload_n hx hb dX2_isWord_36 rfl (lv_at hl 1 rfl) ?_
            refine g_get hC V (ci := 2) uwX2 0 rfl rfl 3 (by decide) w_134 rfl rfl dX2_isWord_37 ?_
            refine lv_aload_n hx hb dX2_isWord_40 rfl (lv_at hl 1 rfl) ?_
            refine g_get hC V (ci := 2) uwX2 0 rfl rfl 6 (by decide) w_137 rfl rfl dX2_isWord_41 ?_
            refine lv_iload_n hx hb dX2_isWord_44 rfl (lv_at hl 0 rfl) ?_
            refine lv_iadd hx hb dX2_isWord_45 ?_
            refine g_vi (y := (nI (ps.1 + k))) (nI_add _ _) ?_
            refine g_bald hC V 1 rfl (vp_in_nI (by omega) (by omega)) (v := (tx (ps.1 + k))) (congrArg _ (nI_clamp (by omega))) dX2_isWord_46 ?_
            refine lv_aload_n hx hb dX2_isWord_47 rfl (lv_at hl 2 rfl) ?_
            refine lv_iload_n hx hb dX2_isWord_48 rfl (lv_at hl 0 rfl) ?_
            refine g_callZU (nA := 1) hC V hl.1 (z_charAt l D T si k (by omega) (by first | assumption | omega)) w_336 w_337 w_338 w_12 w_339 (by decide +kernel) rfl ⟨(Nat.le_of_ble_eq_true rfl), (Nat.le_of_ble_eq_true rfl)⟩ (si := si) (by first | assumption | decide) rfl rfl [] rfl rfl (Nat.le_of_ble_eq_true rfl) dX2_isWord_49 ⟨(Nat.le_of_ble_eq_true rfl), (Nat.le_of_ble_eq_true rfl)⟩ rfl (fun r w1 H locs hQ V => ?_)
            obtain ⟨z_5, rfl, rfl, f_6⟩ := hQ
            have V : gW D T A s [(t0, .inr (2, [.int tf, .int (nI (cF ps)), .int (cP ps), .ref t1, .int (nI sz), .int (nI (cK ps.2.2.1)), .int (nI ps.1), .int (nI ps.2.1)])), (t1, .inl (T 3, 900, .inl tx))] H locs := V _ [] rfl rfl rfl (by decide +kernel) rfl
            show W p l e _ s m args below meth c H locs _ _ _ (F0 m 52 ls [.int z_5, .int (tx (ps.1 + k))])
            refine lv_icmp_eq (tgt := 57) hx hb dX2_isWord_52 (by decide) (fun c_7 => ?_) (fun c_7 => ?_)
            · skip
              have hk8 : k < sLen.getD si 0 := by omega
              have hch := iw_ch h_tx h_p h_i hw8 hk8 hlen
              have hmt2 := mt_one hmt (hch.symm.trans (c_7.trans f_6))
              refine lv_iinc (v := (nI (k + 1))) (lv' := [(2, .int (nI (k + 1))), (0, .ref t0), (1, .ref (D.2 9 si))]) hx hb dX2_isWord_57 hl (k := 0) rfl (nI_1 _) (by decide) rfl (fun ls hl => ?_)
              refine lv_goto (tgt := 28) hx hb dX2_isWord_60 (by decide) ?_
              exact ih_28 (k + 1) (by omega) hmt2 (by omega) _ _ _ V (lv_sub hl [0, 1, 2] rfl)
            · skip
              have hk8 : k < sLen.getD si 0 := by omega
              have hch := iw_ch h_tx h_p h_i hw8 hk8 hlen
              have hne : ¬ ft (ps.1 + k) = sch si k := fun q => c_7 (hch.trans (q.trans f_6.symm))
              refine lv_iconst (v := (nI 0)) hx hb dX2_isWord_55 (by decide +kernel) ?_
              exact g_zret (Qr := (q_f_isWord T si ft ps t0 tf t1 sz tx)) hC V ⟨(Nat.le_of_ble_eq_true rfl), (Nat.le_of_ble_eq_true rfl)⟩ (by first | decide +kernel | exact rfl) (.inr ⟨rfl, rfl, (iw_no h_p h_i hk8 hne)⟩) dX2_isWord_56
      exact L_3 _ 0 (by omega) (fun i h => absurd h (Nat.not_lt_zero _)) (Nat.lt_succ_self _) _ _ _ V (lv_sub hl [0, 1, 2] rfl)
    · skip
      have c_2 := b_ne (by omega) (by omega) c_2
      refine lv_iconst (v := (nI 0)) hx hb dX2_isWord_24 (by decide +kernel) ?_
      exact g_zret (Qr := (q_f_isWord T si ft ps t0 tf t1 sz tx)) hC V ⟨(Nat.le_of_ble_eq_true rfl), (Nat.le_of_ble_eq_true rfl)⟩ (by first | decide +kernel | exact rfl) (.inr ⟨rfl, rfl, (by first | exact iw_len h_p h_i (by omega) | (intro e; have := cK_1 (k := ps.2.2.1); omega))⟩) dX2_isWord_25

def q_f_takeNumber (T : Nat → ClassId) (ft : Nat → Int32) (ps : PS) (t0 : Nat) (lo : Int32) (hi : Int32) (tf : Int32) (t1 : Nat) (sz : Nat) (tx : Nat → Int32) : Option Value → va_W → Prop := fun rr ww => (∃ (z : Int32) (p2 : PS), rr = some (.int z) ∧ ww = [(t0, .inr (2, [.int tf, .int (nI (cF p2)), .int (cP p2), .ref t1, .int (nI sz), .int (nI (cK p2.2.2.1)), .int (nI p2.1), .int (nI p2.2.1)])), (t1, .inl (T 3, 900, .inl tx))] ∧ p2 = tkS ft sz lo hi ps ∧ (cF p2 = 0 → z = ps.2.2.2.1))
set_option maxHeartbeats 4000000 in
set_option maxRecDepth 100000 in
theorem f_takeNumber (l : Launch) (D : va_G) (T : Nat → ClassId) (ft : Nat → Int32) (ps : PS) (t0 : Nat) (lo : Int32) (hi : Int32) (tf : Int32) (t1 : Nat) (sz : Nat) (tx : Nat → Int32) (h_sz : sz ≤ 900) (h_tx : TXT sz tx ft) (h_p : PI ft sz ps) : Ct l yX2_takeNumber cX2_takeNumber 5 (some .int) 2 0 0 D T [.ref t0, .int lo, .int hi] [(t0, .inr (2, [.int tf, .int (nI (cF ps)), .int (cP ps), .ref t1, .int (nI sz), .int (nI (cK ps.2.2.1)), .int (nI ps.1), .int (nI ps.2.1)])), (t1, .inl (T 3, 900, .inl tx))] (q_f_takeNumber T ft ps t0 lo hi tf t1 sz tx) := by
  refine Ct.of (cc := cX2_takeNumber) (maxL := 5) (ret := (some .int)) (by decide) (Nat.le_of_ble_eq_true rfl) ?_
  intro p e s m args below meth c A ls hC hnm V hl
  obtain ⟨hx, hb, hr, hml, hown, hts, hlocks⟩ := id hC
  generalize hH : s.heap = H at V ⊢
  clear hH
  have hl : lv_has ls 5 [(0, .ref t0), (1, .int lo), (2, .int hi)] := hl
  generalize hlo : ([] : List Loc) = locs at V ⊢
  clear hlo
  obtain ⟨_, _, _, _, -⟩ := id h_p
  have hcF := cF_le (p := ps) (by omega)
  have hcK := cK_le ps.2.2.1
  have hnu9 := h_p.2.2.2.2.2.2
  refine lv_iconst (v := (nI 0)) hx hb dX2_takeNumber_0 (by decide +kernel) ?_
  refine lv_istore_n (lv' := [(3, .int (nI 0)), (0, .ref t0), (1, .int lo), (2, .int hi)]) hx hb dX2_takeNumber_1 rfl hl (by decide) rfl (fun ls hl => ?_)
  refine lv_aload_n hx hb dX2_takeNumber_2 rfl (lv_at hl 1 rfl) ?_
  refine g_get hC V (ci := 2) uwX2 0 rfl rfl 6 (by decide) w_137 rfl rfl dX2_takeNumber_3 ?_
  refine lv_istore (lv' := [(4, .int (nI ps.1)), (3, .int (nI 0)), (0, .ref t0), (1, .int lo), (2, .int hi)]) hx hb dX2_takeNumber_6 hl (by decide) rfl (fun ls hl => ?_)
  have L_1 : ∀ (fu : Nat) (at_ : Nat) (wv : Int32), at_ ≤ ps.2.1 → ps.1 ≤ at_ → (ps.2.2.1 = 9 → wv = nuV ft ps.1 (at_ - ps.1)) → ps.2.1 - at_ < fu → ∀ (H : Heap) (locs : List Loc) (ls : Array Slot), gW D T A s [(t0, .inr (2, [.int tf, .int (nI (cF ps)), .int (cP ps), .ref t1, .int (nI sz), .int (nI (cK ps.2.2.1)), .int (nI ps.1), .int (nI ps.2.1)])), (t1, .inl (T 3, 900, .inl tx))] H locs → lv_has ls 5 [(4, .int (nI at_)), (3, .int wv), (0, .ref t0), (1, .int lo), (2, .int hi)] → W p l e (rmD 2 0 0) s m args below meth c H locs 0 0 (MQ below (gQ D A (q_f_takeNumber T ft ps t0 lo hi tf t1 sz tx)) args s 0 0 A) (F0 m 8 ls []) := by
    intro fu_8
    induction fu_8 with
    | zero => intro at_ wv hat_ hat2 hwv hmu; exact absurd hmu (Nat.not_lt_zero _)
    | succ fu_8 ih_8 =>
      intro at_ wv hat_ hat2 hwv hmu_8 H locs ls V hl
      refine lv_aload_n hx hb dX2_takeNumber_8 rfl (lv_at hl 2 rfl) ?_
      refine g_get hC V (ci := 2) uwX2 0 rfl rfl 5 (by decide) w_136 rfl rfl dX2_takeNumber_9 ?_
      refine lv_iconst (v := (nI 2)) hx hb dX2_takeNumber_12 (by decide +kernel) ?_
      refine lv_icmp_ne (tgt := 47) hx hb dX2_takeNumber_13 (by decide) (fun c_2 => ?_) (fun c_2 => ?_)
      · skip
        have c_2 := b_ne (by omega) (by omega) c_2
        refine lv_aload_n hx hb dX2_takeNumber_47 rfl (lv_at hl 2 rfl) ?_
        refine g_get hC V (ci := 2) uwX2 0 rfl rfl 5 (by decide) w_136 rfl rfl dX2_takeNumber_48 ?_
        refine lv_iconst (v := (nI 2)) hx hb dX2_takeNumber_51 (by decide +kernel) ?_
        refine lv_icmp_eq (tgt := 63) hx hb dX2_takeNumber_52 (by decide) (fun c_3 => ?_) (fun c_3 => ?_)
        · skip
          have c_3 := b_eq (by omega) (by omega) c_3
          have h9 := cK_2.mp c_3
          have hwv2 : wv = nuV ft ps.1 (ps.2.1 - ps.1) := by rw [hwv h9]; congr 1; have := cK_2.mpr h9; omega
          refine lv_iload_n hx hb dX2_takeNumber_63 rfl (lv_at hl 1 rfl) ?_
          refine lv_iload_n hx hb dX2_takeNumber_64 rfl (lv_at hl 3 rfl) ?_
          refine lv_iload_n hx hb dX2_takeNumber_65 rfl (lv_at hl 4 rfl) ?_
          refine g_callSNU (nA := 3) (host := RX7) hC V hl.1 (c_isWithin l D T wv lo hi) w_294 (List.mem_of_getElem? (i := 8) rfl) w_2 w_293 (by decide +kernel) rfl ⟨(Nat.le_of_ble_eq_true rfl), (Nat.le_of_ble_eq_true rfl)⟩ [] rfl rfl (Nat.le_of_ble_eq_true rfl) dX2_takeNumber_66 ⟨(Nat.le_of_ble_eq_true rfl), (Nat.le_of_ble_eq_true rfl)⟩ rfl (fun r w1 H locs hQ V => ?_)
          rcases hQ with ⟨rfl, rfl, f_4, f_5⟩ | ⟨rfl, rfl, f_6⟩
          · have V : gW D T A s [(t0, .inr (2, [.int tf, .int (nI (cF ps)), .int (cP ps), .ref t1, .int (nI sz), .int (nI (cK ps.2.2.1)), .int (nI ps.1), .int (nI ps.2.1)])), (t1, .inl (T 3, 900, .inl tx))] H locs := V _ [] rfl rfl rfl (by decide +kernel) rfl
            show W p l e _ s m args below meth c H locs _ _ _ (F0 m 69 ls [.int (nI 1)])
            refine lv_if_ne (tgt := 77) hx hb dX2_takeNumber_69 (by decide) (fun _ => ?_) (fun c => absurd (show (nI 1) = 0 from c) (by decide +kernel))
            refine lv_aload_n hx hb dX2_takeNumber_77 rfl (lv_at hl 2 rfl) ?_
            refine g_get hC V (ci := 2) uwX2 0 rfl rfl 1 (by decide) w_130 rfl rfl dX2_takeNumber_78 ?_
            refine lv_if_eq (tgt := 86) hx hb dX2_takeNumber_81 (by decide) (fun c_7 => ?_) (fun c_7 => ?_)
            · skip
              rw [show (0 : Int32) = nI 0 from rfl] at c_7
              have c_7 := b_eq (by omega) (by omega) c_7
              refine lv_aload_n hx hb dX2_takeNumber_86 rfl (lv_at hl 2 rfl) ?_
              refine g_callV (wr := []) (nA := 0) hC V hl.1 (f_nextToken l D T ft ps.2.2.2.1 ps.2.2.2.2.2 t0 tf (cF ps) (cP ps) t1 sz (nI (cK ps.2.2.1)) (nI ps.1) ps.2.1 tx (by first | assumption | omega) (by first | assumption | omega) (by omega) (by omega) (cP_0 (by omega))) w_309 w_311 w_s0 w_4 w_312 (by decide +kernel) rfl ⟨(Nat.le_of_ble_eq_true rfl), (Nat.le_of_ble_eq_true rfl)⟩ 0 (ci := 2) rfl rfl [0, 1] [] rfl rfl rfl rfl (by decide) (Nat.le_of_ble_eq_true rfl) dX2_takeNumber_87 ⟨(Nat.le_of_ble_eq_true rfl), (Nat.le_of_ble_eq_true rfl)⟩ rfl (fun r w1 H locs hQ V => ?_)
              obtain ⟨p2_8, rfl, rfl, f_9⟩ := hQ
              have V : gW D T A s [(t0, .inr (2, [.int tf, .int (nI (cF p2_8)), .int (cP p2_8), .ref t1, .int (nI sz), .int (nI (cK p2_8.2.2.1)), .int (nI p2_8.1), .int (nI p2_8.2.1)])), (t1, .inl (T 3, 900, .inl tx))] H locs := V
              show W p l e _ s m args below meth c H locs _ _ _ (F0 m 90 ls [])
              refine lv_iload_n hx hb dX2_takeNumber_90 rfl (lv_at hl 1 rfl) ?_
              exact g_iret (Qr := (q_f_takeNumber T ft ps t0 lo hi tf t1 sz tx)) hC V ⟨(Nat.le_of_ble_eq_true rfl), (Nat.le_of_ble_eq_true rfl)⟩ ⟨wv, p2_8, rfl, rfl, (f_9.trans ((nx_c0 (by omega)).trans (tk_ok (cF_0.mp (by omega)).1 h9 (by rw [(hnu9 h9).1, ← hwv2]; assumption) (by rw [(hnu9 h9).1, ← hwv2]; assumption)).symm)), (fun _ => hwv2.trans (hnu9 h9).1.symm)⟩ dX2_takeNumber_91
            · skip
              rw [show (0 : Int32) = nI 0 from rfl] at c_7
              have c_7 := b_ne (by omega) (by omega) c_7
              refine lv_iconst (v := (nI 0)) hx hb dX2_takeNumber_84 (by decide +kernel) ?_
              exact g_iret (Qr := (q_f_takeNumber T ft ps t0 lo hi tf t1 sz tx)) hC V ⟨(Nat.le_of_ble_eq_true rfl), (Nat.le_of_ble_eq_true rfl)⟩ ⟨(nI 0), ps, rfl, rfl, (tk_w (fun q => absurd (cF_0.mpr ⟨q, fun r => by have := cK_2.mp (by assumption); omega⟩) (by omega))).symm, (fun h => absurd h (by omega))⟩ dX2_takeNumber_85
          · have V : gW D T A s [(t0, .inr (2, [.int tf, .int (nI (cF ps)), .int (cP ps), .ref t1, .int (nI sz), .int (nI (cK ps.2.2.1)), .int (nI ps.1), .int (nI ps.2.1)])), (t1, .inl (T 3, 900, .inl tx))] H locs := V _ [] rfl rfl rfl (by decide +kernel) rfl
            show W p l e _ s m args below meth c H locs _ _ _ (F0 m 69 ls [.int (nI 0)])
            refine lv_if_ne (tgt := 77) hx hb dX2_takeNumber_69 (by decide) (fun c => absurd (show (nI 0) = 0 by decide +kernel) c) (fun _ => ?_)
            refine lv_aload_n hx hb dX2_takeNumber_72 rfl (lv_at hl 2 rfl) ?_
            refine lv_iconst (v := (nI 3)) hx hb dX2_takeNumber_73 (by decide +kernel) ?_
            refine g_callVU (nA := 1) hC V hl.1 (f_fail l D T ps t0 3 tf t1 sz (by decide) hcF) w_317 w_319 w_s2 w_4 w_320 (by decide +kernel) rfl ⟨(Nat.le_of_ble_eq_true rfl), (Nat.le_of_ble_eq_true rfl)⟩ 0 (ci := 2) rfl rfl [0] rfl rfl (Nat.le_of_ble_eq_true rfl) dX2_takeNumber_74 ⟨(Nat.le_of_ble_eq_true rfl), (Nat.le_of_ble_eq_true rfl)⟩ rfl (fun r w1 H locs hQ V => ?_)
            obtain ⟨p2_10, rfl, rfl, f_11⟩ := hQ
            have V : gW D T A s [(t0, .inr (2, [.int tf, .int (nI (cF p2_10)), .int (cP p2_10), .ref t1, .int (nI sz), .int (nI (cK p2_10.2.2.1)), .int (nI p2_10.1), .int (nI p2_10.2.1)])), (t1, .inl (T 3, 900, .inl tx))] H locs := V _ [0] rfl rfl rfl (by decide +kernel) rfl
            show W p l e _ s m args below meth c H locs _ _ _ (F0 m 77 ls [])
            have hwp2_10 : ¬ cF p2_10 = 0 := by rw [f_11]; exact fa_cF (by decide)
            have hPp2_10 : PI ft sz p2_10 := by rw [f_11]; exact PI_fa h_p (by decide)
            obtain ⟨_, _, _, _, -⟩ := id hPp2_10
            have hcp2_10 := cF_le (p := p2_10) (by omega)
            refine lv_aload_n hx hb dX2_takeNumber_77 rfl (lv_at hl 2 rfl) ?_
            refine g_get hC V (ci := 2) uwX2 0 rfl rfl 1 (by decide) w_130 rfl rfl dX2_takeNumber_78 ?_
            refine lv_if_eq (tgt := 86) hx hb dX2_takeNumber_81 (by decide) (fun c_12 => ?_) (fun c_12 => ?_)
            · skip
              rw [show (0 : Int32) = nI 0 from rfl] at c_12
              have c_12 := b_eq (by omega) (by omega) c_12
              exact (by omega : False).elim
            · skip
              rw [show (0 : Int32) = nI 0 from rfl] at c_12
              have c_12 := b_ne (by omega) (by omega) c_12
              refine lv_iconst (v := (nI 0)) hx hb dX2_takeNumber_84 (by decide +kernel) ?_
              exact g_iret (Qr := (q_f_takeNumber T ft ps t0 lo hi tf t1 sz tx)) hC V ⟨(Nat.le_of_ble_eq_true rfl), (Nat.le_of_ble_eq_true rfl)⟩ ⟨(nI 0), p2_10, rfl, rfl, (f_11.trans (tk_3w (cK_2.mp (by omega)) (by rw [(hnu9 (cK_2.mp (by omega))).1, ← hwv2]; assumption))), (fun h => absurd h (by omega))⟩ dX2_takeNumber_85
        · skip
          have c_3 := b_ne (by omega) (by omega) c_3
          refine lv_aload_n hx hb dX2_takeNumber_55 rfl (lv_at hl 2 rfl) ?_
          refine lv_iconst (v := (nI 2)) hx hb dX2_takeNumber_56 (by decide +kernel) ?_
          refine g_callVU (nA := 1) hC V hl.1 (f_fail l D T ps t0 2 tf t1 sz (by decide) hcF) w_317 w_319 w_s2 w_4 w_320 (by decide +kernel) rfl ⟨(Nat.le_of_ble_eq_true rfl), (Nat.le_of_ble_eq_true rfl)⟩ 0 (ci := 2) rfl rfl [0] rfl rfl (Nat.le_of_ble_eq_true rfl) dX2_takeNumber_57 ⟨(Nat.le_of_ble_eq_true rfl), (Nat.le_of_ble_eq_true rfl)⟩ rfl (fun r w1 H locs hQ V => ?_)
          obtain ⟨p2_13, rfl, rfl, f_14⟩ := hQ
          have V : gW D T A s [(t0, .inr (2, [.int tf, .int (nI (cF p2_13)), .int (cP p2_13), .ref t1, .int (nI sz), .int (nI (cK p2_13.2.2.1)), .int (nI p2_13.1), .int (nI p2_13.2.1)])), (t1, .inl (T 3, 900, .inl tx))] H locs := V _ [0] rfl rfl rfl (by decide +kernel) rfl
          show W p l e _ s m args below meth c H locs _ _ _ (F0 m 60 ls [])
          have hwp2_13 : ¬ cF p2_13 = 0 := by rw [f_14]; exact fa_cF (by decide)
          have hPp2_13 : PI ft sz p2_13 := by rw [f_14]; exact PI_fa h_p (by decide)
          obtain ⟨_, _, _, _, -⟩ := id hPp2_13
          have hcp2_13 := cF_le (p := p2_13) (by omega)
          refine lv_goto (tgt := 77) hx hb dX2_takeNumber_60 (by decide) ?_
          refine lv_aload_n hx hb dX2_takeNumber_77 rfl (lv_at hl 2 rfl) ?_
          refine g_get hC V (ci := 2) uwX2 0 rfl rfl 1 (by decide) w_130 rfl rfl dX2_takeNumber_78 ?_
          refine lv_if_eq (tgt := 86) hx hb dX2_takeNumber_81 (by decide) (fun c_15 => ?_) (fun c_15 => ?_)
          · skip
            rw [show (0 : Int32) = nI 0 from rfl] at c_15
            have c_15 := b_eq (by omega) (by omega) c_15
            exact (by omega : False).elim
          · skip
            rw [show (0 : Int32) = nI 0 from rfl] at c_15
            have c_15 := b_ne (by omega) (by omega) c_15
            refine lv_iconst (v := (nI 0)) hx hb dX2_takeNumber_84 (by decide +kernel) ?_
            exact g_iret (Qr := (q_f_takeNumber T ft ps t0 lo hi tf t1 sz tx)) hC V ⟨(Nat.le_of_ble_eq_true rfl), (Nat.le_of_ble_eq_true rfl)⟩ ⟨(nI 0), p2_13, rfl, rfl, (f_14.trans (tk_2 (fun q => absurd (cK_2.mpr q.2) (by omega))).symm), (fun h => absurd h (by omega))⟩ dX2_takeNumber_85
      · skip
        have c_2 := b_eq (by omega) (by omega) c_2
        refine lv_iload hx hb dX2_takeNumber_16 (lv_at hl 0 rfl) ?_
        refine lv_aload_n hx hb dX2_takeNumber_18 rfl (lv_at hl 2 rfl) ?_
        refine g_get hC V (ci := 2) uwX2 0 rfl rfl 7 (by decide) w_138 rfl rfl dX2_takeNumber_19 ?_
        refine lv_icmp_ge (tgt := 47) hx hb dX2_takeNumber_22 (by decide) (fun c_16 => ?_) (fun c_16 => ?_)
        · skip
          have c_16 := b_le (by omega) (by omega) c_16
          refine lv_aload_n hx hb dX2_takeNumber_47 rfl (lv_at hl 2 rfl) ?_
          refine g_get hC V (ci := 2) uwX2 0 rfl rfl 5 (by decide) w_136 rfl rfl dX2_takeNumber_48 ?_
          refine lv_iconst (v := (nI 2)) hx hb dX2_takeNumber_51 (by decide +kernel) ?_
          refine lv_icmp_eq (tgt := 63) hx hb dX2_takeNumber_52 (by decide) (fun c_17 => ?_) (fun c_17 => ?_)
          · skip
            have c_17 := b_eq (by omega) (by omega) c_17
            have h9 := cK_2.mp c_17
            have hwv2 : wv = nuV ft ps.1 (ps.2.1 - ps.1) := by rw [hwv h9]; congr 1; have := cK_2.mpr h9; omega
            refine lv_iload_n hx hb dX2_takeNumber_63 rfl (lv_at hl 1 rfl) ?_
            refine lv_iload_n hx hb dX2_takeNumber_64 rfl (lv_at hl 3 rfl) ?_
            refine lv_iload_n hx hb dX2_takeNumber_65 rfl (lv_at hl 4 rfl) ?_
            refine g_callSNU (nA := 3) (host := RX7) hC V hl.1 (c_isWithin l D T wv lo hi) w_294 (List.mem_of_getElem? (i := 8) rfl) w_2 w_293 (by decide +kernel) rfl ⟨(Nat.le_of_ble_eq_true rfl), (Nat.le_of_ble_eq_true rfl)⟩ [] rfl rfl (Nat.le_of_ble_eq_true rfl) dX2_takeNumber_66 ⟨(Nat.le_of_ble_eq_true rfl), (Nat.le_of_ble_eq_true rfl)⟩ rfl (fun r w1 H locs hQ V => ?_)
            rcases hQ with ⟨rfl, rfl, f_18, f_19⟩ | ⟨rfl, rfl, f_20⟩
            · have V : gW D T A s [(t0, .inr (2, [.int tf, .int (nI (cF ps)), .int (cP ps), .ref t1, .int (nI sz), .int (nI (cK ps.2.2.1)), .int (nI ps.1), .int (nI ps.2.1)])), (t1, .inl (T 3, 900, .inl tx))] H locs := V _ [] rfl rfl rfl (by decide +kernel) rfl
              show W p l e _ s m args below meth c H locs _ _ _ (F0 m 69 ls [.int (nI 1)])
              refine lv_if_ne (tgt := 77) hx hb dX2_takeNumber_69 (by decide) (fun _ => ?_) (fun c => absurd (show (nI 1) = 0 from c) (by decide +kernel))
              refine lv_aload_n hx hb dX2_takeNumber_77 rfl (lv_at hl 2 rfl) ?_
              refine g_get hC V (ci := 2) uwX2 0 rfl rfl 1 (by decide) w_130 rfl rfl dX2_takeNumber_78 ?_
              refine lv_if_eq (tgt := 86) hx hb dX2_takeNumber_81 (by decide) (fun c_21 => ?_) (fun c_21 => ?_)
              · skip
                rw [show (0 : Int32) = nI 0 from rfl] at c_21
                have c_21 := b_eq (by omega) (by omega) c_21
                refine lv_aload_n hx hb dX2_takeNumber_86 rfl (lv_at hl 2 rfl) ?_
                refine g_callV (wr := []) (nA := 0) hC V hl.1 (f_nextToken l D T ft ps.2.2.2.1 ps.2.2.2.2.2 t0 tf (cF ps) (cP ps) t1 sz (nI (cK ps.2.2.1)) (nI ps.1) ps.2.1 tx (by first | assumption | omega) (by first | assumption | omega) (by omega) (by omega) (cP_0 (by omega))) w_309 w_311 w_s0 w_4 w_312 (by decide +kernel) rfl ⟨(Nat.le_of_ble_eq_true rfl), (Nat.le_of_ble_eq_true rfl)⟩ 0 (ci := 2) rfl rfl [0, 1] [] rfl rfl rfl rfl (by decide) (Nat.le_of_ble_eq_true rfl) dX2_takeNumber_87 ⟨(Nat.le_of_ble_eq_true rfl), (Nat.le_of_ble_eq_true rfl)⟩ rfl (fun r w1 H locs hQ V => ?_)
                obtain ⟨p2_22, rfl, rfl, f_23⟩ := hQ
                have V : gW D T A s [(t0, .inr (2, [.int tf, .int (nI (cF p2_22)), .int (cP p2_22), .ref t1, .int (nI sz), .int (nI (cK p2_22.2.2.1)), .int (nI p2_22.1), .int (nI p2_22.2.1)])), (t1, .inl (T 3, 900, .inl tx))] H locs := V
                show W p l e _ s m args below meth c H locs _ _ _ (F0 m 90 ls [])
                refine lv_iload_n hx hb dX2_takeNumber_90 rfl (lv_at hl 1 rfl) ?_
                exact g_iret (Qr := (q_f_takeNumber T ft ps t0 lo hi tf t1 sz tx)) hC V ⟨(Nat.le_of_ble_eq_true rfl), (Nat.le_of_ble_eq_true rfl)⟩ ⟨wv, p2_22, rfl, rfl, (f_23.trans ((nx_c0 (by omega)).trans (tk_ok (cF_0.mp (by omega)).1 h9 (by rw [(hnu9 h9).1, ← hwv2]; assumption) (by rw [(hnu9 h9).1, ← hwv2]; assumption)).symm)), (fun _ => hwv2.trans (hnu9 h9).1.symm)⟩ dX2_takeNumber_91
              · skip
                rw [show (0 : Int32) = nI 0 from rfl] at c_21
                have c_21 := b_ne (by omega) (by omega) c_21
                refine lv_iconst (v := (nI 0)) hx hb dX2_takeNumber_84 (by decide +kernel) ?_
                exact g_iret (Qr := (q_f_takeNumber T ft ps t0 lo hi tf t1 sz tx)) hC V ⟨(Nat.le_of_ble_eq_true rfl), (Nat.le_of_ble_eq_true rfl)⟩ ⟨(nI 0), ps, rfl, rfl, (tk_w (fun q => absurd (cF_0.mpr ⟨q, fun r => by have := cK_2.mp (by assumption); omega⟩) (by omega))).symm, (fun h => absurd h (by omega))⟩ dX2_takeNumber_85
            · have V : gW D T A s [(t0, .inr (2, [.int tf, .int (nI (cF ps)), .int (cP ps), .ref t1, .int (nI sz), .int (nI (cK ps.2.2.1)), .int (nI ps.1), .int (nI ps.2.1)])), (t1, .inl (T 3, 900, .inl tx))] H locs := V _ [] rfl rfl rfl (by decide +kernel) rfl
              show W p l e _ s m args below meth c H locs _ _ _ (F0 m 69 ls [.int (nI 0)])
              refine lv_if_ne (tgt := 77) hx hb dX2_takeNumber_69 (by decide) (fun c => absurd (show (nI 0) = 0 by decide +kernel) c) (fun _ => ?_)
              refine lv_aload_n hx hb dX2_takeNumber_72 rfl (lv_at hl 2 rfl) ?_
              refine lv_iconst (v := (nI 3)) hx hb dX2_takeNumber_73 (by decide +kernel) ?_
              refine g_callVU (nA := 1) hC V hl.1 (f_fail l D T ps t0 3 tf t1 sz (by decide) hcF) w_317 w_319 w_s2 w_4 w_320 (by decide +kernel) rfl ⟨(Nat.le_of_ble_eq_true rfl), (Nat.le_of_ble_eq_true rfl)⟩ 0 (ci := 2) rfl rfl [0] rfl rfl (Nat.le_of_ble_eq_true rfl) dX2_takeNumber_74 ⟨(Nat.le_of_ble_eq_true rfl), (Nat.le_of_ble_eq_true rfl)⟩ rfl (fun r w1 H locs hQ V => ?_)
              obtain ⟨p2_24, rfl, rfl, f_25⟩ := hQ
              have V : gW D T A s [(t0, .inr (2, [.int tf, .int (nI (cF p2_24)), .int (cP p2_24), .ref t1, .int (nI sz), .int (nI (cK p2_24.2.2.1)), .int (nI p2_24.1), .int (nI p2_24.2.1)])), (t1, .inl (T 3, 900, .inl tx))] H locs := V _ [0] rfl rfl rfl (by decide +kernel) rfl
              show W p l e _ s m args below meth c H locs _ _ _ (F0 m 77 ls [])
              have hwp2_24 : ¬ cF p2_24 = 0 := by rw [f_25]; exact fa_cF (by decide)
              have hPp2_24 : PI ft sz p2_24 := by rw [f_25]; exact PI_fa h_p (by decide)
              obtain ⟨_, _, _, _, -⟩ := id hPp2_24
              have hcp2_24 := cF_le (p := p2_24) (by omega)
              refine lv_aload_n hx hb dX2_takeNumber_77 rfl (lv_at hl 2 rfl) ?_
              refine g_get hC V (ci := 2) uwX2 0 rfl rfl 1 (by decide) w_130 rfl rfl dX2_takeNumber_78 ?_
              refine lv_if_eq (tgt := 86) hx hb dX2_takeNumber_81 (by decide) (fun c_26 => ?_) (fun c_26 => ?_)
              · skip
                rw [show (0 : Int32) = nI 0 from rfl] at c_26
                have c_26 := b_eq (by omega) (by omega) c_26
                exact (by omega : False).elim
              · skip
                rw [show (0 : Int32) = nI 0 from rfl] at c_26
                have c_26 := b_ne (by omega) (by omega) c_26
                refine lv_iconst (v := (nI 0)) hx hb dX2_takeNumber_84 (by decide +kernel) ?_
                exact g_iret (Qr := (q_f_takeNumber T ft ps t0 lo hi tf t1 sz tx)) hC V ⟨(Nat.le_of_ble_eq_true rfl), (Nat.le_of_ble_eq_true rfl)⟩ ⟨(nI 0), p2_24, rfl, rfl, (f_25.trans (tk_3w (cK_2.mp (by omega)) (by rw [(hnu9 (cK_2.mp (by omega))).1, ← hwv2]; assumption))), (fun h => absurd h (by omega))⟩ dX2_takeNumber_85
          · skip
            have c_17 := b_ne (by omega) (by omega) c_17
            refine lv_aload_n hx hb dX2_takeNumber_55 rfl (lv_at hl 2 rfl) ?_
            refine lv_iconst (v := (nI 2)) hx hb dX2_takeNumber_56 (by decide +kernel) ?_
            refine g_callVU (nA := 1) hC V hl.1 (f_fail l D T ps t0 2 tf t1 sz (by decide) hcF) w_317 w_319 w_s2 w_4 w_320 (by decide +kernel) rfl ⟨(Nat.le_of_ble_eq_true rfl), (Nat.le_of_ble_eq_true rfl)⟩ 0 (ci := 2) rfl rfl [0] rfl rfl (Nat.le_of_ble_eq_true rfl) dX2_takeNumber_57 ⟨(Nat.le_of_ble_eq_true rfl), (Nat.le_of_ble_eq_true rfl)⟩ rfl (fun r w1 H locs hQ V => ?_)
            obtain ⟨p2_27, rfl, rfl, f_28⟩ := hQ
            have V : gW D T A s [(t0, .inr (2, [.int tf, .int (nI (cF p2_27)), .int (cP p2_27), .ref t1, .int (nI sz), .int (nI (cK p2_27.2.2.1)), .int (nI p2_27.1), .int (nI p2_27.2.1)])), (t1, .inl (T 3, 900, .inl tx))] H locs := V _ [0] rfl rfl rfl (by decide +kernel) rfl
            show W p l e _ s m args below meth c H locs _ _ _ (F0 m 60 ls [])
            have hwp2_27 : ¬ cF p2_27 = 0 := by rw [f_28]; exact fa_cF (by decide)
            have hPp2_27 : PI ft sz p2_27 := by rw [f_28]; exact PI_fa h_p (by decide)
            obtain ⟨_, _, _, _, -⟩ := id hPp2_27
            have hcp2_27 := cF_le (p := p2_27) (by omega)
            refine lv_goto (tgt := 77) hx hb dX2_takeNumber_60 (by decide) ?_
            refine lv_aload_n hx hb dX2_takeNumber_77 rfl (lv_at hl 2 rfl) ?_
            refine g_get hC V (ci := 2) uwX2 0 rfl rfl 1 (by decide) w_130 rfl rfl dX2_takeNumber_78 ?_
            refine lv_if_eq (tgt := 86) hx hb dX2_takeNumber_81 (by decide) (fun c_29 => ?_) (fun c_29 => ?_)
            · skip
              rw [show (0 : Int32) = nI 0 from rfl] at c_29
              have c_29 := b_eq (by omega) (by omega) c_29
              exact (by omega : False).elim
            · skip
              rw [show (0 : Int32) = nI 0 from rfl] at c_29
              have c_29 := b_ne (by omega) (by omega) c_29
              refine lv_iconst (v := (nI 0)) hx hb dX2_takeNumber_84 (by decide +kernel) ?_
              exact g_iret (Qr := (q_f_takeNumber T ft ps t0 lo hi tf t1 sz tx)) hC V ⟨(Nat.le_of_ble_eq_true rfl), (Nat.le_of_ble_eq_true rfl)⟩ ⟨(nI 0), p2_27, rfl, rfl, (f_28.trans (tk_2 (fun q => absurd (cK_2.mpr q.2) (by omega))).symm), (fun h => absurd h (by omega))⟩ dX2_takeNumber_85
        · skip
          have c_16 := b_nle (by omega) (by omega) c_16
          refine lv_bipush (v := (nI 10)) hx hb dX2_takeNumber_25 (by decide +kernel) ?_
          refine lv_iload_n hx hb dX2_takeNumber_27 rfl (lv_at hl 1 rfl) ?_
          refine lv_imul hx hb dX2_takeNumber_28 ?_
          refine lv_aload_n hx hb dX2_takeNumber_29 rfl (lv_at hl 2 rfl) ?_
          refine g_get hC V (ci := 2) uwX2 0 rfl rfl 3 (by decide) w_134 rfl rfl dX2_takeNumber_30 ?_
          refine lv_iload hx hb dX2_takeNumber_33 (lv_at hl 0 rfl) ?_
          refine g_bald hC V 1 rfl (vp_in_nI (by omega) (by omega)) (v := (tx at_)) (congrArg _ (nI_clamp (by omega))) dX2_takeNumber_35 ?_
          refine lv_iadd hx hb dX2_takeNumber_36 ?_
          refine lv_bipush (v := (nI 48)) hx hb dX2_takeNumber_37 (by decide +kernel) ?_
          refine lv_isub hx hb dX2_takeNumber_39 ?_
          refine lv_istore_n (lv' := [(3, .int ((((nI 10) * wv) + (tx at_)) - (nI 48))), (4, .int (nI at_)), (0, .ref t0), (1, .int lo), (2, .int hi)]) hx hb dX2_takeNumber_40 rfl hl (by decide) rfl (fun ls hl => ?_)
          refine lv_iinc (v := (nI (at_ + 1))) (lv' := [(4, .int (nI (at_ + 1))), (3, .int ((((nI 10) * wv) + (tx at_)) - (nI 48))), (0, .ref t0), (1, .int lo), (2, .int hi)]) hx hb dX2_takeNumber_41 hl (k := 1) rfl (nI_1 _) (by decide) rfl (fun ls hl => ?_)
          refine lv_goto (tgt := 8) hx hb dX2_takeNumber_44 (by decide) ?_
          exact ih_8 (at_ + 1) ((((nI 10) * wv) + (tx at_)) - (nI 48)) (by omega) (by omega) (fun h9 => nu_c h_tx h_p h9 (by omega) (by omega) (hwv h9)) (by omega) _ _ _ V (lv_sub hl [0, 1, 2, 3, 4] rfl)
  exact L_1 _ ps.1 (nI 0) (by omega) (by omega) (fun _ => by rw [Nat.sub_self]; rfl) (Nat.lt_succ_self _) _ _ _ V (lv_sub hl [0, 1, 2, 3, 4] rfl)

def q_f_takeOption (T : Nat → ClassId) (si : Nat) (ft : Nat → Int32) (ps : PS) (t0 : Nat) (lo : Int32) (hi : Int32) (wo : Int32) (tf : Int32) (t1 : Nat) (sz : Nat) (tx : Nat → Int32) : Option Value → va_W → Prop := fun rr ww => (∃ (z : Int32) (p2 : PS), rr = some (.int z) ∧ ww = [(t0, .inr (2, [.int tf, .int (nI (cF p2)), .int (cP p2), .ref t1, .int (nI sz), .int (nI (cK p2.2.2.1)), .int (nI p2.1), .int (nI p2.2.1)])), (t1, .inl (T 3, 900, .inl tx))] ∧ p2 = tiS ft sz si lo hi ps ∧ (cF p2 = 0 → z = tiV ft sz si wo ps))
set_option maxHeartbeats 4000000 in
set_option maxRecDepth 100000 in
theorem f_takeOption (l : Launch) (D : va_G) (T : Nat → ClassId) (si : Nat) (ft : Nat → Int32) (ps : PS) (t0 : Nat) (lo : Int32) (hi : Int32) (wo : Int32) (tf : Int32) (t1 : Nat) (sz : Nat) (tx : Nat → Int32) (h_sz : sz ≤ 900) (h_tx : TXT sz tx ft) (h_p : PI ft sz ps) (h_i : si < 8) : Ct l yX2_takeOption cX2_takeOption 5 (some .int) 5 0 0 D T [.ref t0, .ref (D.2 9 si), .int lo, .int hi, .int wo] [(t0, .inr (2, [.int tf, .int (nI (cF ps)), .int (cP ps), .ref t1, .int (nI sz), .int (nI (cK ps.2.2.1)), .int (nI ps.1), .int (nI ps.2.1)])), (t1, .inl (T 3, 900, .inl tx))] (q_f_takeOption T si ft ps t0 lo hi wo tf t1 sz tx) := by
  refine Ct.of (cc := cX2_takeOption) (maxL := 5) (ret := (some .int)) (by decide) (Nat.le_of_ble_eq_true rfl) ?_
  intro p e s m args below meth c A ls hC hnm V hl
  obtain ⟨hx, hb, hr, hml, hown, hts, hlocks⟩ := id hC
  generalize hH : s.heap = H at V ⊢
  clear hH
  have hl : lv_has ls 5 [(0, .ref t0), (1, .ref (D.2 9 si)), (2, .int lo), (3, .int hi), (4, .int wo)] := hl
  generalize hlo : ([] : List Loc) = locs at V ⊢
  clear hlo
  obtain ⟨_, _, _, _, -⟩ := id h_p
  have hcF := cF_le (p := ps) (by omega)
  have hcK := cK_le ps.2.2.1
  refine lv_aload_n hx hb dX2_takeOption_0 rfl (lv_at hl 0 rfl) ?_
  refine g_get hC V (ci := 2) uwX2 0 rfl rfl 1 (by decide) w_130 rfl rfl dX2_takeOption_1 ?_
  refine lv_if_ne (tgt := 15) hx hb dX2_takeOption_4 (by decide) (fun c_1 => ?_) (fun c_1 => ?_)
  · skip
    rw [show (0 : Int32) = nI 0 from rfl] at c_1
    have c_1 := b_ne (by omega) (by omega) c_1
    refine lv_iload hx hb dX2_takeOption_15 (lv_at hl 4 rfl) ?_
    exact g_iret (Qr := (q_f_takeOption T si ft ps t0 lo hi wo tf t1 sz tx)) hC V ⟨(Nat.le_of_ble_eq_true rfl), (Nat.le_of_ble_eq_true rfl)⟩ ⟨wo, ps, rfl, rfl, (ti_n (fun q => c_1 (cF_0.mpr ⟨q.1, by omega⟩))).symm, (fun _ => (tv_n (fun q => c_1 (cF_0.mpr ⟨q.1, by omega⟩))).symm)⟩ dX2_takeOption_17
  · skip
    rw [show (0 : Int32) = nI 0 from rfl] at c_1
    have c_1 := b_eq (by omega) (by omega) c_1
    refine lv_aload_n hx hb dX2_takeOption_7 rfl (lv_at hl 0 rfl) ?_
    refine lv_aload_n hx hb dX2_takeOption_8 rfl (lv_at hl 1 rfl) ?_
    refine g_callV (wr := []) (nA := 1) hC V hl.1 (f_isWord l D T si ft ps t0 tf t1 sz tx (by first | assumption | omega) (by first | assumption | omega) (by first | assumption | omega) (by first | assumption | omega)) w_322 w_324 w_s3 w_4 w_325 (by decide +kernel) rfl ⟨(Nat.le_of_ble_eq_true rfl), (Nat.le_of_ble_eq_true rfl)⟩ 0 (ci := 2) rfl rfl [0, 1] [] rfl rfl rfl rfl (by decide) (Nat.le_of_ble_eq_true rfl) dX2_takeOption_9 ⟨(Nat.le_of_ble_eq_true rfl), (Nat.le_of_ble_eq_true rfl)⟩ rfl (fun r w1 H locs hQ V => ?_)
    rcases hQ with ⟨rfl, rfl, f_2⟩ | ⟨rfl, rfl, f_3⟩
    · have V : gW D T A s [(t0, .inr (2, [.int tf, .int (nI (cF ps)), .int (cP ps), .ref t1, .int (nI sz), .int (nI (cK ps.2.2.1)), .int (nI ps.1), .int (nI ps.2.1)])), (t1, .inl (T 3, 900, .inl tx))] H locs := V
      show W p l e _ s m args below meth c H locs _ _ _ (F0 m 12 ls [.int (nI 1)])
      have hki := f_2
      refine lv_if_ne (tgt := 18) hx hb dX2_takeOption_12 (by decide) (fun _ => ?_) (fun c => absurd (show (nI 1) = 0 from c) (by decide +kernel))
      refine lv_aload_n hx hb dX2_takeOption_18 rfl (lv_at hl 0 rfl) ?_
      refine g_callV (wr := []) (nA := 0) hC V hl.1 (f_nextToken l D T ft ps.2.2.2.1 ps.2.2.2.2.2 t0 tf (cF ps) (cP ps) t1 sz (nI (cK ps.2.2.1)) (nI ps.1) ps.2.1 tx (by first | assumption | omega) (by first | assumption | omega) (by omega) (by omega) (cP_0 (by omega))) w_309 w_311 w_s0 w_4 w_312 (by decide +kernel) rfl ⟨(Nat.le_of_ble_eq_true rfl), (Nat.le_of_ble_eq_true rfl)⟩ 0 (ci := 2) rfl rfl [0, 1] [] rfl rfl rfl rfl (by decide) (Nat.le_of_ble_eq_true rfl) dX2_takeOption_19 ⟨(Nat.le_of_ble_eq_true rfl), (Nat.le_of_ble_eq_true rfl)⟩ rfl (fun r w1 H locs hQ V => ?_)
      obtain ⟨p2_4, rfl, rfl, f_5⟩ := hQ
      have V : gW D T A s [(t0, .inr (2, [.int tf, .int (nI (cF p2_4)), .int (cP p2_4), .ref t1, .int (nI sz), .int (nI (cK p2_4.2.2.1)), .int (nI p2_4.1), .int (nI p2_4.2.1)])), (t1, .inl (T 3, 900, .inl tx))] H locs := V
      show W p l e _ s m args below meth c H locs _ _ _ (F0 m 22 ls [])
      have hPp2_4 : PI ft sz p2_4 := by rw [f_5, nx_c0 (by omega)]; exact PI_nxI h_p
      obtain ⟨_, _, _, _, -⟩ := id hPp2_4
      refine lv_aload_n hx hb dX2_takeOption_22 rfl (lv_at hl 0 rfl) ?_
      refine lv_iload_n hx hb dX2_takeOption_23 rfl (lv_at hl 2 rfl) ?_
      refine lv_iload_n hx hb dX2_takeOption_24 rfl (lv_at hl 3 rfl) ?_
      refine g_callV (wr := []) (nA := 2) hC V hl.1 (f_takeNumber l D T ft p2_4 t0 lo hi tf t1 sz tx (by first | assumption | omega) (by first | assumption | omega) (by first | assumption | omega)) w_378 w_380 w_s5 w_4 w_381 (by decide +kernel) rfl ⟨(Nat.le_of_ble_eq_true rfl), (Nat.le_of_ble_eq_true rfl)⟩ 0 (ci := 2) rfl rfl [0, 1] [] rfl rfl rfl rfl (by decide) (Nat.le_of_ble_eq_true rfl) dX2_takeOption_25 ⟨(Nat.le_of_ble_eq_true rfl), (Nat.le_of_ble_eq_true rfl)⟩ rfl (fun r w1 H locs hQ V => ?_)
      obtain ⟨z_6, p2_7, rfl, rfl, f_8, f_9⟩ := hQ
      have V : gW D T A s [(t0, .inr (2, [.int tf, .int (nI (cF p2_7)), .int (cP p2_7), .ref t1, .int (nI sz), .int (nI (cK p2_7.2.2.1)), .int (nI p2_7.1), .int (nI p2_7.2.1)])), (t1, .inl (T 3, 900, .inl tx))] H locs := V
      show W p l e _ s m args below meth c H locs _ _ _ (F0 m 28 ls [.int z_6])
      exact g_iret (Qr := (q_f_takeOption T si ft ps t0 lo hi wo tf t1 sz tx)) hC V ⟨(Nat.le_of_ble_eq_true rfl), (Nat.le_of_ble_eq_true rfl)⟩ ⟨z_6, p2_7, rfl, rfl, (by rw [ti_y (cF_0.mp (by omega)).1 hki, f_8, f_5, nx_c0 (by omega)]), (fun h => by rw [tv_y (cF_0.mp (by omega)).1 hki, f_9 h, f_5, nx_c0 (by omega)])⟩ dX2_takeOption_28
    · have V : gW D T A s [(t0, .inr (2, [.int tf, .int (nI (cF ps)), .int (cP ps), .ref t1, .int (nI sz), .int (nI (cK ps.2.2.1)), .int (nI ps.1), .int (nI ps.2.1)])), (t1, .inl (T 3, 900, .inl tx))] H locs := V
      show W p l e _ s m args below meth c H locs _ _ _ (F0 m 12 ls [.int (nI 0)])
      refine lv_if_ne (tgt := 18) hx hb dX2_takeOption_12 (by decide) (fun c => absurd (show (nI 0) = 0 by decide +kernel) c) (fun _ => ?_)
      refine lv_iload hx hb dX2_takeOption_15 (lv_at hl 4 rfl) ?_
      exact g_iret (Qr := (q_f_takeOption T si ft ps t0 lo hi wo tf t1 sz tx)) hC V ⟨(Nat.le_of_ble_eq_true rfl), (Nat.le_of_ble_eq_true rfl)⟩ ⟨wo, ps, rfl, rfl, (ti_n (fun q => f_3 q.2)).symm, (fun _ => (tv_n (fun q => f_3 q.2)).symm)⟩ dX2_takeOption_17

def q_f_endLine (T : Nat → ClassId) (ft : Nat → Int32) (ps : PS) (t0 : Nat) (a0 : Nat) (tf : Int32) (t1 : Nat) (sz : Nat) (tx : Nat → Int32) (an : Int32) (am : Int32) (al : Int32) (ao : Int32) (au : Int32) (a1 : Nat) (a2 : Nat) (a3 : Nat) (a4 : Nat) (a5 : Nat) (a6 : Nat) (a7 : Nat) (a8 : Nat) (a9 : Nat) (a10 : Nat) : Option Value → va_W → Prop := fun rr ww => (∃ (p2 : PS) (ll : Int32), rr = none ∧ ww = [(t0, .inr (2, [.int tf, .int (nI (cF p2)), .int (cP p2), .ref t1, .int (nI sz), .int (nI (cK p2.2.2.1)), .int (nI p2.1), .int (nI p2.2.1)])), (t1, .inl (T 3, 900, .inl tx)), (a0, .inr (5, [.int an, .int am, .int ll, .int ao, .int au, .ref a1, .ref a2, .ref a3, .ref a4, .ref a5, .ref a6, .ref a7, .ref a8, .ref a9, .ref a10]))] ∧ p2 = edS ft sz ps ∧ (cF p2 = 0 → ll = al + (nI 1)))
set_option maxHeartbeats 4000000 in
set_option maxRecDepth 100000 in
theorem f_endLine (l : Launch) (D : va_G) (T : Nat → ClassId) (ft : Nat → Int32) (ps : PS) (t0 : Nat) (a0 : Nat) (tf : Int32) (t1 : Nat) (sz : Nat) (tx : Nat → Int32) (an : Int32) (am : Int32) (al : Int32) (ao : Int32) (au : Int32) (a1 : Nat) (a2 : Nat) (a3 : Nat) (a4 : Nat) (a5 : Nat) (a6 : Nat) (a7 : Nat) (a8 : Nat) (a9 : Nat) (a10 : Nat) (h_sz : sz ≤ 900) (h_tx : TXT sz tx ft) (h_p : PI ft sz ps) : Ct l yX2_endLine cX2_endLine 2 none 2 0 0 D T [.ref t0, .ref a0] [(t0, .inr (2, [.int tf, .int (nI (cF ps)), .int (cP ps), .ref t1, .int (nI sz), .int (nI (cK ps.2.2.1)), .int (nI ps.1), .int (nI ps.2.1)])), (t1, .inl (T 3, 900, .inl tx)), (a0, .inr (5, [.int an, .int am, .int al, .int ao, .int au, .ref a1, .ref a2, .ref a3, .ref a4, .ref a5, .ref a6, .ref a7, .ref a8, .ref a9, .ref a10]))] (q_f_endLine T ft ps t0 a0 tf t1 sz tx an am al ao au a1 a2 a3 a4 a5 a6 a7 a8 a9 a10) := by
  refine Ct.of (cc := cX2_endLine) (maxL := 2) (ret := none) (by decide) (Nat.le_of_ble_eq_true rfl) ?_
  intro p e s m args below meth c A ls hC hnm V hl
  obtain ⟨hx, hb, hr, hml, hown, hts, hlocks⟩ := id hC
  generalize hH : s.heap = H at V ⊢
  clear hH
  have hl : lv_has ls 2 [(0, .ref t0), (1, .ref a0)] := hl
  generalize hlo : ([] : List Loc) = locs at V ⊢
  clear hlo
  obtain ⟨_, _, _, _, -⟩ := id h_p
  have hcF := cF_le (p := ps) (by omega)
  have hcK := cK_le ps.2.2.1
  refine lv_aload_n hx hb dX2_endLine_0 rfl (lv_at hl 0 rfl) ?_
  refine g_get hC V (ci := 2) uwX2 0 rfl rfl 5 (by decide) w_136 rfl rfl dX2_endLine_1 ?_
  refine lv_iconst (v := (nI 3)) hx hb dX2_endLine_4 (by decide +kernel) ?_
  refine lv_icmp_eq (tgt := 13) hx hb dX2_endLine_5 (by decide) (fun c_1 => ?_) (fun c_1 => ?_)
  · skip
    have c_1 := b_eq (by omega) (by omega) c_1
    refine lv_aload_n hx hb dX2_endLine_13 rfl (lv_at hl 0 rfl) ?_
    refine g_get hC V (ci := 2) uwX2 0 rfl rfl 1 (by decide) w_130 rfl rfl dX2_endLine_14 ?_
    refine lv_if_ne (tgt := 34) hx hb dX2_endLine_17 (by decide) (fun c_2 => ?_) (fun c_2 => ?_)
    · skip
      rw [show (0 : Int32) = nI 0 from rfl] at c_2
      have c_2 := b_ne (by omega) (by omega) c_2
      exact g_vret (Qr := (q_f_endLine T ft ps t0 a0 tf t1 sz tx an am al ao au a1 a2 a3 a4 a5 a6 a7 a8 a9 a10)) hC V ⟨(Nat.le_of_ble_eq_true rfl), (Nat.le_of_ble_eq_true rfl)⟩ ⟨ps, al, rfl, rfl, (by have h10 := cK_3.mp (by assumption); have hw : ¬ ps.2.2.2.2.1 = 0 := fun q => absurd (cF_0.mpr ⟨q, by omega⟩) (by omega); rw [ed_n (fun q => hw q.1), fa_n0 hw]), (fun h => absurd h (by omega))⟩ dX2_endLine_34
    · skip
      rw [show (0 : Int32) = nI 0 from rfl] at c_2
      have c_2 := b_eq (by omega) (by omega) c_2
      refine lv_aload_n hx hb dX2_endLine_20 rfl (lv_at hl 1 rfl) ?_
      refine lv_dup hx hb dX2_endLine_21 rfl ?_
      refine g_get hC V (ci := 5) uwX5 2 rfl rfl 2 (by decide) w_44 rfl rfl dX2_endLine_22 ?_
      refine lv_iconst (v := (nI 1)) hx hb dX2_endLine_25 (by decide +kernel) ?_
      refine lv_iadd hx hb dX2_endLine_26 ?_
      refine g_put hC V (ci := 5) uwX5 tyX5 tyX5_ok nmX5 2 rfl rfl 2 (by decide) w_44 rfl rfl rfl rfl (Nat.le_of_ble_eq_true rfl) (ws' := [(t0, .inr (2, [.int tf, .int (nI (cF ps)), .int (cP ps), .ref t1, .int (nI sz), .int (nI (cK ps.2.2.1)), .int (nI ps.1), .int (nI ps.2.1)])), (t1, .inl (T 3, 900, .inl tx)), (a0, .inr (5, [.int an, .int am, .int (al + (nI 1)), .int ao, .int au, .ref a1, .ref a2, .ref a3, .ref a4, .ref a5, .ref a6, .ref a7, .ref a8, .ref a9, .ref a10]))]) rfl dX2_endLine_27 (fun H locs V => ?_)
      refine lv_aload_n hx hb dX2_endLine_30 rfl (lv_at hl 0 rfl) ?_
      refine g_callVU (nA := 0) hC V hl.1 (f_nextToken l D T ft ps.2.2.2.1 ps.2.2.2.2.2 t0 tf (cF ps) (cP ps) t1 sz (nI (cK ps.2.2.1)) (nI ps.1) ps.2.1 tx (by first | assumption | omega) (by first | assumption | omega) (by omega) (by omega) (cP_0 (by omega))) w_309 w_311 w_s0 w_4 w_312 (by decide +kernel) rfl ⟨(Nat.le_of_ble_eq_true rfl), (Nat.le_of_ble_eq_true rfl)⟩ 0 (ci := 2) rfl rfl [0, 1] rfl rfl (Nat.le_of_ble_eq_true rfl) dX2_endLine_31 ⟨(Nat.le_of_ble_eq_true rfl), (Nat.le_of_ble_eq_true rfl)⟩ rfl (fun r w1 H locs hQ V => ?_)
      obtain ⟨p2_3, rfl, rfl, f_4⟩ := hQ
      have V : gW D T A s [(t0, .inr (2, [.int tf, .int (nI (cF p2_3)), .int (cP p2_3), .ref t1, .int (nI sz), .int (nI (cK p2_3.2.2.1)), .int (nI p2_3.1), .int (nI p2_3.2.1)])), (t1, .inl (T 3, 900, .inl tx)), (a0, .inr (5, [.int an, .int am, .int (al + (nI 1)), .int ao, .int au, .ref a1, .ref a2, .ref a3, .ref a4, .ref a5, .ref a6, .ref a7, .ref a8, .ref a9, .ref a10]))] H locs := V _ [0, 0] rfl rfl rfl (by decide +kernel) rfl
      show W p l e _ s m args below meth c H locs _ _ _ (F0 m 34 ls [])
      exact g_vret (Qr := (q_f_endLine T ft ps t0 a0 tf t1 sz tx an am al ao au a1 a2 a3 a4 a5 a6 a7 a8 a9 a10)) hC V ⟨(Nat.le_of_ble_eq_true rfl), (Nat.le_of_ble_eq_true rfl)⟩ ⟨p2_3, (al + (nI 1)), rfl, rfl, (f_4.trans ((nx_c0 (by omega)).trans (ed_y (cF_0.mp (by omega)).1 (cK_3.mp (by omega))).symm)), (fun _ => rfl)⟩ dX2_endLine_34
  · skip
    have c_1 := b_ne (by omega) (by omega) c_1
    refine lv_aload_n hx hb dX2_endLine_8 rfl (lv_at hl 0 rfl) ?_
    refine lv_iconst (v := (nI 2)) hx hb dX2_endLine_9 (by decide +kernel) ?_
    refine g_callVU (nA := 1) hC V hl.1 (f_fail l D T ps t0 2 tf t1 sz (by decide) hcF) w_317 w_319 w_s2 w_4 w_320 (by decide +kernel) rfl ⟨(Nat.le_of_ble_eq_true rfl), (Nat.le_of_ble_eq_true rfl)⟩ 0 (ci := 2) rfl rfl [0] rfl rfl (Nat.le_of_ble_eq_true rfl) dX2_endLine_10 ⟨(Nat.le_of_ble_eq_true rfl), (Nat.le_of_ble_eq_true rfl)⟩ rfl (fun r w1 H locs hQ V => ?_)
    obtain ⟨p2_5, rfl, rfl, f_6⟩ := hQ
    have V : gW D T A s [(t0, .inr (2, [.int tf, .int (nI (cF p2_5)), .int (cP p2_5), .ref t1, .int (nI sz), .int (nI (cK p2_5.2.2.1)), .int (nI p2_5.1), .int (nI p2_5.2.1)])), (t1, .inl (T 3, 900, .inl tx)), (a0, .inr (5, [.int an, .int am, .int al, .int ao, .int au, .ref a1, .ref a2, .ref a3, .ref a4, .ref a5, .ref a6, .ref a7, .ref a8, .ref a9, .ref a10]))] H locs := V _ [0] rfl rfl rfl (by decide +kernel) rfl
    show W p l e _ s m args below meth c H locs _ _ _ (F0 m 13 ls [])
    have hwp2_5 : ¬ cF p2_5 = 0 := by rw [f_6]; exact fa_cF (by decide)
    have hPp2_5 : PI ft sz p2_5 := by rw [f_6]; exact PI_fa h_p (by decide)
    obtain ⟨_, _, _, _, -⟩ := id hPp2_5
    have hcp2_5 := cF_le (p := p2_5) (by omega)
    refine lv_aload_n hx hb dX2_endLine_13 rfl (lv_at hl 0 rfl) ?_
    refine g_get hC V (ci := 2) uwX2 0 rfl rfl 1 (by decide) w_130 rfl rfl dX2_endLine_14 ?_
    refine lv_if_ne (tgt := 34) hx hb dX2_endLine_17 (by decide) (fun c_7 => ?_) (fun c_7 => ?_)
    · skip
      rw [show (0 : Int32) = nI 0 from rfl] at c_7
      have c_7 := b_ne (by omega) (by omega) c_7
      exact g_vret (Qr := (q_f_endLine T ft ps t0 a0 tf t1 sz tx an am al ao au a1 a2 a3 a4 a5 a6 a7 a8 a9 a10)) hC V ⟨(Nat.le_of_ble_eq_true rfl), (Nat.le_of_ble_eq_true rfl)⟩ ⟨p2_5, al, rfl, rfl, (f_6.trans (ed_n (fun q => absurd (cK_3.mpr q.2) (by omega))).symm), (fun h => absurd h (by omega))⟩ dX2_endLine_34
    · skip
      rw [show (0 : Int32) = nI 0 from rfl] at c_7
      have c_7 := b_eq (by omega) (by omega) c_7
      exact (by omega : False).elim

theorem sm5_eq {t : Nat → Int32} {sz : Nat} {p p4 : PS} {z4 : Int32} (e4 : p4 = sm4 t sz p) (hz : cF p4 = 0 → z4 = smLo t sz p) : tiS t sz 4 z4 (nI 200) p4 = sm5 t sz p := by
  by_cases c : cF p4 = 0
  · rw [hz c, e4]; rfl
  · rw [ti_ff (by decide) c]
    unfold sm5
    rw [← e4, ti_ff (by decide) c]
theorem sm_cF {t : Nat → Int32} {sz : Nat} {p : PS} (h : cF (sm6 t sz p) = 0) : cF (sm5 t sz p) = 0 ∧ cF (sm4 t sz p) = 0 ∧ cF (sm3 t sz p) = 0 ∧ cF (sm2 t sz p) = 0 ∧ cF (sm1 t sz p) = 0 := by
  have h5 := ti_cF (by decide) h
  have h4 := ti_cF (by decide) h5
  have h3 := ti_cF (by decide) h4
  have h2 := ti_cF (by decide) h3
  have h1 := ti_cF (by decide) h2
  exact ⟨h5, h4, h3, h2, h1⟩
theorem ed_cF {t : Nat → Int32} {sz : Nat} {p : PS} (h : cF (edS t sz p) = 0) : cF p = 0 := by
  by_cases c : p.2.2.2.2.1 = 0 ∧ p.2.2.1 = 10
  · exact cF_0.mpr ⟨c.1, by omega⟩
  · rw [ed_n c] at h; exact absurd h (fa_cF (by decide))
/-- the class's SMITHS so far are the numbers so far -/
def RF (n : Nat) (f b1 b2 b3 b4 b5 b6 b7 b9 : Nat → Int32) (lo li : Int32) : Prop := f 0 = nI n ∧ f 1 = nI 0 ∧ f 2 = lo ∧ f 3 = li ∧ (∀ i, i < n → b1 i = f (4 + i) ∧ b2 i = f (14 + i) ∧ b3 i = f (24 + i) ∧ b4 i = f (34 + i) ∧ b5 i = f (44 + i) ∧ b6 i = f (54 + i) ∧ b7 i = f (64 + i)) ∧ (∀ i, i < 10 → (b9 i = -1 ∧ f (84 + i) = nI 0) ∨ ∃ j, j < n ∧ b9 i = nI j ∧ f (84 + i) = nI (j + 1)) ∧ ∀ i, i < 10 → f (64 + i) = nI 0 ∧ f (74 + i) = nI 0
theorem RF_new {f b1 b2 b3 b4 b5 b6 b7 b9 : Nat → Int32} (h : ∀ i, i < 10 → b9 i = -1) : RF 0 (frI f) b1 b2 b3 b4 b5 b6 b7 b9 (nI 20) (nI 0) := by
  have e : ∀ j, j < 94 → j ≠ 2 → frI f j = nI 0 := fun j h1 h2 => by unfold frI; rw [if_pos h1, if_neg h2]
  refine ⟨e 0 (by decide) (by decide), e 1 (by decide) (by decide), ?_, e 3 (by decide) (by decide), fun i hi => absurd hi (Nat.not_lt_zero _), fun i hi => Or.inl ⟨h i hi, e _ (by omega) (by omega)⟩, fun i hi => ⟨e _ (by omega) (by omega), e _ (by omega) (by omega)⟩⟩
  unfold frI; rw [if_pos (by decide), if_pos rfl]
theorem RF_ln {n : Nat} {f b1 b2 b3 b4 b5 b6 b7 b9 : Nat → Int32} {lo li l2 : Int32} (h : RF n f b1 b2 b3 b4 b5 b6 b7 b9 lo li) (e : l2 = li + nI 1) : RF n (upd f 3 (f 3 + nI 1)) b1 b2 b3 b4 b5 b6 b7 b9 lo l2 := by
  obtain ⟨a0, a1, a2, a3, a4, a5, a6⟩ := h
  refine ⟨by rw [up_other (by decide)]; exact a0, by rw [up_other (by decide)]; exact a1, by rw [up_other (by decide)]; exact a2, by rw [up_same, a3, e], fun i hi => ?_, fun i hi => ?_, fun i hi => ?_⟩
  · rw [up_other (by omega), up_other (by omega), up_other (by omega), up_other (by omega), up_other (by omega), up_other (by omega), up_other (by omega)]; exact a4 i hi
  · rw [up_other (by omega)]; exact a5 i hi
  · rw [up_other (by omega), up_other (by omega)]; exact a6 i hi
theorem RF_bu {n : Nat} {f b1 b2 b3 b4 b5 b6 b7 b9 : Nat → Int32} {lo li x : Int32} (h : RF n f b1 b2 b3 b4 b5 b6 b7 b9 lo li) : RF n (upd f 2 x) b1 b2 b3 b4 b5 b6 b7 b9 x li := by
  obtain ⟨a0, a1, a2, a3, a4, a5, a6⟩ := h
  refine ⟨by rw [up_other (by decide)]; exact a0, by rw [up_other (by decide)]; exact a1, up_same, by rw [up_other (by decide)]; exact a3, fun i hi => ?_, fun i hi => ?_, fun i hi => ?_⟩
  · rw [up_other (by omega), up_other (by omega), up_other (by omega), up_other (by omega), up_other (by omega), up_other (by omega), up_other (by omega)]; exact a4 i hi
  · rw [up_other (by omega)]; exact a5 i hi
  · rw [up_other (by omega), up_other (by omega)]; exact a6 i hi
theorem RF_bl {n a b : Nat} {f b1 b2 b3 b4 b5 b6 b7 b9 : Nat → Int32} {lo li : Int32} (h : RF n f b1 b2 b3 b4 b5 b6 b7 b9 lo li) (hn : n ≤ 10) (ha : a < n) (hb : b < n) : RF n (upd f (84 + a) (nI (b + 1))) b1 b2 b3 b4 b5 b6 b7 (upd b9 a (nI b)) lo li := by
  obtain ⟨a0, a1, a2, a3, a4, a5, a6⟩ := h
  refine ⟨by rw [up_other (by omega)]; exact a0, by rw [up_other (by omega)]; exact a1, by rw [up_other (by omega)]; exact a2, by rw [up_other (by omega)]; exact a3, fun i hi => ?_, fun i hi => ?_, fun i hi => ?_⟩
  · rw [up_other (by omega), up_other (by omega), up_other (by omega), up_other (by omega), up_other (by omega), up_other (by omega), up_other (by omega)]; exact a4 i hi
  · by_cases c : i = a
    · subst c
      rw [up_same, up_same]
      exact Or.inr ⟨b, hb, rfl, rfl⟩
    · rw [up_other c, up_other (by omega)]; exact a5 i hi
  · rw [up_other (by omega), up_other (by omega)]; exact a6 i hi
theorem smU_at {t : Nat → Int32} {sz n : Nat} {p : PS} {f : Nat → Int32} (hn : n < 10) : (smU t sz n p f) 0 = nI (n + 1) ∧ (smU t sz n p f) (4 + n) = smBl t sz p ∧ (smU t sz n p f) (14 + n) = smCo t sz p ∧ (smU t sz n p f) (24 + n) = smHe t sz p ∧ (smU t sz n p f) (34 + n) = smLo t sz p ∧ (smU t sz n p f) (44 + n) = smHi t sz p ∧ (smU t sz n p f) (54 + n) = smPi t sz p ∧
    ∀ j, j ≠ 0 → j ≠ 4 + n → j ≠ 14 + n → j ≠ 24 + n → j ≠ 34 + n → j ≠ 44 + n → j ≠ 54 + n → (smU t sz n p f) j = f j := by
  unfold smU
  refine ⟨up_same, ?_, ?_, ?_, ?_, ?_, ?_, ?_⟩
  · rw [up_other (by omega), up_other (by omega), up_other (by omega), up_other (by omega), up_other (by omega), up_other (by omega), up_same]
  · rw [up_other (by omega), up_other (by omega), up_other (by omega), up_other (by omega), up_other (by omega), up_same]
  · rw [up_other (by omega), up_other (by omega), up_other (by omega), up_other (by omega), up_same]
  · rw [up_other (by omega), up_other (by omega), up_other (by omega), up_same]
  · rw [up_other (by omega), up_other (by omega), up_same]
  · rw [up_other (by omega), up_same]
  · intro j h0 h1 h2 h3 h4 h5 h6
    rw [up_other h0, up_other h6, up_other h5, up_other h4, up_other h3, up_other h2, up_other h1]
theorem RF_sm {t : Nat → Int32} {sz n : Nat} {p : PS} {f b1 b2 b3 b4 b5 b6 b7 b9 : Nat → Int32} {lo li : Int32} (h : RF n f b1 b2 b3 b4 b5 b6 b7 b9 lo li) (hn : n < 10) : RF (n + 1) (smU t sz n p f) (upd b1 n (smBl t sz p)) (upd b2 n (smCo t sz p)) (upd b3 n (smHe t sz p)) (upd b4 n (smLo t sz p)) (upd b5 n (smHi t sz p)) (upd b6 n (smPi t sz p)) (upd b7 n (nI 0)) b9 lo li := by
  obtain ⟨a0, a1, a2, a3, a4, a5, a6⟩ := h
  obtain ⟨u0, u1, u2, u3, u4, u5, u6, u7⟩ := smU_at (t := t) (sz := sz) (p := p) (f := f) hn
  refine ⟨u0, (u7 1 (by omega) (by omega) (by omega) (by omega) (by omega) (by omega) (by omega)).trans a1, (u7 2 (by omega) (by omega) (by omega) (by omega) (by omega) (by omega) (by omega)).trans a2, (u7 3 (by omega) (by omega) (by omega) (by omega) (by omega) (by omega) (by omega)).trans a3, fun i hi => ?_, fun i hi => ?_, fun i hi => ?_⟩
  · by_cases c : i = n
    · subst c
      rw [up_same, up_same, up_same, up_same, up_same, up_same, up_same, u1, u2, u3, u4, u5, u6, u7 (64 + i) (by omega) (by omega) (by omega) (by omega) (by omega) (by omega) (by omega), (a6 i hn).1]
      exact ⟨rfl, rfl, rfl, rfl, rfl, rfl, rfl⟩
    · rw [up_other c, up_other c, up_other c, up_other c, up_other c, up_other c, up_other c]
      rw [u7 (4 + i) (by omega) (by omega) (by omega) (by omega) (by omega) (by omega) (by omega), u7 (14 + i) (by omega) (by omega) (by omega) (by omega) (by omega) (by omega) (by omega), u7 (24 + i) (by omega) (by omega) (by omega) (by omega) (by omega) (by omega) (by omega), u7 (34 + i) (by omega) (by omega) (by omega) (by omega) (by omega) (by omega) (by omega), u7 (44 + i) (by omega) (by omega) (by omega) (by omega) (by omega) (by omega) (by omega), u7 (54 + i) (by omega) (by omega) (by omega) (by omega) (by omega) (by omega) (by omega), u7 (64 + i) (by omega) (by omega) (by omega) (by omega) (by omega) (by omega) (by omega)]
      exact a4 i (by omega)
  · rw [u7 (84 + i) (by omega) (by omega) (by omega) (by omega) (by omega) (by omega) (by omega)]
    exact (a5 i hi).imp id (fun ⟨j, q1, q2⟩ => ⟨j, by omega, q2⟩)
  · rw [u7 (64 + i) (by omega) (by omega) (by omega) (by omega) (by omega) (by omega) (by omega), u7 (74 + i) (by omega) (by omega) (by omega) (by omega) (by omega) (by omega) (by omega)]
    exact a6 i hi
/-- ropes that weren't told -/
def layV (n : Nat) (x : Int32) (i : Nat) : Int32 := if x = -1 then nI (if i + 1 < n then i + 1 else 0) else x
/-- a rope that was told; the street that was read -/
def BlE (t : Nat → Int32) (sz an : Nat) (p p2 : PS) (f9 g : Nat → Int32) : Prop := cF p2 = 0 → ∃ ja jb, ja < an ∧ jb < an ∧ (nxS t sz p).2.2.2.1 = nI ja ∧ (bl1 t sz an (nxS t sz p)).2.2.2.1 = nI jb ∧ g = upd f9 ja (nI jb)
def RsE (s : RLs) (n2 : Nat) (g1 g2 g3 g4 g5 g6 g7 g9 : Nat → Int32) (o3 l3 : Int32) : Prop := cF s.2.1 = 0 → n2 = s.1 ∧ n2 ≤ 10 ∧ ∃ c9, RF s.1 s.2.2 g1 g2 g3 g4 g5 g6 g7 c9 o3 l3 ∧ ∀ i, i < n2 → g9 i = layV n2 (c9 i) i
/-- the class stops reading -/
def cst (s : RLs) : Prop := ¬ cF s.2.1 = 0 ∨ s.2.1.2.2.1 = 11
theorem cst_of {s : RLs} (h : stp s) : cst s := h.imp (fun q r => q (cF_0.mp r).1) id
def FC (t : Nat → Int32) (sz : Nat) (s0 s : RLs) : Prop := ∃ K, s = itS t sz s0 K ∧ cst s ∧ ∀ j, j < K → ¬ cst (itS t sz s0 j)
theorem fc_fn {t : Nat → Int32} {sz : Nat} {s0 s : RLs} (h : FC t sz s0 s) : ∃ s2, FN t sz s0 s2 ∧ cF s.2.1 = s2.2.1.2.2.2.2.1 ∧ cP s.2.1 = stP s2 ∧ (cF s.2.1 = 0 → s2 = s) := by
  obtain ⟨K, e, hc, hj⟩ := h
  have hj2 : ∀ j, j < K → ¬ stp (itS t sz s0 j) := fun j q r => hj j q (cst_of r)
  by_cases hs : stp s
  · refine ⟨s, ⟨K, e, hs, hj2⟩, ?_, ?_, fun _ => rfl⟩
    · unfold cF
      by_cases c : s.2.1.2.2.2.2.1 = 0
      · rw [if_pos c, c]
        rcases hs with q | q
        · exact absurd c q
        · rw [if_neg (by omega)]
      · rw [if_neg c]
    · unfold cP stP
      by_cases c : s.2.1.2.2.2.2.1 = 0
      · rw [if_pos c, if_pos c]
        rcases hs with q | q
        · exact absurd c q
        · rw [if_neg (by omega)]
      · rw [if_neg c, if_neg c]
  · have hw : s.2.1.2.2.2.2.1 = 0 := Classical.byContradiction (fun q => hs (Or.inl q))
    have hk11 : ¬ s.2.1.2.2.1 = 11 := fun q => hs (Or.inr q)
    have hf : ¬ cF s.2.1 = 0 := hc.resolve_right hk11
    have h12 : s.2.1.2.2.1 = 12 := Classical.byContradiction (fun q => hf (cF_0.mpr ⟨hw, q⟩))
    have eA : lnA t sz s = (s.1, faS 2 s.2.1, s.2.2) := ln_no (n := s.1) (p := s.2.1) (f := s.2.2) (by omega) (by omega) (by omega)
    have eF := fa_12 (f := 2) hw h12
    have eS : (lnS t sz s).2.1 = faS 2 s.2.1 := by
      show edS t sz (lnA t sz s).2.1 = _
      rw [eA]
      show edS t sz (faS 2 s.2.1) = _
      rw [ed_n (fun q => fa_w (by decide) q.1), fa_n0 (fa_w (by decide))]
    have e1 : (lnS t sz s).2.1.2.2.2.2.1 = 1 := by rw [eS, eF]
    have e2 : (lnS t sz s).2.1.2.2.2.2.2 = nI s.2.1.1 := by rw [eS, eF]
    refine ⟨lnS t sz s, ⟨K + 1, by rw [e]; rfl, Or.inl (by rw [e1]; decide), fun j q => ?_⟩, ?_, ?_, fun q => absurd q hf⟩
    · by_cases c : j = K
      · rw [c, ← e]; exact hs
      · exact hj2 j (by omega)
    · rw [e1]; unfold cF; rw [if_pos hw, if_pos h12]
    · unfold cP stP; rw [if_pos hw, if_pos h12, if_neg (by rw [e1]; decide), e2]
theorem FN_one {t : Nat → Int32} {sz : Nat} {s0 s s2 : RLs} (h : FN t sz s0 s) (h2 : FN t sz s0 s2) : s = s2 := by
  obtain ⟨K, e, hs, hj⟩ := h
  obtain ⟨K2, e2, hs2, hj2⟩ := h2
  rcases Nat.lt_trichotomy K K2 with q | q | q
  · exact absurd (e ▸ hs) (hj2 K q)
  · rw [e, e2, q]
  · exact absurd (e2 ▸ hs2) (hj K2 q)
theorem lay_1 {n i : Nat} {x : Int32} (h : x = -1) (c : i + 1 < n) : nI (i + 1) = layV n x i := by unfold layV; rw [if_pos h, if_pos c]
theorem lay_2 {n i : Nat} {x : Int32} (h : x = -1) (c : ¬ i + 1 < n) : nI 0 = layV n x i := by unfold layV; rw [if_pos h, if_neg c]
theorem lay_3 {n i : Nat} {x : Int32} (h : ¬ x = -1) : x = layV n x i := by unfold layV; rw [if_neg h]
theorem m1_ne (j : Nat) (hj : j < 100) : ¬ nI j = -1 := by
  have H : ∀ j : Fin 100, ¬ nI j.1 = -1 := by decide +kernel
  exact H ⟨j, hj⟩
theorem lay_st {n i : Nat} {f : Nat → Int32} {x : Int32} (hi : i < n) (hn : n ≤ 10) (h : (x = -1 ∧ f (84 + i) = nI 0) ∨ ∃ j, j < n ∧ x = nI j ∧ f (84 + i) = nI (j + 1)) : layV n x i = stR n f i := by
  rcases h with ⟨h1, h2⟩ | ⟨j, h0, h1, h2⟩
  · rw [← stR_2 (n := n) h2 rfl]
    unfold layV; rw [if_pos h1]
    by_cases c : i + 1 < n
    · rw [if_pos c, Nat.mod_eq_of_lt c]
    · rw [if_neg c, show i + 1 = n by omega, Nat.mod_self]
  · rw [← stR_1 (n := n) h2 (by omega) (by omega), h1]
    unfold layV; rw [if_neg (m1_ne j (by omega))]
    rfl
/-- THE STREET as both have it -/
def SR (n : Nat) (m l o : Int32) (f1 f2 f3 f4 f5 f6 f7 f9 fa : Nat → Int32) : Prop := fa 0 = nI n ∧ fa 1 = m ∧ fa 2 = o ∧ fa 3 = l ∧ ∀ i, i < n → f1 i = fa (4 + i) ∧ f2 i = fa (14 + i) ∧ f3 i = fa (24 + i) ∧ f4 i = fa (34 + i) ∧ f5 i = fa (44 + i) ∧ f6 i = fa (54 + i) ∧ f7 i = fa (64 + i) ∧ f9 i = fa (84 + i)
theorem SR_st {s : RLs} {b1 b2 b3 b4 b5 b6 b7 b9 g9 fa : Nat → Int32} {lo li : Int32} (h : RF s.1 s.2.2 b1 b2 b3 b4 b5 b6 b7 b9 lo li) (hn : s.1 ≤ 10) (hw : s.2.1.2.2.2.2.1 = 0) (hg : ∀ i, i < s.1 → g9 i = layV s.1 (b9 i) i) : SR s.1 (nI 0) li lo b1 b2 b3 b4 b5 b6 b7 g9 (stG fa s) := by
  obtain ⟨a0, a1, a2, a3, a4, a5, a6⟩ := h
  have e : ∀ j, j < 84 → stG fa s j = s.2.2 j := fun j hj => by unfold stG; rw [if_pos ⟨hw, by omega⟩, if_neg (by omega)]
  refine ⟨(e 0 (by decide)).trans a0, (e 1 (by decide)).trans a1, (e 2 (by decide)).trans a2, (e 3 (by decide)).trans a3, fun i hi => ?_⟩
  obtain ⟨q1, q2, q3, q4, q5, q6, q7⟩ := a4 i hi
  refine ⟨q1.trans (e _ (by omega)).symm, q2.trans (e _ (by omega)).symm, q3.trans (e _ (by omega)).symm, q4.trans (e _ (by omega)).symm, q5.trans (e _ (by omega)).symm, q6.trans (e _ (by omega)).symm, q7.trans (e _ (by omega)).symm, ?_⟩
  rw [hg i hi, lay_st hi hn (a5 i (by omega))]
  unfold stG
  rw [if_pos ⟨hw, by omega⟩, if_pos (by omega), show 84 + i - 84 = i by omega]
theorem SR_cp {n : Nat} {m l o : Int32} {f1 f2 f3 f4 f5 f6 f7 f9 g1 g2 g3 g4 g5 g6 g7 g9 fa : Nat → Int32} (h : SR n m l o f1 f2 f3 f4 f5 f6 f7 f9 fa) (e1 : ∀ i, i < n → g1 i = f1 i) (e2 : ∀ i, i < n → g2 i = f2 i) (e3 : ∀ i, i < n → g3 i = f3 i) (e4 : ∀ i, i < n → g4 i = f4 i) (e5 : ∀ i, i < n → g5 i = f5 i) (e6 : ∀ i, i < n → g6 i = f6 i) (e7 : ∀ i, i < n → g7 i = f7 i) (e9 : ∀ i, i < n → g9 i = f9 i) : SR n m l o g1 g2 g3 g4 g5 g6 g7 g9 fa := by
  obtain ⟨a0, a1, a2, a3, a4⟩ := h
  refine ⟨a0, a1, a2, a3, fun i hi => ?_⟩
  rw [e1 i hi, e2 i hi, e3 i hi, e4 i hi, e5 i hi, e6 i hi, e7 i hi, e9 i hi]
  exact a4 i hi

theorem no_cst {t : Nat → Int32} {sz K n : Nat} {s0 : RLs} {p : PS} {f : Nat → Int32} (e : (n, p, f) = itS t sz s0 K) (h1 : cF p = 0) (h2 : ¬ p.2.2.1 = 11) (hj : ∀ j, j < K → ¬ cst (itS t sz s0 j)) : ∀ j, j < K + 1 → ¬ cst (itS t sz s0 j) := by
  intro j hjk
  by_cases c : j = K
  · rw [c, ← e]; exact fun q => q.elim (fun r => r h1) h2
  · exact hj j (by omega)
theorem cst_long {t : Nat → Int32} {sz K n n0 : Nat} {p p0 : PS} {f f0 : Nat → Int32} (_ : True) (hP0 : PI t sz p0) (e : (n, p, f) = itS t sz (n0, p0, f0) K) (hj : ∀ j, j < K → ¬ cst (itS t sz (n0, p0, f0) j)) (hK : sz < K) (hP : PI t sz p) : cst (n, p, f) := by
  have q := it_mv (s := (n0, p0, f0)) hP0 K (fun j h r => hj j h (cst_of r))
  rw [← e] at q
  rcases q with q | q
  · exact cst_of q
  · exfalso
    have h1 : p.2.1 ≤ sz := hP.2.1
    have h2 : p0.2.1 + K ≤ p.2.1 := q
    omega

theorem lv_s {n k : Nat} {f g : Nat → Int32} (h : ∀ i, i < k → g i = layV n (f i) i) (e : g k = f k) (c : ¬ g k = -1) : ∀ i, i < k + 1 → g i = layV n (f i) i := by
  intro i hi
  by_cases q : i = k
  · subst q; rw [← e]; exact lay_3 c
  · exact h i (by omega)
theorem lv_p {n k : Nat} {f g : Nat → Int32} {x : Int32} (h : ∀ i, i < k → g i = layV n (f i) i) (e : x = layV n (f k) k) : ∀ i, i < k + 1 → upd g k x i = layV n (f i) i := by
  intro i hi
  by_cases q : i = k
  · subst q; rw [up_same]; exact e
  · rw [up_other q]; exact h i (by omega)

def q_f_readSmith (T : Nat → ClassId) (ft : Nat → Int32) (ps : PS) (t0 : Nat) (a0 : Nat) (tf : Int32) (t1 : Nat) (sz : Nat) (tx : Nat → Int32) (an : Nat) (am : Int32) (al : Int32) (ao : Int32) (au : Int32) (a1 : Nat) (a2 : Nat) (a3 : Nat) (a4 : Nat) (a5 : Nat) (a6 : Nat) (a7 : Nat) (a8 : Nat) (a9 : Nat) (a10 : Nat) (af1 : Nat → Int32) (af2 : Nat → Int32) (af3 : Nat → Int32) (af4 : Nat → Int32) (af5 : Nat → Int32) (af6 : Nat → Int32) (af7 : Nat → Int32) (af8 : Nat → Int32) : Option Value → va_W → Prop := fun rr ww => (∃ (p2 : PS) (n2 : Nat) (g1 : Nat → Int32) (g2 : Nat → Int32) (g3 : Nat → Int32) (g4 : Nat → Int32) (g5 : Nat → Int32) (g6 : Nat → Int32) (g7 : Nat → Int32) (g8 : Nat → Int32), rr = none ∧ ww = [(t0, .inr (2, [.int tf, .int (nI (cF p2)), .int (cP p2), .ref t1, .int (nI sz), .int (nI (cK p2.2.2.1)), .int (nI p2.1), .int (nI p2.2.1)])), (t1, .inl (T 3, 900, .inl tx)), (a0, .inr (5, [.int (nI n2), .int am, .int al, .int ao, .int au, .ref a1, .ref a2, .ref a3, .ref a4, .ref a5, .ref a6, .ref a7, .ref a8, .ref a9, .ref a10])), (a1, .inl (T 0, 10, .inl g1)), (a2, .inl (T 0, 10, .inl g2)), (a3, .inl (T 0, 10, .inl g3)), (a4, .inl (T 0, 10, .inl g4)), (a5, .inl (T 0, 10, .inl g5)), (a6, .inl (T 0, 10, .inl g6)), (a7, .inl (T 0, 10, .inl g7)), (a8, .inl (T 0, 10, .inl g8))] ∧ p2 = smS ft sz an ps ∧ an ≤ n2 ∧ n2 ≤ 10 ∧ (cF p2 = 0 → an < 10) ∧ (cF p2 = 0 → n2 = an + 1) ∧ (cF p2 = 0 → g1 = upd af1 an (smBl ft sz ps)) ∧ (cF p2 = 0 → g2 = upd af2 an (smCo ft sz ps)) ∧ (cF p2 = 0 → g3 = upd af3 an (smHe ft sz ps)) ∧ (cF p2 = 0 → g4 = upd af4 an (smLo ft sz ps)) ∧ (cF p2 = 0 → g5 = upd af5 an (smHi ft sz ps)) ∧ (cF p2 = 0 → g6 = upd af6 an (smPi ft sz ps)) ∧ (cF p2 = 0 → g7 = upd af7 an (nI 0)) ∧ (cF p2 = 0 → g8 = upd af8 an (nI 0)))
set_option maxHeartbeats 4000000 in
set_option maxRecDepth 100000 in
theorem f_readSmith (l : Launch) (D : va_G) (T : Nat → ClassId) (ft : Nat → Int32) (ps : PS) (t0 : Nat) (a0 : Nat) (tf : Int32) (t1 : Nat) (sz : Nat) (tx : Nat → Int32) (an : Nat) (am : Int32) (al : Int32) (ao : Int32) (au : Int32) (a1 : Nat) (a2 : Nat) (a3 : Nat) (a4 : Nat) (a5 : Nat) (a6 : Nat) (a7 : Nat) (a8 : Nat) (a9 : Nat) (a10 : Nat) (af1 : Nat → Int32) (af2 : Nat → Int32) (af3 : Nat → Int32) (af4 : Nat → Int32) (af5 : Nat → Int32) (af6 : Nat → Int32) (af7 : Nat → Int32) (af8 : Nat → Int32) (h_sz : sz ≤ 900) (h_tx : TXT sz tx ft) (h_p : PI ft sz ps) (h_0 : cF ps = 0) (h_n : an ≤ 10) : Ct l yX2_readSmith cX2_readSmith 3 none 6 0 0 D T [.ref t0, .ref a0] [(t0, .inr (2, [.int tf, .int (nI (cF ps)), .int (cP ps), .ref t1, .int (nI sz), .int (nI (cK ps.2.2.1)), .int (nI ps.1), .int (nI ps.2.1)])), (t1, .inl (T 3, 900, .inl tx)), (a0, .inr (5, [.int (nI an), .int am, .int al, .int ao, .int au, .ref a1, .ref a2, .ref a3, .ref a4, .ref a5, .ref a6, .ref a7, .ref a8, .ref a9, .ref a10])), (a1, .inl (T 0, 10, .inl af1)), (a2, .inl (T 0, 10, .inl af2)), (a3, .inl (T 0, 10, .inl af3)), (a4, .inl (T 0, 10, .inl af4)), (a5, .inl (T 0, 10, .inl af5)), (a6, .inl (T 0, 10, .inl af6)), (a7, .inl (T 0, 10, .inl af7)), (a8, .inl (T 0, 10, .inl af8))] (q_f_readSmith T ft ps t0 a0 tf t1 sz tx an am al ao au a1 a2 a3 a4 a5 a6 a7 a8 a9 a10 af1 af2 af3 af4 af5 af6 af7 af8) := by
  refine Ct.of (cc := cX2_readSmith) (maxL := 3) (ret := none) (by decide) (Nat.le_of_ble_eq_true rfl) ?_
  intro p e s m args below meth c A ls hC hnm V hl
  obtain ⟨hx, hb, hr, hml, hown, hts, hlocks⟩ := id hC
  generalize hH : s.heap = H at V ⊢
  clear hH
  have hl : lv_has ls 3 [(0, .ref t0), (1, .ref a0)] := hl
  generalize hlo : ([] : List Loc) = locs at V ⊢
  clear hlo
  obtain ⟨_, _, _, _, -⟩ := id h_p
  have hcF := cF_le (p := ps) (by omega)
  have hcK := cK_le ps.2.2.1
  refine lv_aload_n hx hb dX2_readSmith_0 rfl (lv_at hl 1 rfl) ?_
  refine g_get hC V (ci := 5) uwX5 2 rfl rfl 0 (by decide) w_36 rfl rfl dX2_readSmith_1 ?_
  refine lv_istore_n (lv' := [(2, .int (nI an)), (0, .ref t0), (1, .ref a0)]) hx hb dX2_readSmith_4 rfl hl (by decide) rfl (fun ls hl => ?_)
  refine lv_iload_n hx hb dX2_readSmith_5 rfl (lv_at hl 0 rfl) ?_
  refine lv_bipush (v := (nI 10)) hx hb dX2_readSmith_6 (by decide +kernel) ?_
  refine lv_icmp_lt (tgt := 17) hx hb dX2_readSmith_8 (by decide) (fun c_1 => ?_) (fun c_1 => ?_)
  · skip
    have c_1 := b_lt (by omega) (by omega) c_1
    refine lv_aload_n hx hb dX2_readSmith_17 rfl (lv_at hl 1 rfl) ?_
    refine g_callVU (nA := 0) hC V hl.1 (f_nextToken l D T ft ps.2.2.2.1 ps.2.2.2.2.2 t0 tf (cF ps) (cP ps) t1 sz (nI (cK ps.2.2.1)) (nI ps.1) ps.2.1 tx (by first | assumption | omega) (by first | assumption | omega) (by omega) (by omega) (cP_0 (by omega))) w_309 w_311 w_s0 w_4 w_312 (by decide +kernel) rfl ⟨(Nat.le_of_ble_eq_true rfl), (Nat.le_of_ble_eq_true rfl)⟩ 0 (ci := 2) rfl rfl [0, 1] rfl rfl (Nat.le_of_ble_eq_true rfl) dX2_readSmith_18 ⟨(Nat.le_of_ble_eq_true rfl), (Nat.le_of_ble_eq_true rfl)⟩ rfl (fun r w1 H locs hQ V => ?_)
    obtain ⟨p2_2, rfl, rfl, f_3⟩ := hQ
    have V : gW D T A s [(t0, .inr (2, [.int tf, .int (nI (cF p2_2)), .int (cP p2_2), .ref t1, .int (nI sz), .int (nI (cK p2_2.2.2.1)), .int (nI p2_2.1), .int (nI p2_2.2.1)])), (t1, .inl (T 3, 900, .inl tx)), (a0, .inr (5, [.int (nI an), .int am, .int al, .int ao, .int au, .ref a1, .ref a2, .ref a3, .ref a4, .ref a5, .ref a6, .ref a7, .ref a8, .ref a9, .ref a10])), (a1, .inl (T 0, 10, .inl af1)), (a2, .inl (T 0, 10, .inl af2)), (a3, .inl (T 0, 10, .inl af3)), (a4, .inl (T 0, 10, .inl af4)), (a5, .inl (T 0, 10, .inl af5)), (a6, .inl (T 0, 10, .inl af6)), (a7, .inl (T 0, 10, .inl af7)), (a8, .inl (T 0, 10, .inl af8))] H locs := V _ [0, 0] rfl rfl rfl (by decide +kernel) rfl
    show W p l e _ s m args below meth c H locs _ _ _ (F0 m 21 ls [])
    have e0 : p2_2 = nxS ft sz ps := f_3.trans (nx_c0 (by omega))
    have hq0 : PI ft sz p2_2 := by rw [e0]; exact PI_nxI h_p
    obtain ⟨_, _, _, _, -⟩ := id hq0
    refine lv_aload_n hx hb dX2_readSmith_21 rfl (lv_at hl 2 rfl) ?_
    refine g_get hC V (ci := 5) uwX5 2 rfl rfl 5 (by decide) w_53 rfl rfl dX2_readSmith_22 ?_
    refine lv_iload_n hx hb dX2_readSmith_25 rfl (lv_at hl 0 rfl) ?_
    refine lv_aload_n hx hb dX2_readSmith_26 rfl (lv_at hl 1 rfl) ?_
    refine lv_iconst (v := (nI 0)) hx hb dX2_readSmith_27 (by decide +kernel) ?_
    refine lv_bipush (v := (nI 60)) hx hb dX2_readSmith_28 (by decide +kernel) ?_
    refine g_callVU (nA := 2) hC V hl.1 (f_takeNumber l D T ft p2_2 t0 (nI 0) (nI 60) tf t1 sz tx (by first | assumption | omega) (by first | assumption | omega) (by first | assumption | omega)) w_378 w_380 w_s5 w_4 w_381 (by decide +kernel) rfl ⟨(Nat.le_of_ble_eq_true rfl), (Nat.le_of_ble_eq_true rfl)⟩ 0 (ci := 2) rfl rfl [0, 1] rfl rfl (Nat.le_of_ble_eq_true rfl) dX2_readSmith_30 ⟨(Nat.le_of_ble_eq_true rfl), (Nat.le_of_ble_eq_true rfl)⟩ rfl (fun r w1 H locs hQ V => ?_)
    obtain ⟨z1, p1, rfl, rfl, f_4, f_5⟩ := hQ
    have V : gW D T A s [(t0, .inr (2, [.int tf, .int (nI (cF p1)), .int (cP p1), .ref t1, .int (nI sz), .int (nI (cK p1.2.2.1)), .int (nI p1.1), .int (nI p1.2.1)])), (t1, .inl (T 3, 900, .inl tx)), (a0, .inr (5, [.int (nI an), .int am, .int al, .int ao, .int au, .ref a1, .ref a2, .ref a3, .ref a4, .ref a5, .ref a6, .ref a7, .ref a8, .ref a9, .ref a10])), (a1, .inl (T 0, 10, .inl af1)), (a2, .inl (T 0, 10, .inl af2)), (a3, .inl (T 0, 10, .inl af3)), (a4, .inl (T 0, 10, .inl af4)), (a5, .inl (T 0, 10, .inl af5)), (a6, .inl (T 0, 10, .inl af6)), (a7, .inl (T 0, 10, .inl af7)), (a8, .inl (T 0, 10, .inl af8))] H locs := V _ [0, 0] rfl rfl rfl (by decide +kernel) rfl
    show W p l e _ s m args below meth c H locs _ _ _ (F0 m 33 ls [.int z1, .int (nI an), .ref a1])
    have v1 : cF p1 = 0 → z1 = smBl ft sz ps := fun h => by rw [f_5 h, e0]; rfl
    have e1 : p1 = sm1 ft sz ps := by rw [f_4, e0]; rfl
    have hq1 : PI ft sz p1 := by rw [f_4]; exact PI_tk hq0
    obtain ⟨_, _, _, _, -⟩ := id hq1
    have hcc1 := cF_le (p := p1) (by omega)
    refine g_iast hC V 3 rfl (vp_in_nI (by omega) (by omega)) (f' := (upd af1 an z1)) (by rw [nI_clamp (by omega)]) (ws' := [(t0, .inr (2, [.int tf, .int (nI (cF p1)), .int (cP p1), .ref t1, .int (nI sz), .int (nI (cK p1.2.2.1)), .int (nI p1.1), .int (nI p1.2.1)])), (t1, .inl (T 3, 900, .inl tx)), (a0, .inr (5, [.int (nI an), .int am, .int al, .int ao, .int au, .ref a1, .ref a2, .ref a3, .ref a4, .ref a5, .ref a6, .ref a7, .ref a8, .ref a9, .ref a10])), (a1, .inl (T 0, 10, .inl (upd af1 an z1))), (a2, .inl (T 0, 10, .inl af2)), (a3, .inl (T 0, 10, .inl af3)), (a4, .inl (T 0, 10, .inl af4)), (a5, .inl (T 0, 10, .inl af5)), (a6, .inl (T 0, 10, .inl af6)), (a7, .inl (T 0, 10, .inl af7)), (a8, .inl (T 0, 10, .inl af8))]) rfl dX2_readSmith_33 (fun H locs V => ?_)
    refine lv_aload_n hx hb dX2_readSmith_34 rfl (lv_at hl 2 rfl) ?_
    refine g_get hC V (ci := 5) uwX5 2 rfl rfl 6 (by decide) w_59 rfl rfl dX2_readSmith_35 ?_
    refine lv_iload_n hx hb dX2_readSmith_38 rfl (lv_at hl 0 rfl) ?_
    refine lv_aload_n hx hb dX2_readSmith_39 rfl (lv_at hl 1 rfl) ?_
    refine g_ldcS hC V 1 rfl dX2_readSmith_40 ?_
    refine lv_iconst (v := (nI 0)) hx hb dX2_readSmith_42 (by decide +kernel) ?_
    refine lv_bipush (v := (nI 30)) hx hb dX2_readSmith_43 (by decide +kernel) ?_
    refine lv_iconst (v := (nI 5)) hx hb dX2_readSmith_45 (by decide +kernel) ?_
    refine g_callVU (nA := 4) hC V hl.1 (f_takeOption l D T 1 ft p1 t0 (nI 0) (nI 30) (nI 5) tf t1 sz tx (by first | assumption | omega) (by first | assumption | omega) (by first | assumption | omega) (by first | assumption | omega)) w_384 w_386 w_s6 w_4 w_387 (by decide +kernel) rfl ⟨(Nat.le_of_ble_eq_true rfl), (Nat.le_of_ble_eq_true rfl)⟩ 0 (ci := 2) rfl rfl [0, 1] rfl rfl (Nat.le_of_ble_eq_true rfl) dX2_readSmith_46 ⟨(Nat.le_of_ble_eq_true rfl), (Nat.le_of_ble_eq_true rfl)⟩ rfl (fun r w1 H locs hQ V => ?_)
    obtain ⟨z2, p2_, rfl, rfl, f_6, f_7⟩ := hQ
    have V : gW D T A s [(t0, .inr (2, [.int tf, .int (nI (cF p2_)), .int (cP p2_), .ref t1, .int (nI sz), .int (nI (cK p2_.2.2.1)), .int (nI p2_.1), .int (nI p2_.2.1)])), (t1, .inl (T 3, 900, .inl tx)), (a0, .inr (5, [.int (nI an), .int am, .int al, .int ao, .int au, .ref a1, .ref a2, .ref a3, .ref a4, .ref a5, .ref a6, .ref a7, .ref a8, .ref a9, .ref a10])), (a1, .inl (T 0, 10, .inl (upd af1 an z1))), (a2, .inl (T 0, 10, .inl af2)), (a3, .inl (T 0, 10, .inl af3)), (a4, .inl (T 0, 10, .inl af4)), (a5, .inl (T 0, 10, .inl af5)), (a6, .inl (T 0, 10, .inl af6)), (a7, .inl (T 0, 10, .inl af7)), (a8, .inl (T 0, 10, .inl af8))] H locs := V _ [0, 0] rfl rfl rfl (by decide +kernel) rfl
    show W p l e _ s m args below meth c H locs _ _ _ (F0 m 49 ls [.int z2, .int (nI an), .ref a2])
    have v2 : cF p2_ = 0 → z2 = smCo ft sz ps := fun h => by rw [f_7 h, e1]; rfl
    have e2 : p2_ = sm2 ft sz ps := by rw [f_6, e1]; rfl
    have hq2 : PI ft sz p2_ := by rw [f_6]; exact PI_ti hq1
    obtain ⟨_, _, _, _, -⟩ := id hq2
    have hcc2 := cF_le (p := p2_) (by omega)
    refine g_iast hC V 4 rfl (vp_in_nI (by omega) (by omega)) (f' := (upd af2 an z2)) (by rw [nI_clamp (by omega)]) (ws' := [(t0, .inr (2, [.int tf, .int (nI (cF p2_)), .int (cP p2_), .ref t1, .int (nI sz), .int (nI (cK p2_.2.2.1)), .int (nI p2_.1), .int (nI p2_.2.1)])), (t1, .inl (T 3, 900, .inl tx)), (a0, .inr (5, [.int (nI an), .int am, .int al, .int ao, .int au, .ref a1, .ref a2, .ref a3, .ref a4, .ref a5, .ref a6, .ref a7, .ref a8, .ref a9, .ref a10])), (a1, .inl (T 0, 10, .inl (upd af1 an z1))), (a2, .inl (T 0, 10, .inl (upd af2 an z2))), (a3, .inl (T 0, 10, .inl af3)), (a4, .inl (T 0, 10, .inl af4)), (a5, .inl (T 0, 10, .inl af5)), (a6, .inl (T 0, 10, .inl af6)), (a7, .inl (T 0, 10, .inl af7)), (a8, .inl (T 0, 10, .inl af8))]) rfl dX2_readSmith_49 (fun H locs V => ?_)
    refine lv_aload_n hx hb dX2_readSmith_50 rfl (lv_at hl 2 rfl) ?_
    refine g_get hC V (ci := 5) uwX5 2 rfl rfl 7 (by decide) w_64 rfl rfl dX2_readSmith_51 ?_
    refine lv_iload_n hx hb dX2_readSmith_54 rfl (lv_at hl 0 rfl) ?_
    refine lv_aload_n hx hb dX2_readSmith_55 rfl (lv_at hl 1 rfl) ?_
    refine g_ldcS hC V 2 rfl dX2_readSmith_56 ?_
    refine lv_iconst (v := (nI 0)) hx hb dX2_readSmith_58 (by decide +kernel) ?_
    refine lv_sipush (v := (nI 200)) hx hb dX2_readSmith_59 (by decide +kernel) ?_
    refine lv_iconst (v := (nI 0)) hx hb dX2_readSmith_62 (by decide +kernel) ?_
    refine g_callVU (nA := 4) hC V hl.1 (f_takeOption l D T 2 ft p2_ t0 (nI 0) (nI 200) (nI 0) tf t1 sz tx (by first | assumption | omega) (by first | assumption | omega) (by first | assumption | omega) (by first | assumption | omega)) w_384 w_386 w_s6 w_4 w_387 (by decide +kernel) rfl ⟨(Nat.le_of_ble_eq_true rfl), (Nat.le_of_ble_eq_true rfl)⟩ 0 (ci := 2) rfl rfl [0, 1] rfl rfl (Nat.le_of_ble_eq_true rfl) dX2_readSmith_63 ⟨(Nat.le_of_ble_eq_true rfl), (Nat.le_of_ble_eq_true rfl)⟩ rfl (fun r w1 H locs hQ V => ?_)
    obtain ⟨z3, p3, rfl, rfl, f_8, f_9⟩ := hQ
    have V : gW D T A s [(t0, .inr (2, [.int tf, .int (nI (cF p3)), .int (cP p3), .ref t1, .int (nI sz), .int (nI (cK p3.2.2.1)), .int (nI p3.1), .int (nI p3.2.1)])), (t1, .inl (T 3, 900, .inl tx)), (a0, .inr (5, [.int (nI an), .int am, .int al, .int ao, .int au, .ref a1, .ref a2, .ref a3, .ref a4, .ref a5, .ref a6, .ref a7, .ref a8, .ref a9, .ref a10])), (a1, .inl (T 0, 10, .inl (upd af1 an z1))), (a2, .inl (T 0, 10, .inl (upd af2 an z2))), (a3, .inl (T 0, 10, .inl af3)), (a4, .inl (T 0, 10, .inl af4)), (a5, .inl (T 0, 10, .inl af5)), (a6, .inl (T 0, 10, .inl af6)), (a7, .inl (T 0, 10, .inl af7)), (a8, .inl (T 0, 10, .inl af8))] H locs := V _ [0, 0] rfl rfl rfl (by decide +kernel) rfl
    show W p l e _ s m args below meth c H locs _ _ _ (F0 m 66 ls [.int z3, .int (nI an), .ref a3])
    have v3 : cF p3 = 0 → z3 = smHe ft sz ps := fun h => by rw [f_9 h, e2]; rfl
    have e3 : p3 = sm3 ft sz ps := by rw [f_8, e2]; rfl
    have hq3 : PI ft sz p3 := by rw [f_8]; exact PI_ti hq2
    obtain ⟨_, _, _, _, -⟩ := id hq3
    have hcc3 := cF_le (p := p3) (by omega)
    refine g_iast hC V 5 rfl (vp_in_nI (by omega) (by omega)) (f' := (upd af3 an z3)) (by rw [nI_clamp (by omega)]) (ws' := [(t0, .inr (2, [.int tf, .int (nI (cF p3)), .int (cP p3), .ref t1, .int (nI sz), .int (nI (cK p3.2.2.1)), .int (nI p3.1), .int (nI p3.2.1)])), (t1, .inl (T 3, 900, .inl tx)), (a0, .inr (5, [.int (nI an), .int am, .int al, .int ao, .int au, .ref a1, .ref a2, .ref a3, .ref a4, .ref a5, .ref a6, .ref a7, .ref a8, .ref a9, .ref a10])), (a1, .inl (T 0, 10, .inl (upd af1 an z1))), (a2, .inl (T 0, 10, .inl (upd af2 an z2))), (a3, .inl (T 0, 10, .inl (upd af3 an z3))), (a4, .inl (T 0, 10, .inl af4)), (a5, .inl (T 0, 10, .inl af5)), (a6, .inl (T 0, 10, .inl af6)), (a7, .inl (T 0, 10, .inl af7)), (a8, .inl (T 0, 10, .inl af8))]) rfl dX2_readSmith_66 (fun H locs V => ?_)
    refine lv_aload_n hx hb dX2_readSmith_67 rfl (lv_at hl 2 rfl) ?_
    refine g_get hC V (ci := 5) uwX5 2 rfl rfl 8 (by decide) w_68 rfl rfl dX2_readSmith_68 ?_
    refine lv_iload_n hx hb dX2_readSmith_71 rfl (lv_at hl 0 rfl) ?_
    refine lv_aload_n hx hb dX2_readSmith_72 rfl (lv_at hl 1 rfl) ?_
    refine g_ldcS hC V 3 rfl dX2_readSmith_73 ?_
    refine lv_iconst (v := (nI 0)) hx hb dX2_readSmith_75 (by decide +kernel) ?_
    refine lv_sipush (v := (nI 200)) hx hb dX2_readSmith_76 (by decide +kernel) ?_
    refine lv_bipush (v := (nI 20)) hx hb dX2_readSmith_79 (by decide +kernel) ?_
    refine g_callVU (nA := 4) hC V hl.1 (f_takeOption l D T 3 ft p3 t0 (nI 0) (nI 200) (nI 20) tf t1 sz tx (by first | assumption | omega) (by first | assumption | omega) (by first | assumption | omega) (by first | assumption | omega)) w_384 w_386 w_s6 w_4 w_387 (by decide +kernel) rfl ⟨(Nat.le_of_ble_eq_true rfl), (Nat.le_of_ble_eq_true rfl)⟩ 0 (ci := 2) rfl rfl [0, 1] rfl rfl (Nat.le_of_ble_eq_true rfl) dX2_readSmith_81 ⟨(Nat.le_of_ble_eq_true rfl), (Nat.le_of_ble_eq_true rfl)⟩ rfl (fun r w1 H locs hQ V => ?_)
    obtain ⟨z4, p4, rfl, rfl, f_10, f_11⟩ := hQ
    have V : gW D T A s [(t0, .inr (2, [.int tf, .int (nI (cF p4)), .int (cP p4), .ref t1, .int (nI sz), .int (nI (cK p4.2.2.1)), .int (nI p4.1), .int (nI p4.2.1)])), (t1, .inl (T 3, 900, .inl tx)), (a0, .inr (5, [.int (nI an), .int am, .int al, .int ao, .int au, .ref a1, .ref a2, .ref a3, .ref a4, .ref a5, .ref a6, .ref a7, .ref a8, .ref a9, .ref a10])), (a1, .inl (T 0, 10, .inl (upd af1 an z1))), (a2, .inl (T 0, 10, .inl (upd af2 an z2))), (a3, .inl (T 0, 10, .inl (upd af3 an z3))), (a4, .inl (T 0, 10, .inl af4)), (a5, .inl (T 0, 10, .inl af5)), (a6, .inl (T 0, 10, .inl af6)), (a7, .inl (T 0, 10, .inl af7)), (a8, .inl (T 0, 10, .inl af8))] H locs := V _ [0, 0] rfl rfl rfl (by decide +kernel) rfl
    show W p l e _ s m args below meth c H locs _ _ _ (F0 m 84 ls [.int z4, .int (nI an), .ref a4])
    have v4 : cF p4 = 0 → z4 = smLo ft sz ps := fun h => by rw [f_11 h, e3]; rfl
    have e4 : p4 = sm4 ft sz ps := by rw [f_10, e3]; rfl
    have hq4 : PI ft sz p4 := by rw [f_10]; exact PI_ti hq3
    obtain ⟨_, _, _, _, -⟩ := id hq4
    have hcc4 := cF_le (p := p4) (by omega)
    refine g_iast hC V 6 rfl (vp_in_nI (by omega) (by omega)) (f' := (upd af4 an z4)) (by rw [nI_clamp (by omega)]) (ws' := [(t0, .inr (2, [.int tf, .int (nI (cF p4)), .int (cP p4), .ref t1, .int (nI sz), .int (nI (cK p4.2.2.1)), .int (nI p4.1), .int (nI p4.2.1)])), (t1, .inl (T 3, 900, .inl tx)), (a0, .inr (5, [.int (nI an), .int am, .int al, .int ao, .int au, .ref a1, .ref a2, .ref a3, .ref a4, .ref a5, .ref a6, .ref a7, .ref a8, .ref a9, .ref a10])), (a1, .inl (T 0, 10, .inl (upd af1 an z1))), (a2, .inl (T 0, 10, .inl (upd af2 an z2))), (a3, .inl (T 0, 10, .inl (upd af3 an z3))), (a4, .inl (T 0, 10, .inl (upd af4 an z4))), (a5, .inl (T 0, 10, .inl af5)), (a6, .inl (T 0, 10, .inl af6)), (a7, .inl (T 0, 10, .inl af7)), (a8, .inl (T 0, 10, .inl af8))]) rfl dX2_readSmith_84 (fun H locs V => ?_)
    refine lv_aload_n hx hb dX2_readSmith_85 rfl (lv_at hl 2 rfl) ?_
    refine g_get hC V (ci := 5) uwX5 2 rfl rfl 9 (by decide) w_71 rfl rfl dX2_readSmith_86 ?_
    refine lv_iload_n hx hb dX2_readSmith_89 rfl (lv_at hl 0 rfl) ?_
    refine lv_aload_n hx hb dX2_readSmith_90 rfl (lv_at hl 1 rfl) ?_
    refine g_ldcS hC V 4 rfl dX2_readSmith_91 ?_
    refine lv_aload_n hx hb dX2_readSmith_93 rfl (lv_at hl 2 rfl) ?_
    refine g_get hC V (ci := 5) uwX5 2 rfl rfl 8 (by decide) w_68 rfl rfl dX2_readSmith_94 ?_
    refine lv_iload_n hx hb dX2_readSmith_97 rfl (lv_at hl 0 rfl) ?_
    refine g_iald hC V 6 rfl (vp_in_nI (by omega) (by omega)) (v := z4) (by rw [nI_clamp (by omega), up_same]) dX2_readSmith_98 ?_
    refine lv_sipush (v := (nI 200)) hx hb dX2_readSmith_99 (by decide +kernel) ?_
    refine lv_bipush (v := (nI 100)) hx hb dX2_readSmith_102 (by decide +kernel) ?_
    refine lv_aload_n hx hb dX2_readSmith_104 rfl (lv_at hl 2 rfl) ?_
    refine g_get hC V (ci := 5) uwX5 2 rfl rfl 8 (by decide) w_68 rfl rfl dX2_readSmith_105 ?_
    refine lv_iload_n hx hb dX2_readSmith_108 rfl (lv_at hl 0 rfl) ?_
    refine g_iald hC V 6 rfl (vp_in_nI (by omega) (by omega)) (v := z4) (by rw [nI_clamp (by omega), up_same]) dX2_readSmith_109 ?_
    refine va_mmax hx hb (hml.trans hl.1.symm) hown (hts _ w_391) (hts _ w_392) (hts _ w_10) (hts _ w_393) (Nat.le_of_ble_eq_true rfl) (Nat.le_of_ble_eq_true rfl) (Nat.le_of_ble_eq_true rfl) (Nat.le_of_ble_eq_true rfl) dX2_readSmith_110 ?_
    refine g_callVU (nA := 4) hC V hl.1 (f_takeOption l D T 4 ft p4 t0 z4 (nI 200) (if (nI 100) < z4 then z4 else (nI 100)) tf t1 sz tx (by first | assumption | omega) (by first | assumption | omega) (by first | assumption | omega) (by first | assumption | omega)) w_384 w_386 w_s6 w_4 w_387 (by decide +kernel) rfl ⟨(Nat.le_of_ble_eq_true rfl), (Nat.le_of_ble_eq_true rfl)⟩ 0 (ci := 2) rfl rfl [0, 1] rfl rfl (Nat.le_of_ble_eq_true rfl) dX2_readSmith_113 ⟨(Nat.le_of_ble_eq_true rfl), (Nat.le_of_ble_eq_true rfl)⟩ rfl (fun r w1 H locs hQ V => ?_)
    obtain ⟨z5, p5, rfl, rfl, f_12, f_13⟩ := hQ
    have V : gW D T A s [(t0, .inr (2, [.int tf, .int (nI (cF p5)), .int (cP p5), .ref t1, .int (nI sz), .int (nI (cK p5.2.2.1)), .int (nI p5.1), .int (nI p5.2.1)])), (t1, .inl (T 3, 900, .inl tx)), (a0, .inr (5, [.int (nI an), .int am, .int al, .int ao, .int au, .ref a1, .ref a2, .ref a3, .ref a4, .ref a5, .ref a6, .ref a7, .ref a8, .ref a9, .ref a10])), (a1, .inl (T 0, 10, .inl (upd af1 an z1))), (a2, .inl (T 0, 10, .inl (upd af2 an z2))), (a3, .inl (T 0, 10, .inl (upd af3 an z3))), (a4, .inl (T 0, 10, .inl (upd af4 an z4))), (a5, .inl (T 0, 10, .inl af5)), (a6, .inl (T 0, 10, .inl af6)), (a7, .inl (T 0, 10, .inl af7)), (a8, .inl (T 0, 10, .inl af8))] H locs := V _ [0, 0] rfl rfl rfl (by decide +kernel) rfl
    show W p l e _ s m args below meth c H locs _ _ _ (F0 m 116 ls [.int z5, .int (nI an), .ref a5])
    have e5 : p5 = sm5 ft sz ps := f_12.trans (sm5_eq e4 v4)
    have v5 : cF p5 = 0 → z5 = smHi ft sz ps := fun h => by rw [f_13 h, v4 (ti_cF (by decide) (f_12 ▸ h)), e4]; rfl
    have hq5 : PI ft sz p5 := by rw [f_12]; exact PI_ti hq4
    obtain ⟨_, _, _, _, -⟩ := id hq5
    have hcc5 := cF_le (p := p5) (by omega)
    refine g_iast hC V 7 rfl (vp_in_nI (by omega) (by omega)) (f' := (upd af5 an z5)) (by rw [nI_clamp (by omega)]) (ws' := [(t0, .inr (2, [.int tf, .int (nI (cF p5)), .int (cP p5), .ref t1, .int (nI sz), .int (nI (cK p5.2.2.1)), .int (nI p5.1), .int (nI p5.2.1)])), (t1, .inl (T 3, 900, .inl tx)), (a0, .inr (5, [.int (nI an), .int am, .int al, .int ao, .int au, .ref a1, .ref a2, .ref a3, .ref a4, .ref a5, .ref a6, .ref a7, .ref a8, .ref a9, .ref a10])), (a1, .inl (T 0, 10, .inl (upd af1 an z1))), (a2, .inl (T 0, 10, .inl (upd af2 an z2))), (a3, .inl (T 0, 10, .inl (upd af3 an z3))), (a4, .inl (T 0, 10, .inl (upd af4 an z4))), (a5, .inl (T 0, 10, .inl (upd af5 an z5))), (a6, .inl (T 0, 10, .inl af6)), (a7, .inl (T 0, 10, .inl af7)), (a8, .inl (T 0, 10, .inl af8))]) rfl dX2_readSmith_116 (fun H locs V => ?_)
    refine lv_aload_n hx hb dX2_readSmith_117 rfl (lv_at hl 2 rfl) ?_
    refine lv_iload_n hx hb dX2_readSmith_118 rfl (lv_at hl 0 rfl) ?_
    refine lv_aload_n hx hb dX2_readSmith_119 rfl (lv_at hl 1 rfl) ?_
    refine g_ldcS hC V 5 rfl dX2_readSmith_120 ?_
    refine lv_iconst (v := (nI 0)) hx hb dX2_readSmith_122 (by decide +kernel) ?_
    refine lv_bipush (v := (nI 20)) hx hb dX2_readSmith_123 (by decide +kernel) ?_
    refine lv_iconst (v := (nI 3)) hx hb dX2_readSmith_125 (by decide +kernel) ?_
    refine g_callVU (nA := 4) hC V hl.1 (f_takeOption l D T 5 ft p5 t0 (nI 0) (nI 20) (nI 3) tf t1 sz tx (by first | assumption | omega) (by first | assumption | omega) (by first | assumption | omega) (by first | assumption | omega)) w_384 w_386 w_s6 w_4 w_387 (by decide +kernel) rfl ⟨(Nat.le_of_ble_eq_true rfl), (Nat.le_of_ble_eq_true rfl)⟩ 0 (ci := 2) rfl rfl [0, 1] rfl rfl (Nat.le_of_ble_eq_true rfl) dX2_readSmith_126 ⟨(Nat.le_of_ble_eq_true rfl), (Nat.le_of_ble_eq_true rfl)⟩ rfl (fun r w1 H locs hQ V => ?_)
    obtain ⟨z6, p6, rfl, rfl, f_14, f_15⟩ := hQ
    have V : gW D T A s [(t0, .inr (2, [.int tf, .int (nI (cF p6)), .int (cP p6), .ref t1, .int (nI sz), .int (nI (cK p6.2.2.1)), .int (nI p6.1), .int (nI p6.2.1)])), (t1, .inl (T 3, 900, .inl tx)), (a0, .inr (5, [.int (nI an), .int am, .int al, .int ao, .int au, .ref a1, .ref a2, .ref a3, .ref a4, .ref a5, .ref a6, .ref a7, .ref a8, .ref a9, .ref a10])), (a1, .inl (T 0, 10, .inl (upd af1 an z1))), (a2, .inl (T 0, 10, .inl (upd af2 an z2))), (a3, .inl (T 0, 10, .inl (upd af3 an z3))), (a4, .inl (T 0, 10, .inl (upd af4 an z4))), (a5, .inl (T 0, 10, .inl (upd af5 an z5))), (a6, .inl (T 0, 10, .inl af6)), (a7, .inl (T 0, 10, .inl af7)), (a8, .inl (T 0, 10, .inl af8))] H locs := V _ [0, 0] rfl rfl rfl (by decide +kernel) rfl
    show W p l e _ s m args below meth c H locs _ _ _ (F0 m 129 ls [.int z6, .int (nI an), .ref a0])
    have v6 : cF p6 = 0 → z6 = smPi ft sz ps := fun h => by rw [f_15 h, e5]; rfl
    have e6 : p6 = sm6 ft sz ps := by rw [f_14, e5]; rfl
    have hq6 : PI ft sz p6 := by rw [f_14]; exact PI_ti hq5
    obtain ⟨_, _, _, _, -⟩ := id hq6
    have hcc6 := cF_le (p := p6) (by omega)
    refine g_callVU (nA := 2) hC V hl.1 (s_beginPiece l D T a0 an z6 an am al ao au a1 a2 a3 a4 a5 a6 a7 a8 a9 a10 af6 af7 af8 (by first | assumption | omega)) w_395 w_396 w_397 w_3 w_398 (by decide +kernel) rfl ⟨(Nat.le_of_ble_eq_true rfl), (Nat.le_of_ble_eq_true rfl)⟩ 2 (ci := 5) rfl rfl [2, 8, 9, 10] rfl rfl (Nat.le_of_ble_eq_true rfl) dX2_readSmith_129 ⟨(Nat.le_of_ble_eq_true rfl), (Nat.le_of_ble_eq_true rfl)⟩ rfl (fun r w1 H locs hQ V => ?_)
    obtain ⟨g6_16, g7_17, g8_18, rfl, rfl, f_19, f_20, f_21⟩ := hQ
    have V : gW D T A s [(t0, .inr (2, [.int tf, .int (nI (cF p6)), .int (cP p6), .ref t1, .int (nI sz), .int (nI (cK p6.2.2.1)), .int (nI p6.1), .int (nI p6.2.1)])), (t1, .inl (T 3, 900, .inl tx)), (a0, .inr (5, [.int (nI an), .int am, .int al, .int ao, .int au, .ref a1, .ref a2, .ref a3, .ref a4, .ref a5, .ref a6, .ref a7, .ref a8, .ref a9, .ref a10])), (a1, .inl (T 0, 10, .inl (upd af1 an z1))), (a2, .inl (T 0, 10, .inl (upd af2 an z2))), (a3, .inl (T 0, 10, .inl (upd af3 an z3))), (a4, .inl (T 0, 10, .inl (upd af4 an z4))), (a5, .inl (T 0, 10, .inl (upd af5 an z5))), (a6, .inl (T 0, 10, .inl g6_16)), (a7, .inl (T 0, 10, .inl g7_17)), (a8, .inl (T 0, 10, .inl g8_18))] H locs := V _ [2, 5, 0, 0] rfl rfl rfl (by decide +kernel) rfl
    show W p l e _ s m args below meth c H locs _ _ _ (F0 m 132 ls [])
    refine lv_aload_n hx hb dX2_readSmith_132 rfl (lv_at hl 2 rfl) ?_
    refine lv_dup hx hb dX2_readSmith_133 rfl ?_
    refine g_get hC V (ci := 5) uwX5 2 rfl rfl 0 (by decide) w_36 rfl rfl dX2_readSmith_134 ?_
    refine lv_iconst (v := (nI 1)) hx hb dX2_readSmith_137 (by decide +kernel) ?_
    refine lv_iadd hx hb dX2_readSmith_138 ?_
    refine g_vi (y := (nI (an + 1))) (nI_add _ _) ?_
    refine g_put hC V (ci := 5) uwX5 tyX5 tyX5_ok nmX5 2 rfl rfl 0 (by decide) w_36 rfl rfl rfl rfl (Nat.le_of_ble_eq_true rfl) (ws' := [(t0, .inr (2, [.int tf, .int (nI (cF p6)), .int (cP p6), .ref t1, .int (nI sz), .int (nI (cK p6.2.2.1)), .int (nI p6.1), .int (nI p6.2.1)])), (t1, .inl (T 3, 900, .inl tx)), (a0, .inr (5, [.int (nI (an + 1)), .int am, .int al, .int ao, .int au, .ref a1, .ref a2, .ref a3, .ref a4, .ref a5, .ref a6, .ref a7, .ref a8, .ref a9, .ref a10])), (a1, .inl (T 0, 10, .inl (upd af1 an z1))), (a2, .inl (T 0, 10, .inl (upd af2 an z2))), (a3, .inl (T 0, 10, .inl (upd af3 an z3))), (a4, .inl (T 0, 10, .inl (upd af4 an z4))), (a5, .inl (T 0, 10, .inl (upd af5 an z5))), (a6, .inl (T 0, 10, .inl g6_16)), (a7, .inl (T 0, 10, .inl g7_17)), (a8, .inl (T 0, 10, .inl g8_18))]) rfl dX2_readSmith_139 (fun H locs V => ?_)
    exact g_vret (Qr := (q_f_readSmith T ft ps t0 a0 tf t1 sz tx an am al ao au a1 a2 a3 a4 a5 a6 a7 a8 a9 a10 af1 af2 af3 af4 af5 af6 af7 af8)) hC V ⟨(Nat.le_of_ble_eq_true rfl), (Nat.le_of_ble_eq_true rfl)⟩ ⟨p6, (an + 1), (upd af1 an z1), (upd af2 an z2), (upd af3 an z3), (upd af4 an z4), (upd af5 an z5), g6_16, g7_17, g8_18, rfl, rfl, (e6.trans (smS_n (by omega)).symm), (by omega), (by omega), (fun _ => by omega), (fun _ => rfl), (fun h => by rw [v1 (by rw [e1]; exact (sm_cF (e6 ▸ h)).2.2.2.2)]), (fun h => by rw [v2 (by rw [e2]; exact (sm_cF (e6 ▸ h)).2.2.2.1)]), (fun h => by rw [v3 (by rw [e3]; exact (sm_cF (e6 ▸ h)).2.2.1)]), (fun h => by rw [v4 (by rw [e4]; exact (sm_cF (e6 ▸ h)).2.1)]), (fun h => by rw [v5 (by rw [e5]; exact (sm_cF (e6 ▸ h)).1)]), (fun h => by rw [f_19, v6 h]), (fun _ => f_20), (fun _ => f_21)⟩ dX2_readSmith_142
  · skip
    have c_1 := b_nlt (by omega) (by omega) c_1
    refine lv_aload_n hx hb dX2_readSmith_11 rfl (lv_at hl 1 rfl) ?_
    refine lv_iconst (v := (nI 4)) hx hb dX2_readSmith_12 (by decide +kernel) ?_
    refine g_callVU (nA := 1) hC V hl.1 (f_fail l D T ps t0 4 tf t1 sz (by decide) hcF) w_317 w_319 w_s2 w_4 w_320 (by decide +kernel) rfl ⟨(Nat.le_of_ble_eq_true rfl), (Nat.le_of_ble_eq_true rfl)⟩ 0 (ci := 2) rfl rfl [0] rfl rfl (Nat.le_of_ble_eq_true rfl) dX2_readSmith_13 ⟨(Nat.le_of_ble_eq_true rfl), (Nat.le_of_ble_eq_true rfl)⟩ rfl (fun r w1 H locs hQ V => ?_)
    obtain ⟨p2_22, rfl, rfl, f_23⟩ := hQ
    have V : gW D T A s [(t0, .inr (2, [.int tf, .int (nI (cF p2_22)), .int (cP p2_22), .ref t1, .int (nI sz), .int (nI (cK p2_22.2.2.1)), .int (nI p2_22.1), .int (nI p2_22.2.1)])), (t1, .inl (T 3, 900, .inl tx)), (a0, .inr (5, [.int (nI an), .int am, .int al, .int ao, .int au, .ref a1, .ref a2, .ref a3, .ref a4, .ref a5, .ref a6, .ref a7, .ref a8, .ref a9, .ref a10])), (a1, .inl (T 0, 10, .inl af1)), (a2, .inl (T 0, 10, .inl af2)), (a3, .inl (T 0, 10, .inl af3)), (a4, .inl (T 0, 10, .inl af4)), (a5, .inl (T 0, 10, .inl af5)), (a6, .inl (T 0, 10, .inl af6)), (a7, .inl (T 0, 10, .inl af7)), (a8, .inl (T 0, 10, .inl af8))] H locs := V _ [0] rfl rfl rfl (by decide +kernel) rfl
    show W p l e _ s m args below meth c H locs _ _ _ (F0 m 16 ls [])
    have hwp2_22 : ¬ cF p2_22 = 0 := by rw [f_23]; exact fa_cF (by decide)
    have hPp2_22 : PI ft sz p2_22 := by rw [f_23]; exact PI_fa h_p (by decide)
    obtain ⟨_, _, _, _, -⟩ := id hPp2_22
    have hcp2_22 := cF_le (p := p2_22) (by omega)
    exact g_vret (Qr := (q_f_readSmith T ft ps t0 a0 tf t1 sz tx an am al ao au a1 a2 a3 a4 a5 a6 a7 a8 a9 a10 af1 af2 af3 af4 af5 af6 af7 af8)) hC V ⟨(Nat.le_of_ble_eq_true rfl), (Nat.le_of_ble_eq_true rfl)⟩ ⟨p2_22, an, af1, af2, af3, af4, af5, af6, af7, af8, rfl, rfl, (f_23.trans (smS_10 (by omega)).symm), (by omega), (by omega), (fun h => absurd h (by omega)), (fun h => absurd h (by omega)), (fun h => absurd h (by omega)), (fun h => absurd h (by omega)), (fun h => absurd h (by omega)), (fun h => absurd h (by omega)), (fun h => absurd h (by omega)), (fun h => absurd h (by omega)), (fun h => absurd h (by omega)), (fun h => absurd h (by omega))⟩ dX2_readSmith_16

def q_f_readBlows (T : Nat → ClassId) (ft : Nat → Int32) (ps : PS) (t0 : Nat) (a0 : Nat) (tf : Int32) (t1 : Nat) (sz : Nat) (tx : Nat → Int32) (an : Nat) (am : Int32) (al : Int32) (ao : Int32) (au : Int32) (a1 : Nat) (a2 : Nat) (a3 : Nat) (a4 : Nat) (a5 : Nat) (a6 : Nat) (a7 : Nat) (a8 : Nat) (a9 : Nat) (a10 : Nat) (af9 : Nat → Int32) : Option Value → va_W → Prop := fun rr ww => (∃ (p2 : PS) (g : Nat → Int32), rr = none ∧ ww = [(t0, .inr (2, [.int tf, .int (nI (cF p2)), .int (cP p2), .ref t1, .int (nI sz), .int (nI (cK p2.2.2.1)), .int (nI p2.1), .int (nI p2.2.1)])), (t1, .inl (T 3, 900, .inl tx)), (a0, .inr (5, [.int (nI an), .int am, .int al, .int ao, .int au, .ref a1, .ref a2, .ref a3, .ref a4, .ref a5, .ref a6, .ref a7, .ref a8, .ref a9, .ref a10])), (a9, .inl (T 0, 10, .inl g))] ∧ p2 = blS ft sz an (nxS ft sz ps) ∧ (∀ i, i < 10 → (bd (g i) an ∨ g i = -1)) ∧ BlE ft sz an ps p2 af9 g)
set_option maxHeartbeats 4000000 in
set_option maxRecDepth 100000 in
theorem f_readBlows (l : Launch) (D : va_G) (T : Nat → ClassId) (ft : Nat → Int32) (ps : PS) (t0 : Nat) (a0 : Nat) (tf : Int32) (t1 : Nat) (sz : Nat) (tx : Nat → Int32) (an : Nat) (am : Int32) (al : Int32) (ao : Int32) (au : Int32) (a1 : Nat) (a2 : Nat) (a3 : Nat) (a4 : Nat) (a5 : Nat) (a6 : Nat) (a7 : Nat) (a8 : Nat) (a9 : Nat) (a10 : Nat) (af9 : Nat → Int32) (h_sz : sz ≤ 900) (h_tx : TXT sz tx ft) (h_p : PI ft sz ps) (h_0 : cF ps = 0) (h_n : an ≤ 10) (h_t : ∀ i, i < 10 → (bd (af9 i) an ∨ af9 i = -1)) : Ct l yX2_readBlows cX2_readBlows 4 none 3 0 0 D T [.ref t0, .ref a0] [(t0, .inr (2, [.int tf, .int (nI (cF ps)), .int (cP ps), .ref t1, .int (nI sz), .int (nI (cK ps.2.2.1)), .int (nI ps.1), .int (nI ps.2.1)])), (t1, .inl (T 3, 900, .inl tx)), (a0, .inr (5, [.int (nI an), .int am, .int al, .int ao, .int au, .ref a1, .ref a2, .ref a3, .ref a4, .ref a5, .ref a6, .ref a7, .ref a8, .ref a9, .ref a10])), (a9, .inl (T 0, 10, .inl af9))] (q_f_readBlows T ft ps t0 a0 tf t1 sz tx an am al ao au a1 a2 a3 a4 a5 a6 a7 a8 a9 a10 af9) := by
  refine Ct.of (cc := cX2_readBlows) (maxL := 4) (ret := none) (by decide) (Nat.le_of_ble_eq_true rfl) ?_
  intro p e s m args below meth c A ls hC hnm V hl
  obtain ⟨hx, hb, hr, hml, hown, hts, hlocks⟩ := id hC
  generalize hH : s.heap = H at V ⊢
  clear hH
  have hl : lv_has ls 4 [(0, .ref t0), (1, .ref a0)] := hl
  generalize hlo : ([] : List Loc) = locs at V ⊢
  clear hlo
  obtain ⟨_, _, _, _, -⟩ := id h_p
  have hcF := cF_le (p := ps) (by omega)
  have hcK := cK_le ps.2.2.1
  refine lv_aload_n hx hb dX2_readBlows_0 rfl (lv_at hl 0 rfl) ?_
  refine g_callVU (nA := 0) hC V hl.1 (f_nextToken l D T ft ps.2.2.2.1 ps.2.2.2.2.2 t0 tf (cF ps) (cP ps) t1 sz (nI (cK ps.2.2.1)) (nI ps.1) ps.2.1 tx (by first | assumption | omega) (by first | assumption | omega) (by omega) (by omega) (cP_0 (by omega))) w_309 w_311 w_s0 w_4 w_312 (by decide +kernel) rfl ⟨(Nat.le_of_ble_eq_true rfl), (Nat.le_of_ble_eq_true rfl)⟩ 0 (ci := 2) rfl rfl [0, 1] rfl rfl (Nat.le_of_ble_eq_true rfl) dX2_readBlows_1 ⟨(Nat.le_of_ble_eq_true rfl), (Nat.le_of_ble_eq_true rfl)⟩ rfl (fun r w1 H locs hQ V => ?_)
  obtain ⟨p2_1, rfl, rfl, f_2⟩ := hQ
  have V : gW D T A s [(t0, .inr (2, [.int tf, .int (nI (cF p2_1)), .int (cP p2_1), .ref t1, .int (nI sz), .int (nI (cK p2_1.2.2.1)), .int (nI p2_1.1), .int (nI p2_1.2.1)])), (t1, .inl (T 3, 900, .inl tx)), (a0, .inr (5, [.int (nI an), .int am, .int al, .int ao, .int au, .ref a1, .ref a2, .ref a3, .ref a4, .ref a5, .ref a6, .ref a7, .ref a8, .ref a9, .ref a10])), (a9, .inl (T 0, 10, .inl af9))] H locs := V _ [0, 0] rfl rfl rfl (by decide +kernel) rfl
  show W p l e _ s m args below meth c H locs _ _ _ (F0 m 4 ls [])
  have e0 : p2_1 = nxS ft sz ps := f_2.trans (nx_c0 (by omega))
  have hq0 : PI ft sz p2_1 := by rw [e0]; exact PI_nxI h_p
  obtain ⟨_, _, _, _, -⟩ := id hq0
  refine lv_aload_n hx hb dX2_readBlows_4 rfl (lv_at hl 0 rfl) ?_
  refine lv_iconst (v := (nI 0)) hx hb dX2_readBlows_5 (by decide +kernel) ?_
  refine lv_aload_n hx hb dX2_readBlows_6 rfl (lv_at hl 1 rfl) ?_
  refine g_get hC V (ci := 5) uwX5 2 rfl rfl 0 (by decide) w_36 rfl rfl dX2_readBlows_7 ?_
  refine lv_iconst (v := (nI 1)) hx hb dX2_readBlows_10 (by decide +kernel) ?_
  refine lv_isub hx hb dX2_readBlows_11 ?_
  refine g_callVU (nA := 2) hC V hl.1 (f_takeNumber l D T ft p2_1 t0 (nI 0) ((nI an) - (nI 1)) tf t1 sz tx (by first | assumption | omega) (by first | assumption | omega) (by first | assumption | omega)) w_378 w_380 w_s5 w_4 w_381 (by decide +kernel) rfl ⟨(Nat.le_of_ble_eq_true rfl), (Nat.le_of_ble_eq_true rfl)⟩ 0 (ci := 2) rfl rfl [0, 1] rfl rfl (Nat.le_of_ble_eq_true rfl) dX2_readBlows_12 ⟨(Nat.le_of_ble_eq_true rfl), (Nat.le_of_ble_eq_true rfl)⟩ rfl (fun r w1 H locs hQ V => ?_)
  obtain ⟨z_3, p2_4, rfl, rfl, f_5, f_6⟩ := hQ
  have V : gW D T A s [(t0, .inr (2, [.int tf, .int (nI (cF p2_4)), .int (cP p2_4), .ref t1, .int (nI sz), .int (nI (cK p2_4.2.2.1)), .int (nI p2_4.1), .int (nI p2_4.2.1)])), (t1, .inl (T 3, 900, .inl tx)), (a0, .inr (5, [.int (nI an), .int am, .int al, .int ao, .int au, .ref a1, .ref a2, .ref a3, .ref a4, .ref a5, .ref a6, .ref a7, .ref a8, .ref a9, .ref a10])), (a9, .inl (T 0, 10, .inl af9))] H locs := V _ [0, 0] rfl rfl rfl (by decide +kernel) rfl
  show W p l e _ s m args below meth c H locs _ _ _ (F0 m 15 ls [.int z_3])
  have e1 : p2_4 = bl1 ft sz an (nxS ft sz ps) := by rw [f_5, e0]; rfl
  have hq1 : PI ft sz p2_4 := by rw [f_5]; exact PI_tk hq0
  obtain ⟨_, _, _, _, -⟩ := id hq1
  have hcc1 := cF_le (p := p2_4) (by omega)
  refine lv_istore_n (lv' := [(2, .int z_3), (0, .ref t0), (1, .ref a0)]) hx hb dX2_readBlows_15 rfl hl (by decide) rfl (fun ls hl => ?_)
  refine lv_aload_n hx hb dX2_readBlows_16 rfl (lv_at hl 1 rfl) ?_
  refine lv_iconst (v := (nI 0)) hx hb dX2_readBlows_17 (by decide +kernel) ?_
  refine lv_aload_n hx hb dX2_readBlows_18 rfl (lv_at hl 2 rfl) ?_
  refine g_get hC V (ci := 5) uwX5 2 rfl rfl 0 (by decide) w_36 rfl rfl dX2_readBlows_19 ?_
  refine lv_iconst (v := (nI 1)) hx hb dX2_readBlows_22 (by decide +kernel) ?_
  refine lv_isub hx hb dX2_readBlows_23 ?_
  refine g_callVU (nA := 2) hC V hl.1 (f_takeNumber l D T ft p2_4 t0 (nI 0) ((nI an) - (nI 1)) tf t1 sz tx (by first | assumption | omega) (by first | assumption | omega) (by first | assumption | omega)) w_378 w_380 w_s5 w_4 w_381 (by decide +kernel) rfl ⟨(Nat.le_of_ble_eq_true rfl), (Nat.le_of_ble_eq_true rfl)⟩ 0 (ci := 2) rfl rfl [0, 1] rfl rfl (Nat.le_of_ble_eq_true rfl) dX2_readBlows_24 ⟨(Nat.le_of_ble_eq_true rfl), (Nat.le_of_ble_eq_true rfl)⟩ rfl (fun r w1 H locs hQ V => ?_)
  obtain ⟨z_7, p2_8, rfl, rfl, f_9, f_10⟩ := hQ
  have V : gW D T A s [(t0, .inr (2, [.int tf, .int (nI (cF p2_8)), .int (cP p2_8), .ref t1, .int (nI sz), .int (nI (cK p2_8.2.2.1)), .int (nI p2_8.1), .int (nI p2_8.2.1)])), (t1, .inl (T 3, 900, .inl tx)), (a0, .inr (5, [.int (nI an), .int am, .int al, .int ao, .int au, .ref a1, .ref a2, .ref a3, .ref a4, .ref a5, .ref a6, .ref a7, .ref a8, .ref a9, .ref a10])), (a9, .inl (T 0, 10, .inl af9))] H locs := V _ [0, 0] rfl rfl rfl (by decide +kernel) rfl
  show W p l e _ s m args below meth c H locs _ _ _ (F0 m 27 ls [.int z_7])
  have e2 : p2_8 = blS ft sz an (nxS ft sz ps) := by rw [f_9, e1]; rfl
  have hq2 : PI ft sz p2_8 := by rw [f_9]; exact PI_tk hq1
  obtain ⟨_, _, _, _, -⟩ := id hq2
  have hcc2 := cF_le (p := p2_8) (by omega)
  refine lv_istore_n (lv' := [(3, .int z_7), (2, .int z_3), (0, .ref t0), (1, .ref a0)]) hx hb dX2_readBlows_27 rfl hl (by decide) rfl (fun ls hl => ?_)
  refine lv_aload_n hx hb dX2_readBlows_28 rfl (lv_at hl 2 rfl) ?_
  refine g_get hC V (ci := 2) uwX2 0 rfl rfl 1 (by decide) w_130 rfl rfl dX2_readBlows_29 ?_
  refine lv_if_ne (tgt := 42) hx hb dX2_readBlows_32 (by decide) (fun c_11 => ?_) (fun c_11 => ?_)
  · skip
    rw [show (0 : Int32) = nI 0 from rfl] at c_11
    have c_11 := b_ne (by omega) (by omega) c_11
    exact g_vret (Qr := (q_f_readBlows T ft ps t0 a0 tf t1 sz tx an am al ao au a1 a2 a3 a4 a5 a6 a7 a8 a9 a10 af9)) hC V ⟨(Nat.le_of_ble_eq_true rfl), (Nat.le_of_ble_eq_true rfl)⟩ ⟨p2_8, af9, rfl, rfl, e2, h_t, (fun h => absurd h (by omega))⟩ dX2_readBlows_42
  · skip
    rw [show (0 : Int32) = nI 0 from rfl] at c_11
    have c_11 := b_eq (by omega) (by omega) c_11
    have r2 := tk_rng (cF_0.mp (Eq.trans (congrArg cF f_9.symm) c_11)).1
    have hc1 := (tk_cF (Eq.trans (congrArg cF f_9.symm) c_11)).1
    have r1 := tk_rng (cF_0.mp (Eq.trans (congrArg cF f_5.symm) hc1)).1
    obtain ⟨jw, hjw, ejw⟩ := pred_bd h_n r1.1 r1.2.1
    obtain ⟨jv, hjv, ejv⟩ := pred_bd h_n r2.1 r2.2.1
    have ew := (f_6 hc1).trans ejw
    have ev := (f_10 c_11).trans ejv
    rw [ew, ev] at hl
    refine lv_aload_n hx hb dX2_readBlows_35 rfl (lv_at hl 3 rfl) ?_
    refine g_get hC V (ci := 5) uwX5 2 rfl rfl 13 (by decide) w_83 rfl rfl dX2_readBlows_36 ?_
    refine lv_iload_n hx hb dX2_readBlows_39 rfl (lv_at hl 1 rfl) ?_
    refine lv_iload_n hx hb dX2_readBlows_40 rfl (lv_at hl 0 rfl) ?_
    refine g_iast hC V 3 rfl (vp_in_nI (by omega) (by omega)) (f' := (upd af9 jw (nI jv))) (by rw [nI_clamp (by omega)]) (ws' := [(t0, .inr (2, [.int tf, .int (nI (cF p2_8)), .int (cP p2_8), .ref t1, .int (nI sz), .int (nI (cK p2_8.2.2.1)), .int (nI p2_8.1), .int (nI p2_8.2.1)])), (t1, .inl (T 3, 900, .inl tx)), (a0, .inr (5, [.int (nI an), .int am, .int al, .int ao, .int au, .ref a1, .ref a2, .ref a3, .ref a4, .ref a5, .ref a6, .ref a7, .ref a8, .ref a9, .ref a10])), (a9, .inl (T 0, 10, .inl (upd af9 jw (nI jv))))]) rfl dX2_readBlows_41 (fun H locs V => ?_)
    exact g_vret (Qr := (q_f_readBlows T ft ps t0 a0 tf t1 sz tx an am al ao au a1 a2 a3 a4 a5 a6 a7 a8 a9 a10 af9)) hC V ⟨(Nat.le_of_ble_eq_true rfl), (Nat.le_of_ble_eq_true rfl)⟩ ⟨p2_8, (upd af9 jw (nI jv)), rfl, rfl, e2, (up_all (p := fun x => bd x an ∨ x = -1) h_t (fun _ => Or.inl (bd_nI hjv))), (fun _ => ⟨jw, jv, hjw, hjv, by rw [← e0]; exact ejw, by rw [← e1]; exact ejv, rfl⟩)⟩ dX2_readBlows_42

def q_s_lay_f (T : Nat → ClassId) (a0 : Nat) (an : Nat) (am : Int32) (al : Int32) (ao : Int32) (au : Int32) (a1 : Nat) (a2 : Nat) (a3 : Nat) (a4 : Nat) (a5 : Nat) (a6 : Nat) (a7 : Nat) (a8 : Nat) (a9 : Nat) (a10 : Nat) (af9 : Nat → Int32) : Option Value → va_W → Prop := fun rr ww => (∃ (g : Nat → Int32), rr = none ∧ ww = [(a0, .inr (5, [.int (nI an), .int am, .int al, .int ao, .int au, .ref a1, .ref a2, .ref a3, .ref a4, .ref a5, .ref a6, .ref a7, .ref a8, .ref a9, .ref a10])), (a9, .inl (T 0, 10, .inl g))] ∧ (∀ i, i < an → bd (g i) an) ∧ (∀ i, i < an → g i = layV an (af9 i) i))
set_option maxHeartbeats 4000000 in
set_option maxRecDepth 100000 in
theorem s_lay_f (l : Launch) (D : va_G) (T : Nat → ClassId) (a0 : Nat) (an : Nat) (am : Int32) (al : Int32) (ao : Int32) (au : Int32) (a1 : Nat) (a2 : Nat) (a3 : Nat) (a4 : Nat) (a5 : Nat) (a6 : Nat) (a7 : Nat) (a8 : Nat) (a9 : Nat) (a10 : Nat) (af9 : Nat → Int32) (h_n : an ≤ 10) (h_o : ∀ i, i < an → (bd (af9 i) an ∨ af9 i = -1)) : Ct l yX5_layUntoldRopes cX5_layUntoldRopes 2 none 0 0 0 D T [.ref a0] [(a0, .inr (5, [.int (nI an), .int am, .int al, .int ao, .int au, .ref a1, .ref a2, .ref a3, .ref a4, .ref a5, .ref a6, .ref a7, .ref a8, .ref a9, .ref a10])), (a9, .inl (T 0, 10, .inl af9))] (q_s_lay_f T a0 an am al ao au a1 a2 a3 a4 a5 a6 a7 a8 a9 a10 af9) := by
  refine Ct.of (cc := cX5_layUntoldRopes) (maxL := 2) (ret := none) (by decide) (Nat.le_of_ble_eq_true rfl) ?_
  intro p e s m args below meth c A ls hC hnm V hl
  obtain ⟨hx, hb, hr, hml, hown, hts, hlocks⟩ := id hC
  generalize hH : s.heap = H at V ⊢
  clear hH
  have hl : lv_has ls 2 [(0, .ref a0)] := hl
  generalize hlo : ([] : List Loc) = locs at V ⊢
  clear hlo
  refine lv_iconst (v := (nI 0)) hx hb dX5_layUntoldRopes_0 (by decide +kernel) ?_
  refine lv_istore_n (lv' := [(1, .int (nI 0)), (0, .ref a0)]) hx hb dX5_layUntoldRopes_1 rfl hl (by decide) rfl (fun ls hl => ?_)
  have L_1 : ∀ (fu : Nat) (k : Nat) (g : Nat → Int32), k ≤ an → (∀ i, i < an → (bd (g i) an ∨ (g i = -1 ∧ k ≤ i))) → (∀ i, i < k → g i = layV an (af9 i) i) → (∀ i, k ≤ i → g i = af9 i) → an - k < fu → ∀ (H : Heap) (locs : List Loc) (ls : Array Slot), gW D T A s [(a0, .inr (5, [.int (nI an), .int am, .int al, .int ao, .int au, .ref a1, .ref a2, .ref a3, .ref a4, .ref a5, .ref a6, .ref a7, .ref a8, .ref a9, .ref a10])), (a9, .inl (T 0, 10, .inl g))] H locs → lv_has ls 2 [(1, .int (nI k)), (0, .ref a0)] → W p l e (rmD 0 0 0) s m args below meth c H locs 0 0 (MQ below (gQ D A (q_s_lay_f T a0 an am al ao au a1 a2 a3 a4 a5 a6 a7 a8 a9 a10 af9)) args s 0 0 A) (F0 m 2 ls []) := by
    intro fu_2
    induction fu_2 with
    | zero => intro k g hk hg hv hu hmu; exact absurd hmu (Nat.not_lt_zero _)
    | succ fu_2 ih_2 =>
      intro k g hk hg hv hu hmu_2 H locs ls V hl
      refine lv_iload_n hx hb dX5_layUntoldRopes_2 rfl (lv_at hl 0 rfl) ?_
      refine lv_aload_n hx hb dX5_layUntoldRopes_3 rfl (lv_at hl 1 rfl) ?_
      refine g_get hC V (ci := 5) uwX5 0 rfl rfl 0 (by decide) w_33 rfl rfl dX5_layUntoldRopes_4 ?_
      refine lv_icmp_ge (tgt := 49) hx hb dX5_layUntoldRopes_7 (by decide) (fun c_2 => ?_) (fun c_2 => ?_)
      · skip
        have c_2 := b_le (by omega) (by omega) c_2
        exact g_vret (Qr := (q_s_lay_f T a0 an am al ao au a1 a2 a3 a4 a5 a6 a7 a8 a9 a10 af9)) hC V ⟨(Nat.le_of_ble_eq_true rfl), (Nat.le_of_ble_eq_true rfl)⟩ ⟨g, rfl, rfl, (fun i h => (hg i h).elim id (fun e => absurd e.2 (by omega))), (fun i h => hv i (by omega))⟩ dX5_layUntoldRopes_49
      · skip
        have c_2 := b_nle (by omega) (by omega) c_2
        refine lv_aload_n hx hb dX5_layUntoldRopes_10 rfl (lv_at hl 1 rfl) ?_
        refine g_get hC V (ci := 5) uwX5 0 rfl rfl 13 (by decide) w_82 rfl rfl dX5_layUntoldRopes_11 ?_
        refine lv_iload_n hx hb dX5_layUntoldRopes_14 rfl (lv_at hl 0 rfl) ?_
        refine g_iald hC V 1 rfl (vp_in_nI (by omega) (by omega)) (v := (g k)) (congrArg _ (nI_clamp (by omega))) dX5_layUntoldRopes_15 ?_
        refine lv_iconst (v := (-1)) hx hb dX5_layUntoldRopes_16 (by decide +kernel) ?_
        refine lv_icmp_ne (tgt := 43) hx hb dX5_layUntoldRopes_17 (by decide) (fun c_3 => ?_) (fun c_3 => ?_)
        · skip
          have hs := lay_skip hg c_3
          refine lv_iinc (v := (nI (k + 1))) (lv' := [(1, .int (nI (k + 1))), (0, .ref a0)]) hx hb dX5_layUntoldRopes_43 hl (k := 0) rfl (nI_1 _) (by decide) rfl (fun ls hl => ?_)
          refine lv_goto (tgt := 2) hx hb dX5_layUntoldRopes_46 (by decide) ?_
          exact ih_2 (k + 1) g (by omega) hs (lv_s hv (hu k (Nat.le_refl _)) c_3) (fun i hi => hu i (by omega)) (by omega) _ _ _ V (lv_sub hl [0, 1] rfl)
        · skip
          refine lv_aload_n hx hb dX5_layUntoldRopes_20 rfl (lv_at hl 1 rfl) ?_
          refine g_get hC V (ci := 5) uwX5 0 rfl rfl 13 (by decide) w_82 rfl rfl dX5_layUntoldRopes_21 ?_
          refine lv_iload_n hx hb dX5_layUntoldRopes_24 rfl (lv_at hl 0 rfl) ?_
          refine lv_iload_n hx hb dX5_layUntoldRopes_25 rfl (lv_at hl 0 rfl) ?_
          refine lv_iconst (v := (nI 1)) hx hb dX5_layUntoldRopes_26 (by decide +kernel) ?_
          refine lv_iadd hx hb dX5_layUntoldRopes_27 ?_
          refine g_vi (y := (nI (k + 1))) (nI_add _ _) ?_
          refine lv_aload_n hx hb dX5_layUntoldRopes_28 rfl (lv_at hl 1 rfl) ?_
          refine g_get hC V (ci := 5) uwX5 0 rfl rfl 0 (by decide) w_33 rfl rfl dX5_layUntoldRopes_29 ?_
          refine lv_icmp_ge (tgt := 41) hx hb dX5_layUntoldRopes_32 (by decide) (fun c_4 => ?_) (fun c_4 => ?_)
          · skip
            have c_4 := b_le (by omega) (by omega) c_4
            have hs := lay_put hg (bd_nI (j := 0) (b := an) (by omega))
            refine lv_iconst (v := (nI 0)) hx hb dX5_layUntoldRopes_41 (by decide +kernel) ?_
            refine g_iast hC V 1 rfl (vp_in_nI (by omega) (by omega)) (f' := (upd g k (nI 0))) (by rw [nI_clamp (by omega)]) (ws' := [(a0, .inr (5, [.int (nI an), .int am, .int al, .int ao, .int au, .ref a1, .ref a2, .ref a3, .ref a4, .ref a5, .ref a6, .ref a7, .ref a8, .ref a9, .ref a10])), (a9, .inl (T 0, 10, .inl (upd g k (nI 0))))]) rfl dX5_layUntoldRopes_42 (fun H locs V => ?_)
            refine lv_iinc (v := (nI (k + 1))) (lv' := [(1, .int (nI (k + 1))), (0, .ref a0)]) hx hb dX5_layUntoldRopes_43 hl (k := 0) rfl (nI_1 _) (by decide) rfl (fun ls hl => ?_)
            refine lv_goto (tgt := 2) hx hb dX5_layUntoldRopes_46 (by decide) ?_
            exact ih_2 (k + 1) (upd g k (nI 0)) (by omega) hs (lv_p hv (lay_2 ((hu k (Nat.le_refl _)).symm.trans c_3) (by omega))) (fun i hi => (up_other (by omega)).trans (hu i (by omega))) (by omega) _ _ _ V (lv_sub hl [0, 1] rfl)
          · skip
            have c_4 := b_nle (by omega) (by omega) c_4
            have hs := lay_put hg (bd_nI (j := k + 1) (b := an) (by omega))
            refine lv_iload_n hx hb dX5_layUntoldRopes_35 rfl (lv_at hl 0 rfl) ?_
            refine lv_iconst (v := (nI 1)) hx hb dX5_layUntoldRopes_36 (by decide +kernel) ?_
            refine lv_iadd hx hb dX5_layUntoldRopes_37 ?_
            refine g_vi (y := (nI (k + 1))) (nI_add _ _) ?_
            refine lv_goto (tgt := 42) hx hb dX5_layUntoldRopes_38 (by decide) ?_
            refine g_iast hC V 1 rfl (vp_in_nI (by omega) (by omega)) (f' := (upd g k (nI (k + 1)))) (by rw [nI_clamp (by omega)]) (ws' := [(a0, .inr (5, [.int (nI an), .int am, .int al, .int ao, .int au, .ref a1, .ref a2, .ref a3, .ref a4, .ref a5, .ref a6, .ref a7, .ref a8, .ref a9, .ref a10])), (a9, .inl (T 0, 10, .inl (upd g k (nI (k + 1)))))]) rfl dX5_layUntoldRopes_42 (fun H locs V => ?_)
            refine lv_iinc (v := (nI (k + 1))) (lv' := [(1, .int (nI (k + 1))), (0, .ref a0)]) hx hb dX5_layUntoldRopes_43 hl (k := 0) rfl (nI_1 _) (by decide) rfl (fun ls hl => ?_)
            refine lv_goto (tgt := 2) hx hb dX5_layUntoldRopes_46 (by decide) ?_
            exact ih_2 (k + 1) (upd g k (nI (k + 1))) (by omega) hs (lv_p hv (lay_1 ((hu k (Nat.le_refl _)).symm.trans c_3) (by omega))) (fun i hi => (up_other (by omega)).trans (hu i (by omega))) (by omega) _ _ _ V (lv_sub hl [0, 1] rfl)
  exact L_1 _ 0 af9 (by omega) (fun i h => (h_o i h).elim Or.inl (fun e => Or.inr ⟨e, Nat.zero_le _⟩)) (fun i h => absurd h (Nat.not_lt_zero _)) (fun _ _ => rfl) (Nat.lt_succ_self _) _ _ _ V (lv_sub hl [0, 1] rfl)

def q_f_readStreet (T : Nat → ClassId) (ft : Nat → Int32) (ff : Nat → Int32) (nu0 : Int32) (wa0 : Int32) (t0 : Nat) (n : Nat) (a0 : Nat) (tf : Nat) (tu : Int32) (tl : Int32) (t1 : Nat) (te : Int32) (tk : Int32) (tr : Int32) (tb : Int32) (tx : Nat → Int32) (an : Int32) (am : Int32) (al : Int32) (ao : Int32) (au : Int32) (a1 : Nat) (a2 : Nat) (a3 : Nat) (a4 : Nat) (a5 : Nat) (a6 : Nat) (a7 : Nat) (a8 : Nat) (a9 : Nat) (a10 : Nat) (af1 : Nat → Int32) (af2 : Nat → Int32) (af3 : Nat → Int32) (af4 : Nat → Int32) (af5 : Nat → Int32) (af6 : Nat → Int32) (af7 : Nat → Int32) (af8 : Nat → Int32) (af9 : Nat → Int32) : Option Value → va_W → Prop := fun rr ww => (∃ (s_ : RLs) (n2 : Nat) (l3 : Int32) (o3 : Int32) (g1 : Nat → Int32) (g2 : Nat → Int32) (g3 : Nat → Int32) (g4 : Nat → Int32) (g5 : Nat → Int32) (g6 : Nat → Int32) (g7 : Nat → Int32) (g8 : Nat → Int32) (g9 : Nat → Int32), rr = none ∧ ww = [(t0, .inr (2, [.int (nI 0), .int (nI (cF s_.2.1)), .int (cP s_.2.1), .ref t1, .int (nI n), .int (nI (cK s_.2.1.2.2.1)), .int (nI s_.2.1.1), .int (nI s_.2.1.2.1)])), (t1, .inl (T 3, 900, .inl tx)), (a0, .inr (5, [.int (nI n2), .int (nI 0), .int l3, .int o3, .int (nI 0), .ref a1, .ref a2, .ref a3, .ref a4, .ref a5, .ref a6, .ref a7, .ref a8, .ref a9, .ref a10])), (a1, .inl (T 0, 10, .inl g1)), (a2, .inl (T 0, 10, .inl g2)), (a3, .inl (T 0, 10, .inl g3)), (a4, .inl (T 0, 10, .inl g4)), (a5, .inl (T 0, 10, .inl g5)), (a6, .inl (T 0, 10, .inl g6)), (a7, .inl (T 0, 10, .inl g7)), (a8, .inl (T 0, 10, .inl g8)), (a9, .inl (T 0, 10, .inl g9))] ∧ n2 ≤ 10 ∧ (∀ i, i < n2 → bd (g9 i) n2) ∧ FC ft n (0, nxS ft n (0, 0, 0, nu0, 0, wa0), frI ff) s_ ∧ RsE s_ n2 g1 g2 g3 g4 g5 g6 g7 g9 o3 l3)
set_option maxHeartbeats 4000000 in
set_option maxRecDepth 100000 in
theorem f_readStreet (l : Launch) (D : va_G) (T : Nat → ClassId) (ft : Nat → Int32) (ff : Nat → Int32) (nu0 : Int32) (wa0 : Int32) (t0 : Nat) (n : Nat) (a0 : Nat) (tf : Nat) (tu : Int32) (tl : Int32) (t1 : Nat) (te : Int32) (tk : Int32) (tr : Int32) (tb : Int32) (tx : Nat → Int32) (an : Int32) (am : Int32) (al : Int32) (ao : Int32) (au : Int32) (a1 : Nat) (a2 : Nat) (a3 : Nat) (a4 : Nat) (a5 : Nat) (a6 : Nat) (a7 : Nat) (a8 : Nat) (a9 : Nat) (a10 : Nat) (af1 : Nat → Int32) (af2 : Nat → Int32) (af3 : Nat → Int32) (af4 : Nat → Int32) (af5 : Nat → Int32) (af6 : Nat → Int32) (af7 : Nat → Int32) (af8 : Nat → Int32) (af9 : Nat → Int32) (h_nf : n ≤ tf) (h_tf : tf ≤ 900) (h_tx : TXT n tx ft) : Ct l yX2_readStreet cX2_readStreet 4 none 7 0 0 D T [.ref t0, .int (nI n), .ref a0] [(t0, .inr (2, [.int (nI tf), .int tu, .int tl, .ref t1, .int te, .int tk, .int tr, .int tb])), (t1, .inl (T 3, 900, .inl tx)), (a0, .inr (5, [.int an, .int am, .int al, .int ao, .int au, .ref a1, .ref a2, .ref a3, .ref a4, .ref a5, .ref a6, .ref a7, .ref a8, .ref a9, .ref a10])), (a1, .inl (T 0, 10, .inl af1)), (a2, .inl (T 0, 10, .inl af2)), (a3, .inl (T 0, 10, .inl af3)), (a4, .inl (T 0, 10, .inl af4)), (a5, .inl (T 0, 10, .inl af5)), (a6, .inl (T 0, 10, .inl af6)), (a7, .inl (T 0, 10, .inl af7)), (a8, .inl (T 0, 10, .inl af8)), (a9, .inl (T 0, 10, .inl af9))] (q_f_readStreet T ft ff nu0 wa0 t0 n a0 tf tu tl t1 te tk tr tb tx an am al ao au a1 a2 a3 a4 a5 a6 a7 a8 a9 a10 af1 af2 af3 af4 af5 af6 af7 af8 af9) := by
  refine Ct.of (cc := cX2_readStreet) (maxL := 4) (ret := none) (by decide) (Nat.le_of_ble_eq_true rfl) ?_
  intro p e s m args below meth c A ls hC hnm V hl
  obtain ⟨hx, hb, hr, hml, hown, hts, hlocks⟩ := id hC
  generalize hH : s.heap = H at V ⊢
  clear hH
  have hl : lv_has ls 4 [(0, .ref t0), (1, .int (nI n)), (2, .ref a0)] := hl
  generalize hlo : ([] : List Loc) = locs at V ⊢
  clear hlo
  have hP0s : PI ft n (nxS ft n (0, 0, 0, nu0, 0, wa0)) := PI_nx (Nat.zero_le _) (Nat.zero_le _)
  refine lv_aload_n hx hb dX2_readStreet_0 rfl (lv_at hl 0 rfl) ?_
  refine lv_iload_n hx hb dX2_readStreet_1 rfl (lv_at hl 1 rfl) ?_
  refine lv_aload_n hx hb dX2_readStreet_2 rfl (lv_at hl 0 rfl) ?_
  refine g_get hC V (ci := 2) uwX2 0 rfl rfl 0 (by decide) w_129 rfl rfl dX2_readStreet_3 ?_
  refine va_mmin hx hb (hml.trans hl.1.symm) hown (hts _ w_299) (hts _ w_300) (hts _ w_10) (hts _ w_301) (Nat.le_of_ble_eq_true rfl) (Nat.le_of_ble_eq_true rfl) (Nat.le_of_ble_eq_true rfl) (Nat.le_of_ble_eq_true rfl) dX2_readStreet_6 ?_
  refine g_vi (y := (nI n)) (by rw [min_nI (by omega) (by omega), Nat.min_eq_left (by omega)]) ?_
  refine g_put hC V (ci := 2) uwX2 tyX2 tyX2_ok nmX2 0 rfl rfl 4 (by decide) w_135 rfl rfl rfl rfl (Nat.le_of_ble_eq_true rfl) (ws' := [(t0, .inr (2, [.int (nI tf), .int tu, .int tl, .ref t1, .int (nI n), .int tk, .int tr, .int tb])), (t1, .inl (T 3, 900, .inl tx)), (a0, .inr (5, [.int an, .int am, .int al, .int ao, .int au, .ref a1, .ref a2, .ref a3, .ref a4, .ref a5, .ref a6, .ref a7, .ref a8, .ref a9, .ref a10])), (a1, .inl (T 0, 10, .inl af1)), (a2, .inl (T 0, 10, .inl af2)), (a3, .inl (T 0, 10, .inl af3)), (a4, .inl (T 0, 10, .inl af4)), (a5, .inl (T 0, 10, .inl af5)), (a6, .inl (T 0, 10, .inl af6)), (a7, .inl (T 0, 10, .inl af7)), (a8, .inl (T 0, 10, .inl af8)), (a9, .inl (T 0, 10, .inl af9))]) rfl dX2_readStreet_9 (fun H locs V => ?_)
  refine lv_aload_n hx hb dX2_readStreet_12 rfl (lv_at hl 0 rfl) ?_
  refine lv_iconst (v := (nI 0)) hx hb dX2_readStreet_13 (by decide +kernel) ?_
  refine g_put hC V (ci := 2) uwX2 tyX2 tyX2_ok nmX2 0 rfl rfl 0 (by decide) w_129 rfl rfl rfl rfl (Nat.le_of_ble_eq_true rfl) (ws' := [(t0, .inr (2, [.int (nI 0), .int tu, .int tl, .ref t1, .int (nI n), .int tk, .int tr, .int tb])), (t1, .inl (T 3, 900, .inl tx)), (a0, .inr (5, [.int an, .int am, .int al, .int ao, .int au, .ref a1, .ref a2, .ref a3, .ref a4, .ref a5, .ref a6, .ref a7, .ref a8, .ref a9, .ref a10])), (a1, .inl (T 0, 10, .inl af1)), (a2, .inl (T 0, 10, .inl af2)), (a3, .inl (T 0, 10, .inl af3)), (a4, .inl (T 0, 10, .inl af4)), (a5, .inl (T 0, 10, .inl af5)), (a6, .inl (T 0, 10, .inl af6)), (a7, .inl (T 0, 10, .inl af7)), (a8, .inl (T 0, 10, .inl af8)), (a9, .inl (T 0, 10, .inl af9))]) rfl dX2_readStreet_14 (fun H locs V => ?_)
  refine lv_aload_n hx hb dX2_readStreet_17 rfl (lv_at hl 0 rfl) ?_
  refine lv_iconst (v := (nI 0)) hx hb dX2_readStreet_18 (by decide +kernel) ?_
  refine g_put hC V (ci := 2) uwX2 tyX2 tyX2_ok nmX2 0 rfl rfl 7 (by decide) w_138 rfl rfl rfl rfl (Nat.le_of_ble_eq_true rfl) (ws' := [(t0, .inr (2, [.int (nI 0), .int tu, .int tl, .ref t1, .int (nI n), .int tk, .int tr, .int (nI 0)])), (t1, .inl (T 3, 900, .inl tx)), (a0, .inr (5, [.int an, .int am, .int al, .int ao, .int au, .ref a1, .ref a2, .ref a3, .ref a4, .ref a5, .ref a6, .ref a7, .ref a8, .ref a9, .ref a10])), (a1, .inl (T 0, 10, .inl af1)), (a2, .inl (T 0, 10, .inl af2)), (a3, .inl (T 0, 10, .inl af3)), (a4, .inl (T 0, 10, .inl af4)), (a5, .inl (T 0, 10, .inl af5)), (a6, .inl (T 0, 10, .inl af6)), (a7, .inl (T 0, 10, .inl af7)), (a8, .inl (T 0, 10, .inl af8)), (a9, .inl (T 0, 10, .inl af9))]) rfl dX2_readStreet_19 (fun H locs V => ?_)
  refine lv_aload_n hx hb dX2_readStreet_22 rfl (lv_at hl 0 rfl) ?_
  refine lv_iconst (v := (nI 0)) hx hb dX2_readStreet_23 (by decide +kernel) ?_
  refine g_put hC V (ci := 2) uwX2 tyX2 tyX2_ok nmX2 0 rfl rfl 1 (by decide) w_130 rfl rfl rfl rfl (Nat.le_of_ble_eq_true rfl) (ws' := [(t0, .inr (2, [.int (nI 0), .int (nI 0), .int tl, .ref t1, .int (nI n), .int tk, .int tr, .int (nI 0)])), (t1, .inl (T 3, 900, .inl tx)), (a0, .inr (5, [.int an, .int am, .int al, .int ao, .int au, .ref a1, .ref a2, .ref a3, .ref a4, .ref a5, .ref a6, .ref a7, .ref a8, .ref a9, .ref a10])), (a1, .inl (T 0, 10, .inl af1)), (a2, .inl (T 0, 10, .inl af2)), (a3, .inl (T 0, 10, .inl af3)), (a4, .inl (T 0, 10, .inl af4)), (a5, .inl (T 0, 10, .inl af5)), (a6, .inl (T 0, 10, .inl af6)), (a7, .inl (T 0, 10, .inl af7)), (a8, .inl (T 0, 10, .inl af8)), (a9, .inl (T 0, 10, .inl af9))]) rfl dX2_readStreet_24 (fun H locs V => ?_)
  refine lv_aload_n hx hb dX2_readStreet_27 rfl (lv_at hl 0 rfl) ?_
  refine lv_iconst (v := (-1)) hx hb dX2_readStreet_28 (by decide +kernel) ?_
  refine g_put hC V (ci := 2) uwX2 tyX2 tyX2_ok nmX2 0 rfl rfl 2 (by decide) w_132 rfl rfl rfl rfl (Nat.le_of_ble_eq_true rfl) (ws' := [(t0, .inr (2, [.int (nI 0), .int (nI 0), .int (-1), .ref t1, .int (nI n), .int tk, .int tr, .int (nI 0)])), (t1, .inl (T 3, 900, .inl tx)), (a0, .inr (5, [.int an, .int am, .int al, .int ao, .int au, .ref a1, .ref a2, .ref a3, .ref a4, .ref a5, .ref a6, .ref a7, .ref a8, .ref a9, .ref a10])), (a1, .inl (T 0, 10, .inl af1)), (a2, .inl (T 0, 10, .inl af2)), (a3, .inl (T 0, 10, .inl af3)), (a4, .inl (T 0, 10, .inl af4)), (a5, .inl (T 0, 10, .inl af5)), (a6, .inl (T 0, 10, .inl af6)), (a7, .inl (T 0, 10, .inl af7)), (a8, .inl (T 0, 10, .inl af8)), (a9, .inl (T 0, 10, .inl af9))]) rfl dX2_readStreet_29 (fun H locs V => ?_)
  refine lv_aload_n hx hb dX2_readStreet_32 rfl (lv_at hl 2 rfl) ?_
  refine g_callVU (nA := 0) hC V hl.1 (s_clear l D T a0 an am al ao au a1 a2 a3 a4 a5 a6 a7 a8 a9 a10) w_302 w_303 w_304 w_3 w_305 (by decide +kernel) rfl ⟨(Nat.le_of_ble_eq_true rfl), (Nat.le_of_ble_eq_true rfl)⟩ 2 (ci := 5) rfl rfl [2] rfl rfl (Nat.le_of_ble_eq_true rfl) dX2_readStreet_33 ⟨(Nat.le_of_ble_eq_true rfl), (Nat.le_of_ble_eq_true rfl)⟩ rfl (fun r w1 H locs hQ V => ?_)
  obtain ⟨rfl, rfl⟩ := hQ
  have V : gW D T A s [(t0, .inr (2, [.int (nI 0), .int (nI 0), .int (-1), .ref t1, .int (nI n), .int tk, .int tr, .int (nI 0)])), (t1, .inl (T 3, 900, .inl tx)), (a0, .inr (5, [.int (nI 0), .int (nI 0), .int (nI 0), .int (nI 20), .int (nI 0), .ref a1, .ref a2, .ref a3, .ref a4, .ref a5, .ref a6, .ref a7, .ref a8, .ref a9, .ref a10])), (a1, .inl (T 0, 10, .inl af1)), (a2, .inl (T 0, 10, .inl af2)), (a3, .inl (T 0, 10, .inl af3)), (a4, .inl (T 0, 10, .inl af4)), (a5, .inl (T 0, 10, .inl af5)), (a6, .inl (T 0, 10, .inl af6)), (a7, .inl (T 0, 10, .inl af7)), (a8, .inl (T 0, 10, .inl af8)), (a9, .inl (T 0, 10, .inl af9))] H locs := V _ [2] rfl rfl rfl (by decide +kernel) rfl
  show W p l e _ s m args below meth c H locs _ _ _ (F0 m 36 ls [])
  refine lv_aload_n hx hb dX2_readStreet_36 rfl (lv_at hl 2 rfl) ?_
  refine g_get hC V (ci := 5) uwX5 2 rfl rfl 13 (by decide) w_83 rfl rfl dX2_readStreet_37 ?_
  refine lv_iconst (v := (-1)) hx hb dX2_readStreet_40 (by decide +kernel) ?_
  refine g_callSU (nA := 2) hC V hl.1 (c_fill10 l D T a9 (-1) af9) w_306 w_307 w_11 w_308 (by decide +kernel) rfl ⟨(Nat.le_of_ble_eq_true rfl), (Nat.le_of_ble_eq_true rfl)⟩ [11] rfl rfl (Nat.le_of_ble_eq_true rfl) dX2_readStreet_41 ⟨(Nat.le_of_ble_eq_true rfl), (Nat.le_of_ble_eq_true rfl)⟩ rfl (fun r w1 H locs hQ V => ?_)
  obtain ⟨gf, rfl, rfl, f_1⟩ := hQ
  have V : gW D T A s [(t0, .inr (2, [.int (nI 0), .int (nI 0), .int (-1), .ref t1, .int (nI n), .int tk, .int tr, .int (nI 0)])), (t1, .inl (T 3, 900, .inl tx)), (a0, .inr (5, [.int (nI 0), .int (nI 0), .int (nI 0), .int (nI 20), .int (nI 0), .ref a1, .ref a2, .ref a3, .ref a4, .ref a5, .ref a6, .ref a7, .ref a8, .ref a9, .ref a10])), (a1, .inl (T 0, 10, .inl af1)), (a2, .inl (T 0, 10, .inl af2)), (a3, .inl (T 0, 10, .inl af3)), (a4, .inl (T 0, 10, .inl af4)), (a5, .inl (T 0, 10, .inl af5)), (a6, .inl (T 0, 10, .inl af6)), (a7, .inl (T 0, 10, .inl af7)), (a8, .inl (T 0, 10, .inl af8)), (a9, .inl (T 0, 10, .inl gf))] H locs := V _ [11] rfl rfl rfl (by decide +kernel) rfl
  show W p l e _ s m args below meth c H locs _ _ _ (F0 m 44 ls [])
  have hft : ∀ i, i < 10 → (bd (gf i) 0 ∨ gf i = -1) := fun i h => Or.inr (f_1 i h)
  have hgf := f_1
  refine lv_aload_n hx hb dX2_readStreet_44 rfl (lv_at hl 0 rfl) ?_
  refine g_callVU (nA := 0) hC V hl.1 (f_nextToken l D T ft nu0 wa0 t0 (nI 0) 0 (-1) t1 n tk tr 0 tx (by first | assumption | omega) (by first | assumption | omega) (by omega) (by omega) rfl) w_309 w_311 w_s0 w_4 w_312 (by decide +kernel) rfl ⟨(Nat.le_of_ble_eq_true rfl), (Nat.le_of_ble_eq_true rfl)⟩ 0 (ci := 2) rfl rfl [0, 1] rfl rfl (Nat.le_of_ble_eq_true rfl) dX2_readStreet_45 ⟨(Nat.le_of_ble_eq_true rfl), (Nat.le_of_ble_eq_true rfl)⟩ rfl (fun r w1 H locs hQ V => ?_)
  obtain ⟨p2_2, rfl, rfl, f_3⟩ := hQ
  have V : gW D T A s [(t0, .inr (2, [.int (nI 0), .int (nI (cF p2_2)), .int (cP p2_2), .ref t1, .int (nI n), .int (nI (cK p2_2.2.2.1)), .int (nI p2_2.1), .int (nI p2_2.2.1)])), (t1, .inl (T 3, 900, .inl tx)), (a0, .inr (5, [.int (nI 0), .int (nI 0), .int (nI 0), .int (nI 20), .int (nI 0), .ref a1, .ref a2, .ref a3, .ref a4, .ref a5, .ref a6, .ref a7, .ref a8, .ref a9, .ref a10])), (a1, .inl (T 0, 10, .inl af1)), (a2, .inl (T 0, 10, .inl af2)), (a3, .inl (T 0, 10, .inl af3)), (a4, .inl (T 0, 10, .inl af4)), (a5, .inl (T 0, 10, .inl af5)), (a6, .inl (T 0, 10, .inl af6)), (a7, .inl (T 0, 10, .inl af7)), (a8, .inl (T 0, 10, .inl af8)), (a9, .inl (T 0, 10, .inl gf))] H locs := V _ [0, 0] rfl rfl rfl (by decide +kernel) rfl
  show W p l e _ s m args below meth c H locs _ _ _ (F0 m 48 ls [])
  have hP0 : PI ft n p2_2 := by rw [f_3]; exact PI_nx (Nat.zero_le _) (Nat.zero_le _)
  obtain ⟨_, _, _, _, -⟩ := id hP0
  have hi0 : (0, p2_2, frI ff) = itS ft n (0, nxS ft n (0, 0, 0, nu0, 0, wa0), frI ff) 0 := by rw [f_3]; rfl
  refine lv_iconst (v := (nI 0)) hx hb dX2_readStreet_48 (by decide +kernel) ?_
  refine lv_istore_n (lv' := [(3, .int (nI 0)), (0, .ref t0), (1, .int (nI n)), (2, .ref a0)]) hx hb dX2_readStreet_49 rfl hl (by decide) rfl (fun ls hl => ?_)
  have L_4 : ∀ (fu : Nat) (k : Nat) (nv : Nat) (liv : Int32) (lov : Int32) (b1 : Nat → Int32) (b2_ : Nat → Int32) (b3 : Nat → Int32) (b4 : Nat → Int32) (b5 : Nat → Int32) (b6 : Nat → Int32) (b7 : Nat → Int32) (b8 : Nat → Int32) (b9 : Nat → Int32) (pq : PS) (nq : Nat) (fq : Nat → Int32), k ≤ n + 1 → nv ≤ 10 → (∀ i, i < 10 → (bd (b9 i) nv ∨ b9 i = -1)) → (nq, pq, fq) = itS ft n (0, nxS ft n (0, 0, 0, nu0, 0, wa0), frI ff) k → (∀ j, j < k → ¬ cst (itS ft n (0, nxS ft n (0, 0, 0, nu0, 0, wa0), frI ff) j)) → PI ft n pq → (cF pq = 0 → nv = nq ∧ RF nq fq b1 b2_ b3 b4 b5 b6 b7 b9 lov liv) → n + 1 - k < fu → ∀ (H : Heap) (locs : List Loc) (ls : Array Slot), gW D T A s [(t0, .inr (2, [.int (nI 0), .int (nI (cF pq)), .int (cP pq), .ref t1, .int (nI n), .int (nI (cK pq.2.2.1)), .int (nI pq.1), .int (nI pq.2.1)])), (t1, .inl (T 3, 900, .inl tx)), (a0, .inr (5, [.int (nI nv), .int (nI 0), .int liv, .int lov, .int (nI 0), .ref a1, .ref a2, .ref a3, .ref a4, .ref a5, .ref a6, .ref a7, .ref a8, .ref a9, .ref a10])), (a1, .inl (T 0, 10, .inl b1)), (a2, .inl (T 0, 10, .inl b2_)), (a3, .inl (T 0, 10, .inl b3)), (a4, .inl (T 0, 10, .inl b4)), (a5, .inl (T 0, 10, .inl b5)), (a6, .inl (T 0, 10, .inl b6)), (a7, .inl (T 0, 10, .inl b7)), (a8, .inl (T 0, 10, .inl b8)), (a9, .inl (T 0, 10, .inl b9))] H locs → lv_has ls 4 [(3, .int (nI k)), (0, .ref t0), (1, .int (nI n)), (2, .ref a0)] → W p l e (rmD 7 0 0) s m args below meth c H locs 0 0 (MQ below (gQ D A (q_f_readStreet T ft ff nu0 wa0 t0 n a0 tf tu tl t1 te tk tr tb tx an am al ao au a1 a2 a3 a4 a5 a6 a7 a8 a9 a10 af1 af2 af3 af4 af5 af6 af7 af8 af9)) args s 0 0 A) (F0 m 50 ls []) := by
    intro fu_50
    induction fu_50 with
    | zero => intro k nv liv lov b1 b2_ b3 b4 b5 b6 b7 b8 b9 pq nq fq hk hnv hto hit hns hP hRF hmu; exact absurd hmu (Nat.not_lt_zero _)
    | succ fu_50 ih_50 =>
      intro k nv liv lov b1 b2_ b3 b4 b5 b6 b7 b8 b9 pq nq fq hk hnv hto hit hns hP hRF hmu_50 H locs ls V hl
      obtain ⟨_, _, _, _, -⟩ := id hP
      have hcf1 := cF_le (p := pq) (by omega)
      have hck1 := cK_le pq.2.2.1
      refine lv_iload_n hx hb dX2_readStreet_50 rfl (lv_at hl 0 rfl) ?_
      refine lv_aload_n hx hb dX2_readStreet_51 rfl (lv_at hl 1 rfl) ?_
      refine g_get hC V (ci := 2) uwX2 0 rfl rfl 4 (by decide) w_135 rfl rfl dX2_readStreet_52 ?_
      refine lv_icmp_gt (tgt := 150) hx hb dX2_readStreet_55 (by decide) (fun c_5 => ?_) (fun c_5 => ?_)
      · skip
        have c_5 := b_lt (by omega) (by omega) c_5
        refine lv_aload_n hx hb dX2_readStreet_150 rfl (lv_at hl 3 rfl) ?_
        refine g_callVU (nA := 0) hC V hl.1 (s_lay_f l D T a0 nv (nI 0) liv lov (nI 0) a1 a2 a3 a4 a5 a6 a7 a8 a9 a10 b9 hnv (fun i h => hto i (by omega))) w_409 w_410 w_411 w_3 w_412 (by decide +kernel) rfl ⟨(Nat.le_of_ble_eq_true rfl), (Nat.le_of_ble_eq_true rfl)⟩ 2 (ci := 5) rfl rfl [2, 11] rfl rfl (Nat.le_of_ble_eq_true rfl) dX2_readStreet_151 ⟨(Nat.le_of_ble_eq_true rfl), (Nat.le_of_ble_eq_true rfl)⟩ rfl (fun r w1 H locs hQ V => ?_)
        obtain ⟨g_6, rfl, rfl, f_7, f_8⟩ := hQ
        have V : gW D T A s [(t0, .inr (2, [.int (nI 0), .int (nI (cF pq)), .int (cP pq), .ref t1, .int (nI n), .int (nI (cK pq.2.2.1)), .int (nI pq.1), .int (nI pq.2.1)])), (t1, .inl (T 3, 900, .inl tx)), (a0, .inr (5, [.int (nI nv), .int (nI 0), .int liv, .int lov, .int (nI 0), .ref a1, .ref a2, .ref a3, .ref a4, .ref a5, .ref a6, .ref a7, .ref a8, .ref a9, .ref a10])), (a1, .inl (T 0, 10, .inl b1)), (a2, .inl (T 0, 10, .inl b2_)), (a3, .inl (T 0, 10, .inl b3)), (a4, .inl (T 0, 10, .inl b4)), (a5, .inl (T 0, 10, .inl b5)), (a6, .inl (T 0, 10, .inl b6)), (a7, .inl (T 0, 10, .inl b7)), (a8, .inl (T 0, 10, .inl b8)), (a9, .inl (T 0, 10, .inl g_6))] H locs := V _ [2, 8] rfl rfl rfl (by decide +kernel) rfl
        show W p l e _ s m args below meth c H locs _ _ _ (F0 m 154 ls [])
        exact g_vret (Qr := (q_f_readStreet T ft ff nu0 wa0 t0 n a0 tf tu tl t1 te tk tr tb tx an am al ao au a1 a2 a3 a4 a5 a6 a7 a8 a9 a10 af1 af2 af3 af4 af5 af6 af7 af8 af9)) hC V ⟨(Nat.le_of_ble_eq_true rfl), (Nat.le_of_ble_eq_true rfl)⟩ ⟨(nq, pq, fq), nv, liv, lov, b1, b2_, b3, b4, b5, b6, b7, b8, g_6, rfl, rfl, hnv, (by assumption), ⟨k, hit, (cst_long trivial hP0s hit hns (by omega) hP), hns⟩, (fun h => by obtain ⟨q1, q2⟩ := hRF h; exact ⟨q1, hnv, b9, q2, by assumption⟩)⟩ dX2_readStreet_154
      · skip
        have c_5 := b_nlt (by omega) (by omega) c_5
        refine lv_aload_n hx hb dX2_readStreet_58 rfl (lv_at hl 1 rfl) ?_
        refine g_get hC V (ci := 2) uwX2 0 rfl rfl 1 (by decide) w_130 rfl rfl dX2_readStreet_59 ?_
        refine lv_if_ne (tgt := 150) hx hb dX2_readStreet_62 (by decide) (fun c_9 => ?_) (fun c_9 => ?_)
        · skip
          rw [show (0 : Int32) = nI 0 from rfl] at c_9
          have c_9 := b_ne (by omega) (by omega) c_9
          refine lv_aload_n hx hb dX2_readStreet_150 rfl (lv_at hl 3 rfl) ?_
          refine g_callVU (nA := 0) hC V hl.1 (s_lay_f l D T a0 nv (nI 0) liv lov (nI 0) a1 a2 a3 a4 a5 a6 a7 a8 a9 a10 b9 hnv (fun i h => hto i (by omega))) w_409 w_410 w_411 w_3 w_412 (by decide +kernel) rfl ⟨(Nat.le_of_ble_eq_true rfl), (Nat.le_of_ble_eq_true rfl)⟩ 2 (ci := 5) rfl rfl [2, 11] rfl rfl (Nat.le_of_ble_eq_true rfl) dX2_readStreet_151 ⟨(Nat.le_of_ble_eq_true rfl), (Nat.le_of_ble_eq_true rfl)⟩ rfl (fun r w1 H locs hQ V => ?_)
          obtain ⟨g_10, rfl, rfl, f_11, f_12⟩ := hQ
          have V : gW D T A s [(t0, .inr (2, [.int (nI 0), .int (nI (cF pq)), .int (cP pq), .ref t1, .int (nI n), .int (nI (cK pq.2.2.1)), .int (nI pq.1), .int (nI pq.2.1)])), (t1, .inl (T 3, 900, .inl tx)), (a0, .inr (5, [.int (nI nv), .int (nI 0), .int liv, .int lov, .int (nI 0), .ref a1, .ref a2, .ref a3, .ref a4, .ref a5, .ref a6, .ref a7, .ref a8, .ref a9, .ref a10])), (a1, .inl (T 0, 10, .inl b1)), (a2, .inl (T 0, 10, .inl b2_)), (a3, .inl (T 0, 10, .inl b3)), (a4, .inl (T 0, 10, .inl b4)), (a5, .inl (T 0, 10, .inl b5)), (a6, .inl (T 0, 10, .inl b6)), (a7, .inl (T 0, 10, .inl b7)), (a8, .inl (T 0, 10, .inl b8)), (a9, .inl (T 0, 10, .inl g_10))] H locs := V _ [2, 8] rfl rfl rfl (by decide +kernel) rfl
          show W p l e _ s m args below meth c H locs _ _ _ (F0 m 154 ls [])
          exact g_vret (Qr := (q_f_readStreet T ft ff nu0 wa0 t0 n a0 tf tu tl t1 te tk tr tb tx an am al ao au a1 a2 a3 a4 a5 a6 a7 a8 a9 a10 af1 af2 af3 af4 af5 af6 af7 af8 af9)) hC V ⟨(Nat.le_of_ble_eq_true rfl), (Nat.le_of_ble_eq_true rfl)⟩ ⟨(nq, pq, fq), nv, liv, lov, b1, b2_, b3, b4, b5, b6, b7, b8, g_10, rfl, rfl, hnv, (by assumption), ⟨k, hit, (Or.inl (by show ¬ cF pq = 0; omega)), hns⟩, (fun h => by obtain ⟨q1, q2⟩ := hRF h; exact ⟨q1, hnv, b9, q2, by assumption⟩)⟩ dX2_readStreet_154
        · skip
          rw [show (0 : Int32) = nI 0 from rfl] at c_9
          have c_9 := b_eq (by omega) (by omega) c_9
          have hc0 := c_9
          obtain ⟨env, hR⟩ := hRF hc0
          subst env
          refine lv_aload_n hx hb dX2_readStreet_65 rfl (lv_at hl 1 rfl) ?_
          refine g_get hC V (ci := 2) uwX2 0 rfl rfl 5 (by decide) w_136 rfl rfl dX2_readStreet_66 ?_
          refine lv_iconst (v := (nI 5)) hx hb dX2_readStreet_69 (by decide +kernel) ?_
          refine lv_icmp_eq (tgt := 150) hx hb dX2_readStreet_70 (by decide) (fun c_13 => ?_) (fun c_13 => ?_)
          · skip
            have c_13 := b_eq (by omega) (by omega) c_13
            refine lv_aload_n hx hb dX2_readStreet_150 rfl (lv_at hl 3 rfl) ?_
            refine g_callVU (nA := 0) hC V hl.1 (s_lay_f l D T a0 nv (nI 0) liv lov (nI 0) a1 a2 a3 a4 a5 a6 a7 a8 a9 a10 b9 hnv (fun i h => hto i (by omega))) w_409 w_410 w_411 w_3 w_412 (by decide +kernel) rfl ⟨(Nat.le_of_ble_eq_true rfl), (Nat.le_of_ble_eq_true rfl)⟩ 2 (ci := 5) rfl rfl [2, 11] rfl rfl (Nat.le_of_ble_eq_true rfl) dX2_readStreet_151 ⟨(Nat.le_of_ble_eq_true rfl), (Nat.le_of_ble_eq_true rfl)⟩ rfl (fun r w1 H locs hQ V => ?_)
            obtain ⟨g_14, rfl, rfl, f_15, f_16⟩ := hQ
            have V : gW D T A s [(t0, .inr (2, [.int (nI 0), .int (nI (cF pq)), .int (cP pq), .ref t1, .int (nI n), .int (nI (cK pq.2.2.1)), .int (nI pq.1), .int (nI pq.2.1)])), (t1, .inl (T 3, 900, .inl tx)), (a0, .inr (5, [.int (nI nv), .int (nI 0), .int liv, .int lov, .int (nI 0), .ref a1, .ref a2, .ref a3, .ref a4, .ref a5, .ref a6, .ref a7, .ref a8, .ref a9, .ref a10])), (a1, .inl (T 0, 10, .inl b1)), (a2, .inl (T 0, 10, .inl b2_)), (a3, .inl (T 0, 10, .inl b3)), (a4, .inl (T 0, 10, .inl b4)), (a5, .inl (T 0, 10, .inl b5)), (a6, .inl (T 0, 10, .inl b6)), (a7, .inl (T 0, 10, .inl b7)), (a8, .inl (T 0, 10, .inl b8)), (a9, .inl (T 0, 10, .inl g_14))] H locs := V _ [2, 8] rfl rfl rfl (by decide +kernel) rfl
            show W p l e _ s m args below meth c H locs _ _ _ (F0 m 154 ls [])
            exact g_vret (Qr := (q_f_readStreet T ft ff nu0 wa0 t0 n a0 tf tu tl t1 te tk tr tb tx an am al ao au a1 a2 a3 a4 a5 a6 a7 a8 a9 a10 af1 af2 af3 af4 af5 af6 af7 af8 af9)) hC V ⟨(Nat.le_of_ble_eq_true rfl), (Nat.le_of_ble_eq_true rfl)⟩ ⟨(nv, pq, fq), nv, liv, lov, b1, b2_, b3, b4, b5, b6, b7, b8, g_14, rfl, rfl, hnv, (by assumption), ⟨k, hit, (Or.inr (by show pq.2.2.1 = 11; exact cK_5.mp (by omega))), hns⟩, (fun h => by obtain ⟨q1, q2⟩ := hRF h; exact ⟨q1, hnv, b9, q2, by assumption⟩)⟩ dX2_readStreet_154
          · skip
            have c_13 := b_ne (by omega) (by omega) c_13
            have hk11 : ¬ pq.2.2.1 = 11 := fun q => c_13 (cK_5.mpr q)
            refine lv_aload_n hx hb dX2_readStreet_73 rfl (lv_at hl 1 rfl) ?_
            refine g_ldcS hC V 0 rfl dX2_readStreet_74 ?_
            refine g_callVU (nA := 1) hC V hl.1 (f_isWord l D T 0 ft pq t0 (nI 0) t1 n tx (by first | assumption | omega) (by first | assumption | omega) (by first | assumption | omega) (by decide)) w_322 w_324 w_s3 w_4 w_325 (by decide +kernel) rfl ⟨(Nat.le_of_ble_eq_true rfl), (Nat.le_of_ble_eq_true rfl)⟩ 0 (ci := 2) rfl rfl [0, 1] rfl rfl (Nat.le_of_ble_eq_true rfl) dX2_readStreet_76 ⟨(Nat.le_of_ble_eq_true rfl), (Nat.le_of_ble_eq_true rfl)⟩ rfl (fun r w1 H locs hQ V => ?_)
            rcases hQ with ⟨rfl, rfl, f_17⟩ | ⟨rfl, rfl, f_18⟩
            · have V : gW D T A s [(t0, .inr (2, [.int (nI 0), .int (nI (cF pq)), .int (cP pq), .ref t1, .int (nI n), .int (nI (cK pq.2.2.1)), .int (nI pq.1), .int (nI pq.2.1)])), (t1, .inl (T 3, 900, .inl tx)), (a0, .inr (5, [.int (nI nv), .int (nI 0), .int liv, .int lov, .int (nI 0), .ref a1, .ref a2, .ref a3, .ref a4, .ref a5, .ref a6, .ref a7, .ref a8, .ref a9, .ref a10])), (a1, .inl (T 0, 10, .inl b1)), (a2, .inl (T 0, 10, .inl b2_)), (a3, .inl (T 0, 10, .inl b3)), (a4, .inl (T 0, 10, .inl b4)), (a5, .inl (T 0, 10, .inl b5)), (a6, .inl (T 0, 10, .inl b6)), (a7, .inl (T 0, 10, .inl b7)), (a8, .inl (T 0, 10, .inl b8)), (a9, .inl (T 0, 10, .inl b9))] H locs := V _ [0, 0] rfl rfl rfl (by decide +kernel) rfl
              show W p l e _ s m args below meth c H locs _ _ _ (F0 m 79 ls [.int (nI 1)])
              have hk0 := f_17
              refine lv_if_eq (tgt := 90) hx hb dX2_readStreet_79 (by decide) (fun c => absurd (show (nI 1) = 0 from c) (by decide +kernel)) (fun _ => ?_)
              refine lv_aload_n hx hb dX2_readStreet_82 rfl (lv_at hl 1 rfl) ?_
              refine lv_aload_n hx hb dX2_readStreet_83 rfl (lv_at hl 3 rfl) ?_
              refine g_callVU (nA := 1) hC V hl.1 (f_readSmith l D T ft pq t0 a0 (nI 0) t1 n tx nv (nI 0) liv lov (nI 0) a1 a2 a3 a4 a5 a6 a7 a8 a9 a10 b1 b2_ b3 b4 b5 b6 b7 b8 (by first | assumption | omega) (by first | assumption | omega) hP hc0 (by omega)) w_374 w_376 w_s4 w_4 w_377 (by decide +kernel) rfl ⟨(Nat.le_of_ble_eq_true rfl), (Nat.le_of_ble_eq_true rfl)⟩ 0 (ci := 2) rfl rfl [0, 1, 2, 3, 4, 5, 6, 7, 8, 9, 10] rfl rfl (Nat.le_of_ble_eq_true rfl) dX2_readStreet_84 ⟨(Nat.le_of_ble_eq_true rfl), (Nat.le_of_ble_eq_true rfl)⟩ rfl (fun r w1 H locs hQ V => ?_)
              obtain ⟨p2_19, n2_20, g1_21, g2_22, g3_23, g4_24, g5_25, g6_26, g7_27, g8_28, rfl, rfl, f_29, f_30, f_31, f_32, f_33, f_34, f_35, f_36, f_37, f_38, f_39, f_40, f_41⟩ := hQ
              have V : gW D T A s [(t0, .inr (2, [.int (nI 0), .int (nI (cF p2_19)), .int (cP p2_19), .ref t1, .int (nI n), .int (nI (cK p2_19.2.2.1)), .int (nI p2_19.1), .int (nI p2_19.2.1)])), (t1, .inl (T 3, 900, .inl tx)), (a0, .inr (5, [.int (nI n2_20), .int (nI 0), .int liv, .int lov, .int (nI 0), .ref a1, .ref a2, .ref a3, .ref a4, .ref a5, .ref a6, .ref a7, .ref a8, .ref a9, .ref a10])), (a1, .inl (T 0, 10, .inl g1_21)), (a2, .inl (T 0, 10, .inl g2_22)), (a3, .inl (T 0, 10, .inl g3_23)), (a4, .inl (T 0, 10, .inl g4_24)), (a5, .inl (T 0, 10, .inl g5_25)), (a6, .inl (T 0, 10, .inl g6_26)), (a7, .inl (T 0, 10, .inl g7_27)), (a8, .inl (T 0, 10, .inl g8_28)), (a9, .inl (T 0, 10, .inl b9))] H locs := V _ [0, 0, 0, 0, 0, 0, 0, 0, 0, 0, 0] rfl rfl rfl (by decide +kernel) rfl
              show W p l e _ s m args below meth c H locs _ _ _ (F0 m 87 ls [])
              replace f_32 := hid f_32
              replace f_33 := hid f_33
              replace f_34 := hid f_34
              replace f_35 := hid f_35
              replace f_36 := hid f_36
              replace f_37 := hid f_37
              replace f_38 := hid f_38
              replace f_39 := hid f_39
              replace f_40 := hid f_40
              replace f_41 := hid f_41
              have hPl : PI ft n p2_19 := by rw [f_29]; exact PI_sm hP
              obtain ⟨_, _, _, _, -⟩ := id hPl
              have hcfl := cF_le (p := p2_19) (by omega)
              refine lv_goto (tgt := 139) hx hb dX2_readStreet_87 (by decide) ?_
              refine lv_aload_n hx hb dX2_readStreet_139 rfl (lv_at hl 1 rfl) ?_
              refine lv_aload_n hx hb dX2_readStreet_140 rfl (lv_at hl 3 rfl) ?_
              refine g_callVU (nA := 1) hC V hl.1 (f_endLine l D T ft p2_19 t0 a0 (nI 0) t1 n tx (nI n2_20) (nI 0) liv lov (nI 0) a1 a2 a3 a4 a5 a6 a7 a8 a9 a10 (by first | assumption | omega) (by first | assumption | omega) hPl) w_405 w_407 w_s8 w_4 w_408 (by decide +kernel) rfl ⟨(Nat.le_of_ble_eq_true rfl), (Nat.le_of_ble_eq_true rfl)⟩ 0 (ci := 2) rfl rfl [0, 1, 2] rfl rfl (Nat.le_of_ble_eq_true rfl) dX2_readStreet_141 ⟨(Nat.le_of_ble_eq_true rfl), (Nat.le_of_ble_eq_true rfl)⟩ rfl (fun r w1 H locs hQ V => ?_)
              obtain ⟨p2_42, ll_43, rfl, rfl, f_44, f_45⟩ := hQ
              have V : gW D T A s [(t0, .inr (2, [.int (nI 0), .int (nI (cF p2_42)), .int (cP p2_42), .ref t1, .int (nI n), .int (nI (cK p2_42.2.2.1)), .int (nI p2_42.1), .int (nI p2_42.2.1)])), (t1, .inl (T 3, 900, .inl tx)), (a0, .inr (5, [.int (nI n2_20), .int (nI 0), .int ll_43, .int lov, .int (nI 0), .ref a1, .ref a2, .ref a3, .ref a4, .ref a5, .ref a6, .ref a7, .ref a8, .ref a9, .ref a10])), (a1, .inl (T 0, 10, .inl g1_21)), (a2, .inl (T 0, 10, .inl g2_22)), (a3, .inl (T 0, 10, .inl g3_23)), (a4, .inl (T 0, 10, .inl g4_24)), (a5, .inl (T 0, 10, .inl g5_25)), (a6, .inl (T 0, 10, .inl g6_26)), (a7, .inl (T 0, 10, .inl g7_27)), (a8, .inl (T 0, 10, .inl g8_28)), (a9, .inl (T 0, 10, .inl b9))] H locs := V _ [0, 0, 0] rfl rfl rfl (by decide +kernel) rfl
              show W p l e _ s m args below meth c H locs _ _ _ (F0 m 144 ls [])
              have hl1 : lnA ft n (nv, pq, fq) = ((smN ft n nv pq), p2_19, (smF ft n nv pq fq)) := (by rw [ln_sm hk0, ← f_29])
              have hl2 : p2_42 = edS ft n p2_19 := f_44
              have hln2 : ((smN ft n nv pq), p2_42, upd (smF ft n nv pq fq) 3 ((smF ft n nv pq fq) 3 + nI 1)) = lnS ft n (nv, pq, fq) := by unfold lnS; rw [hl1, ← hl2]
              have hln : ((smN ft n nv pq), p2_42, upd (smF ft n nv pq fq) 3 ((smF ft n nv pq fq) 3 + nI 1)) = itS ft n (0, nxS ft n (0, 0, 0, nu0, 0, wa0), frI ff) (k + 1) := by show _ = lnS ft n (itS ft n (0, nxS ft n (0, 0, 0, nu0, 0, wa0), frI ff) k); rw [← hit]; exact hln2
              have hP2 : PI ft n p2_42 := by rw [f_44]; exact PI_ed hPl
              obtain ⟨_, _, _, _, -⟩ := id hP2
              have hcf2 := cF_le (p := p2_42) (by omega)
              have hck2 := cK_le p2_42.2.2.1
              have hcm : cF p2_42 = 0 → cF p2_19 = 0 := fun h => ed_cF (Eq.trans (congrArg cF f_44.symm) h)
              refine lv_iinc (v := (nI (k + 1))) (lv' := [(3, .int (nI (k + 1))), (0, .ref t0), (1, .int (nI n)), (2, .ref a0)]) hx hb dX2_readStreet_144 hl (k := 0) rfl (nI_1 _) (by decide) rfl (fun ls hl => ?_)
              refine lv_goto (tgt := 50) hx hb dX2_readStreet_147 (by decide) ?_
              exact ih_50 (k + 1) n2_20 ll_43 lov g1_21 g2_22 g3_23 g4_24 g5_25 g6_26 g7_27 g8_28 b9 p2_42 (smN ft n nv pq) (upd (smF ft n nv pq fq) 3 ((smF ft n nv pq fq) 3 + nI 1)) (by omega) (by omega) (by first | assumption | exact fun i h => (hto i h).elim (fun q => Or.inl (bd_le q (by omega))) Or.inr) hln (no_cst hit hc0 hk11 hns) hP2 (fun h => ⟨((unh f_33) (hcm h)).trans (smN_0 (by have := (unh f_32) (hcm h); omega) (by have q := (cF_0.mp (hcm h)).1; rw [f_29, smS_n (by have := (unh f_32) (hcm h); omega)] at q; exact q)).symm, by rw [smN_0 (by have := (unh f_32) (hcm h); omega) (by have q := (cF_0.mp (hcm h)).1; rw [f_29, smS_n (by have := (unh f_32) (hcm h); omega)] at q; exact q), smF_0 (by have := (unh f_32) (hcm h); omega) (by have q := (cF_0.mp (hcm h)).1; rw [f_29, smS_n (by have := (unh f_32) (hcm h); omega)] at q; exact q)]; exact RF_ln (by rw [(unh f_34) (hcm h), (unh f_35) (hcm h), (unh f_36) (hcm h), (unh f_37) (hcm h), (unh f_38) (hcm h), (unh f_39) (hcm h), (unh f_40) (hcm h)]; exact RF_sm hR ((unh f_32) (hcm h))) (f_45 h)⟩) (by omega) _ _ _ V (lv_sub hl [0, 1, 2, 3] rfl)
            · have V : gW D T A s [(t0, .inr (2, [.int (nI 0), .int (nI (cF pq)), .int (cP pq), .ref t1, .int (nI n), .int (nI (cK pq.2.2.1)), .int (nI pq.1), .int (nI pq.2.1)])), (t1, .inl (T 3, 900, .inl tx)), (a0, .inr (5, [.int (nI nv), .int (nI 0), .int liv, .int lov, .int (nI 0), .ref a1, .ref a2, .ref a3, .ref a4, .ref a5, .ref a6, .ref a7, .ref a8, .ref a9, .ref a10])), (a1, .inl (T 0, 10, .inl b1)), (a2, .inl (T 0, 10, .inl b2_)), (a3, .inl (T 0, 10, .inl b3)), (a4, .inl (T 0, 10, .inl b4)), (a5, .inl (T 0, 10, .inl b5)), (a6, .inl (T 0, 10, .inl b6)), (a7, .inl (T 0, 10, .inl b7)), (a8, .inl (T 0, 10, .inl b8)), (a9, .inl (T 0, 10, .inl b9))] H locs := V _ [0, 0] rfl rfl rfl (by decide +kernel) rfl
              show W p l e _ s m args below meth c H locs _ _ _ (F0 m 79 ls [.int (nI 0)])
              have hk0 := f_18
              refine lv_if_eq (tgt := 90) hx hb dX2_readStreet_79 (by decide) (fun _ => ?_) (fun c => absurd (show (nI 0) = 0 by decide +kernel) c)
              refine lv_aload_n hx hb dX2_readStreet_90 rfl (lv_at hl 1 rfl) ?_
              refine g_ldcS hC V 6 rfl dX2_readStreet_91 ?_
              refine g_callVU (nA := 1) hC V hl.1 (f_isWord l D T 6 ft pq t0 (nI 0) t1 n tx (by first | assumption | omega) (by first | assumption | omega) (by first | assumption | omega) (by decide)) w_322 w_324 w_s3 w_4 w_325 (by decide +kernel) rfl ⟨(Nat.le_of_ble_eq_true rfl), (Nat.le_of_ble_eq_true rfl)⟩ 0 (ci := 2) rfl rfl [0, 1] rfl rfl (Nat.le_of_ble_eq_true rfl) dX2_readStreet_93 ⟨(Nat.le_of_ble_eq_true rfl), (Nat.le_of_ble_eq_true rfl)⟩ rfl (fun r w1 H locs hQ V => ?_)
              rcases hQ with ⟨rfl, rfl, f_46⟩ | ⟨rfl, rfl, f_47⟩
              · have V : gW D T A s [(t0, .inr (2, [.int (nI 0), .int (nI (cF pq)), .int (cP pq), .ref t1, .int (nI n), .int (nI (cK pq.2.2.1)), .int (nI pq.1), .int (nI pq.2.1)])), (t1, .inl (T 3, 900, .inl tx)), (a0, .inr (5, [.int (nI nv), .int (nI 0), .int liv, .int lov, .int (nI 0), .ref a1, .ref a2, .ref a3, .ref a4, .ref a5, .ref a6, .ref a7, .ref a8, .ref a9, .ref a10])), (a1, .inl (T 0, 10, .inl b1)), (a2, .inl (T 0, 10, .inl b2_)), (a3, .inl (T 0, 10, .inl b3)), (a4, .inl (T 0, 10, .inl b4)), (a5, .inl (T 0, 10, .inl b5)), (a6, .inl (T 0, 10, .inl b6)), (a7, .inl (T 0, 10, .inl b7)), (a8, .inl (T 0, 10, .inl b8)), (a9, .inl (T 0, 10, .inl b9))] H locs := V _ [0, 0] rfl rfl rfl (by decide +kernel) rfl
                show W p l e _ s m args below meth c H locs _ _ _ (F0 m 96 ls [.int (nI 1)])
                have hk6 := f_46
                refine lv_if_eq (tgt := 107) hx hb dX2_readStreet_96 (by decide) (fun c => absurd (show (nI 1) = 0 from c) (by decide +kernel)) (fun _ => ?_)
                refine lv_aload_n hx hb dX2_readStreet_99 rfl (lv_at hl 1 rfl) ?_
                refine lv_aload_n hx hb dX2_readStreet_100 rfl (lv_at hl 3 rfl) ?_
                refine g_callVU (nA := 1) hC V hl.1 (f_readBlows l D T ft pq t0 a0 (nI 0) t1 n tx nv (nI 0) liv lov (nI 0) a1 a2 a3 a4 a5 a6 a7 a8 a9 a10 b9 (by first | assumption | omega) (by first | assumption | omega) hP hc0 (by omega) hto) w_400 w_402 w_s7 w_4 w_403 (by decide +kernel) rfl ⟨(Nat.le_of_ble_eq_true rfl), (Nat.le_of_ble_eq_true rfl)⟩ 0 (ci := 2) rfl rfl [0, 1, 2, 11] rfl rfl (Nat.le_of_ble_eq_true rfl) dX2_readStreet_101 ⟨(Nat.le_of_ble_eq_true rfl), (Nat.le_of_ble_eq_true rfl)⟩ rfl (fun r w1 H locs hQ V => ?_)
                obtain ⟨p2_48, g_49, rfl, rfl, f_50, f_51, f_52⟩ := hQ
                have V : gW D T A s [(t0, .inr (2, [.int (nI 0), .int (nI (cF p2_48)), .int (cP p2_48), .ref t1, .int (nI n), .int (nI (cK p2_48.2.2.1)), .int (nI p2_48.1), .int (nI p2_48.2.1)])), (t1, .inl (T 3, 900, .inl tx)), (a0, .inr (5, [.int (nI nv), .int (nI 0), .int liv, .int lov, .int (nI 0), .ref a1, .ref a2, .ref a3, .ref a4, .ref a5, .ref a6, .ref a7, .ref a8, .ref a9, .ref a10])), (a1, .inl (T 0, 10, .inl b1)), (a2, .inl (T 0, 10, .inl b2_)), (a3, .inl (T 0, 10, .inl b3)), (a4, .inl (T 0, 10, .inl b4)), (a5, .inl (T 0, 10, .inl b5)), (a6, .inl (T 0, 10, .inl b6)), (a7, .inl (T 0, 10, .inl b7)), (a8, .inl (T 0, 10, .inl b8)), (a9, .inl (T 0, 10, .inl g_49))] H locs := V _ [0, 0, 0, 8] rfl rfl rfl (by decide +kernel) rfl
                show W p l e _ s m args below meth c H locs _ _ _ (F0 m 104 ls [])
                have hPl : PI ft n p2_48 := by rw [f_50]; exact PI_bl (PI_nxI hP)
                obtain ⟨_, _, _, _, -⟩ := id hPl
                have hcfl := cF_le (p := p2_48) (by omega)
                refine lv_goto (tgt := 139) hx hb dX2_readStreet_104 (by decide) ?_
                refine lv_aload_n hx hb dX2_readStreet_139 rfl (lv_at hl 1 rfl) ?_
                refine lv_aload_n hx hb dX2_readStreet_140 rfl (lv_at hl 3 rfl) ?_
                refine g_callVU (nA := 1) hC V hl.1 (f_endLine l D T ft p2_48 t0 a0 (nI 0) t1 n tx (nI nv) (nI 0) liv lov (nI 0) a1 a2 a3 a4 a5 a6 a7 a8 a9 a10 (by first | assumption | omega) (by first | assumption | omega) hPl) w_405 w_407 w_s8 w_4 w_408 (by decide +kernel) rfl ⟨(Nat.le_of_ble_eq_true rfl), (Nat.le_of_ble_eq_true rfl)⟩ 0 (ci := 2) rfl rfl [0, 1, 2] rfl rfl (Nat.le_of_ble_eq_true rfl) dX2_readStreet_141 ⟨(Nat.le_of_ble_eq_true rfl), (Nat.le_of_ble_eq_true rfl)⟩ rfl (fun r w1 H locs hQ V => ?_)
                obtain ⟨p2_53, ll_54, rfl, rfl, f_55, f_56⟩ := hQ
                have V : gW D T A s [(t0, .inr (2, [.int (nI 0), .int (nI (cF p2_53)), .int (cP p2_53), .ref t1, .int (nI n), .int (nI (cK p2_53.2.2.1)), .int (nI p2_53.1), .int (nI p2_53.2.1)])), (t1, .inl (T 3, 900, .inl tx)), (a0, .inr (5, [.int (nI nv), .int (nI 0), .int ll_54, .int lov, .int (nI 0), .ref a1, .ref a2, .ref a3, .ref a4, .ref a5, .ref a6, .ref a7, .ref a8, .ref a9, .ref a10])), (a1, .inl (T 0, 10, .inl b1)), (a2, .inl (T 0, 10, .inl b2_)), (a3, .inl (T 0, 10, .inl b3)), (a4, .inl (T 0, 10, .inl b4)), (a5, .inl (T 0, 10, .inl b5)), (a6, .inl (T 0, 10, .inl b6)), (a7, .inl (T 0, 10, .inl b7)), (a8, .inl (T 0, 10, .inl b8)), (a9, .inl (T 0, 10, .inl g_49))] H locs := V _ [0, 0, 0] rfl rfl rfl (by decide +kernel) rfl
                show W p l e _ s m args below meth c H locs _ _ _ (F0 m 144 ls [])
                have hl1 : lnA ft n (nv, pq, fq) = (nv, p2_48, (blF ft n nv (nxS ft n pq) fq)) := (by rw [ln_bl hk6, ← f_50])
                have hl2 : p2_53 = edS ft n p2_48 := f_55
                have hln2 : (nv, p2_53, upd (blF ft n nv (nxS ft n pq) fq) 3 ((blF ft n nv (nxS ft n pq) fq) 3 + nI 1)) = lnS ft n (nv, pq, fq) := by unfold lnS; rw [hl1, ← hl2]
                have hln : (nv, p2_53, upd (blF ft n nv (nxS ft n pq) fq) 3 ((blF ft n nv (nxS ft n pq) fq) 3 + nI 1)) = itS ft n (0, nxS ft n (0, 0, 0, nu0, 0, wa0), frI ff) (k + 1) := by show _ = lnS ft n (itS ft n (0, nxS ft n (0, 0, 0, nu0, 0, wa0), frI ff) k); rw [← hit]; exact hln2
                have hP2 : PI ft n p2_53 := by rw [f_55]; exact PI_ed hPl
                obtain ⟨_, _, _, _, -⟩ := id hP2
                have hcf2 := cF_le (p := p2_53) (by omega)
                have hck2 := cK_le p2_53.2.2.1
                have hcm : cF p2_53 = 0 → cF p2_48 = 0 := fun h => ed_cF (Eq.trans (congrArg cF f_55.symm) h)
                refine lv_iinc (v := (nI (k + 1))) (lv' := [(3, .int (nI (k + 1))), (0, .ref t0), (1, .int (nI n)), (2, .ref a0)]) hx hb dX2_readStreet_144 hl (k := 0) rfl (nI_1 _) (by decide) rfl (fun ls hl => ?_)
                refine lv_goto (tgt := 50) hx hb dX2_readStreet_147 (by decide) ?_
                exact ih_50 (k + 1) nv ll_54 lov b1 b2_ b3 b4 b5 b6 b7 b8 g_49 p2_53 nv (upd (blF ft n nv (nxS ft n pq) fq) 3 ((blF ft n nv (nxS ft n pq) fq) 3 + nI 1)) (by omega) (by omega) (by first | assumption | exact fun i h => (hto i h).elim (fun q => Or.inl (bd_le q (by omega))) Or.inr) hln (no_cst hit hc0 hk11 hns) hP2 (fun h => ⟨rfl, by obtain ⟨ja, jb, q1, q2, q3, q4, q5⟩ := f_52 (hcm h); rw [bl_0 (by have q := (cF_0.mp (hcm h)).1; rw [f_50] at q; exact q) q3 q4 (by omega), q5]; exact RF_ln (RF_bl hR (by omega) q1 q2) (f_56 h)⟩) (by omega) _ _ _ V (lv_sub hl [0, 1, 2, 3] rfl)
              · have V : gW D T A s [(t0, .inr (2, [.int (nI 0), .int (nI (cF pq)), .int (cP pq), .ref t1, .int (nI n), .int (nI (cK pq.2.2.1)), .int (nI pq.1), .int (nI pq.2.1)])), (t1, .inl (T 3, 900, .inl tx)), (a0, .inr (5, [.int (nI nv), .int (nI 0), .int liv, .int lov, .int (nI 0), .ref a1, .ref a2, .ref a3, .ref a4, .ref a5, .ref a6, .ref a7, .ref a8, .ref a9, .ref a10])), (a1, .inl (T 0, 10, .inl b1)), (a2, .inl (T 0, 10, .inl b2_)), (a3, .inl (T 0, 10, .inl b3)), (a4, .inl (T 0, 10, .inl b4)), (a5, .inl (T 0, 10, .inl b5)), (a6, .inl (T 0, 10, .inl b6)), (a7, .inl (T 0, 10, .inl b7)), (a8, .inl (T 0, 10, .inl b8)), (a9, .inl (T 0, 10, .inl b9))] H locs := V _ [0, 0] rfl rfl rfl (by decide +kernel) rfl
                show W p l e _ s m args below meth c H locs _ _ _ (F0 m 96 ls [.int (nI 0)])
                have hk6 := f_47
                refine lv_if_eq (tgt := 107) hx hb dX2_readStreet_96 (by decide) (fun _ => ?_) (fun c => absurd (show (nI 0) = 0 by decide +kernel) c)
                refine lv_aload_n hx hb dX2_readStreet_107 rfl (lv_at hl 1 rfl) ?_
                refine g_ldcS hC V 7 rfl dX2_readStreet_108 ?_
                refine g_callVU (nA := 1) hC V hl.1 (f_isWord l D T 7 ft pq t0 (nI 0) t1 n tx (by first | assumption | omega) (by first | assumption | omega) (by first | assumption | omega) (by decide)) w_322 w_324 w_s3 w_4 w_325 (by decide +kernel) rfl ⟨(Nat.le_of_ble_eq_true rfl), (Nat.le_of_ble_eq_true rfl)⟩ 0 (ci := 2) rfl rfl [0, 1] rfl rfl (Nat.le_of_ble_eq_true rfl) dX2_readStreet_110 ⟨(Nat.le_of_ble_eq_true rfl), (Nat.le_of_ble_eq_true rfl)⟩ rfl (fun r w1 H locs hQ V => ?_)
                rcases hQ with ⟨rfl, rfl, f_57⟩ | ⟨rfl, rfl, f_58⟩
                · have V : gW D T A s [(t0, .inr (2, [.int (nI 0), .int (nI (cF pq)), .int (cP pq), .ref t1, .int (nI n), .int (nI (cK pq.2.2.1)), .int (nI pq.1), .int (nI pq.2.1)])), (t1, .inl (T 3, 900, .inl tx)), (a0, .inr (5, [.int (nI nv), .int (nI 0), .int liv, .int lov, .int (nI 0), .ref a1, .ref a2, .ref a3, .ref a4, .ref a5, .ref a6, .ref a7, .ref a8, .ref a9, .ref a10])), (a1, .inl (T 0, 10, .inl b1)), (a2, .inl (T 0, 10, .inl b2_)), (a3, .inl (T 0, 10, .inl b3)), (a4, .inl (T 0, 10, .inl b4)), (a5, .inl (T 0, 10, .inl b5)), (a6, .inl (T 0, 10, .inl b6)), (a7, .inl (T 0, 10, .inl b7)), (a8, .inl (T 0, 10, .inl b8)), (a9, .inl (T 0, 10, .inl b9))] H locs := V _ [0, 0] rfl rfl rfl (by decide +kernel) rfl
                  show W p l e _ s m args below meth c H locs _ _ _ (F0 m 113 ls [.int (nI 1)])
                  have hk7 := f_57
                  refine lv_if_eq (tgt := 134) hx hb dX2_readStreet_113 (by decide) (fun c => absurd (show (nI 1) = 0 from c) (by decide +kernel)) (fun _ => ?_)
                  refine lv_aload_n hx hb dX2_readStreet_116 rfl (lv_at hl 1 rfl) ?_
                  refine g_callVU (nA := 0) hC V hl.1 (f_nextToken l D T ft pq.2.2.2.1 pq.2.2.2.2.2 t0 (nI 0) (cF pq) (cP pq) t1 n (nI (cK pq.2.2.1)) (nI pq.1) pq.2.1 tx (by first | assumption | omega) (by first | assumption | omega) (by omega) hc0 (cP_0 hc0)) w_309 w_311 w_s0 w_4 w_312 (by decide +kernel) rfl ⟨(Nat.le_of_ble_eq_true rfl), (Nat.le_of_ble_eq_true rfl)⟩ 0 (ci := 2) rfl rfl [0, 1] rfl rfl (Nat.le_of_ble_eq_true rfl) dX2_readStreet_117 ⟨(Nat.le_of_ble_eq_true rfl), (Nat.le_of_ble_eq_true rfl)⟩ rfl (fun r w1 H locs hQ V => ?_)
                  obtain ⟨p2_59, rfl, rfl, f_60⟩ := hQ
                  have V : gW D T A s [(t0, .inr (2, [.int (nI 0), .int (nI (cF p2_59)), .int (cP p2_59), .ref t1, .int (nI n), .int (nI (cK p2_59.2.2.1)), .int (nI p2_59.1), .int (nI p2_59.2.1)])), (t1, .inl (T 3, 900, .inl tx)), (a0, .inr (5, [.int (nI nv), .int (nI 0), .int liv, .int lov, .int (nI 0), .ref a1, .ref a2, .ref a3, .ref a4, .ref a5, .ref a6, .ref a7, .ref a8, .ref a9, .ref a10])), (a1, .inl (T 0, 10, .inl b1)), (a2, .inl (T 0, 10, .inl b2_)), (a3, .inl (T 0, 10, .inl b3)), (a4, .inl (T 0, 10, .inl b4)), (a5, .inl (T 0, 10, .inl b5)), (a6, .inl (T 0, 10, .inl b6)), (a7, .inl (T 0, 10, .inl b7)), (a8, .inl (T 0, 10, .inl b8)), (a9, .inl (T 0, 10, .inl b9))] H locs := V _ [0, 0] rfl rfl rfl (by decide +kernel) rfl
                  show W p l e _ s m args below meth c H locs _ _ _ (F0 m 120 ls [])
                  have hpe : p2_59 = nxS ft n pq := f_60.trans (nx_c0 hc0)
                  have hPe : PI ft n p2_59 := by rw [hpe]; exact PI_nxI hP
                  obtain ⟨_, _, _, _, -⟩ := id hPe
                  refine lv_aload_n hx hb dX2_readStreet_120 rfl (lv_at hl 3 rfl) ?_
                  refine lv_aload_n hx hb dX2_readStreet_121 rfl (lv_at hl 1 rfl) ?_
                  refine lv_iconst (v := (nI 0)) hx hb dX2_readStreet_122 (by decide +kernel) ?_
                  refine lv_bipush (v := (nI 20)) hx hb dX2_readStreet_123 (by decide +kernel) ?_
                  refine g_callVU (nA := 2) hC V hl.1 (f_takeNumber l D T ft p2_59 t0 (nI 0) (nI 20) (nI 0) t1 n tx (by first | assumption | omega) (by first | assumption | omega) hPe) w_378 w_380 w_s5 w_4 w_381 (by decide +kernel) rfl ⟨(Nat.le_of_ble_eq_true rfl), (Nat.le_of_ble_eq_true rfl)⟩ 0 (ci := 2) rfl rfl [0, 1] rfl rfl (Nat.le_of_ble_eq_true rfl) dX2_readStreet_125 ⟨(Nat.le_of_ble_eq_true rfl), (Nat.le_of_ble_eq_true rfl)⟩ rfl (fun r w1 H locs hQ V => ?_)
                  obtain ⟨z_61, p2_62, rfl, rfl, f_63, f_64⟩ := hQ
                  have V : gW D T A s [(t0, .inr (2, [.int (nI 0), .int (nI (cF p2_62)), .int (cP p2_62), .ref t1, .int (nI n), .int (nI (cK p2_62.2.2.1)), .int (nI p2_62.1), .int (nI p2_62.2.1)])), (t1, .inl (T 3, 900, .inl tx)), (a0, .inr (5, [.int (nI nv), .int (nI 0), .int liv, .int lov, .int (nI 0), .ref a1, .ref a2, .ref a3, .ref a4, .ref a5, .ref a6, .ref a7, .ref a8, .ref a9, .ref a10])), (a1, .inl (T 0, 10, .inl b1)), (a2, .inl (T 0, 10, .inl b2_)), (a3, .inl (T 0, 10, .inl b3)), (a4, .inl (T 0, 10, .inl b4)), (a5, .inl (T 0, 10, .inl b5)), (a6, .inl (T 0, 10, .inl b6)), (a7, .inl (T 0, 10, .inl b7)), (a8, .inl (T 0, 10, .inl b8)), (a9, .inl (T 0, 10, .inl b9))] H locs := V _ [0, 0] rfl rfl rfl (by decide +kernel) rfl
                  show W p l e _ s m args below meth c H locs _ _ _ (F0 m 128 ls [.int z_61, .ref a0])
                  have hPl : PI ft n p2_62 := by rw [f_63]; exact PI_tk hPe
                  obtain ⟨_, _, _, _, -⟩ := id hPl
                  have hcfl := cF_le (p := p2_62) (by omega)
                  refine g_put hC V (ci := 5) uwX5 tyX5 tyX5_ok nmX5 2 rfl rfl 3 (by decide) w_46 rfl rfl rfl rfl (Nat.le_of_ble_eq_true rfl) (ws' := [(t0, .inr (2, [.int (nI 0), .int (nI (cF p2_62)), .int (cP p2_62), .ref t1, .int (nI n), .int (nI (cK p2_62.2.2.1)), .int (nI p2_62.1), .int (nI p2_62.2.1)])), (t1, .inl (T 3, 900, .inl tx)), (a0, .inr (5, [.int (nI nv), .int (nI 0), .int liv, .int z_61, .int (nI 0), .ref a1, .ref a2, .ref a3, .ref a4, .ref a5, .ref a6, .ref a7, .ref a8, .ref a9, .ref a10])), (a1, .inl (T 0, 10, .inl b1)), (a2, .inl (T 0, 10, .inl b2_)), (a3, .inl (T 0, 10, .inl b3)), (a4, .inl (T 0, 10, .inl b4)), (a5, .inl (T 0, 10, .inl b5)), (a6, .inl (T 0, 10, .inl b6)), (a7, .inl (T 0, 10, .inl b7)), (a8, .inl (T 0, 10, .inl b8)), (a9, .inl (T 0, 10, .inl b9))]) rfl dX2_readStreet_128 (fun H locs V => ?_)
                  refine lv_goto (tgt := 139) hx hb dX2_readStreet_131 (by decide) ?_
                  refine lv_aload_n hx hb dX2_readStreet_139 rfl (lv_at hl 1 rfl) ?_
                  refine lv_aload_n hx hb dX2_readStreet_140 rfl (lv_at hl 3 rfl) ?_
                  refine g_callVU (nA := 1) hC V hl.1 (f_endLine l D T ft p2_62 t0 a0 (nI 0) t1 n tx (nI nv) (nI 0) liv z_61 (nI 0) a1 a2 a3 a4 a5 a6 a7 a8 a9 a10 (by first | assumption | omega) (by first | assumption | omega) hPl) w_405 w_407 w_s8 w_4 w_408 (by decide +kernel) rfl ⟨(Nat.le_of_ble_eq_true rfl), (Nat.le_of_ble_eq_true rfl)⟩ 0 (ci := 2) rfl rfl [0, 1, 2] rfl rfl (Nat.le_of_ble_eq_true rfl) dX2_readStreet_141 ⟨(Nat.le_of_ble_eq_true rfl), (Nat.le_of_ble_eq_true rfl)⟩ rfl (fun r w1 H locs hQ V => ?_)
                  obtain ⟨p2_65, ll_66, rfl, rfl, f_67, f_68⟩ := hQ
                  have V : gW D T A s [(t0, .inr (2, [.int (nI 0), .int (nI (cF p2_65)), .int (cP p2_65), .ref t1, .int (nI n), .int (nI (cK p2_65.2.2.1)), .int (nI p2_65.1), .int (nI p2_65.2.1)])), (t1, .inl (T 3, 900, .inl tx)), (a0, .inr (5, [.int (nI nv), .int (nI 0), .int ll_66, .int z_61, .int (nI 0), .ref a1, .ref a2, .ref a3, .ref a4, .ref a5, .ref a6, .ref a7, .ref a8, .ref a9, .ref a10])), (a1, .inl (T 0, 10, .inl b1)), (a2, .inl (T 0, 10, .inl b2_)), (a3, .inl (T 0, 10, .inl b3)), (a4, .inl (T 0, 10, .inl b4)), (a5, .inl (T 0, 10, .inl b5)), (a6, .inl (T 0, 10, .inl b6)), (a7, .inl (T 0, 10, .inl b7)), (a8, .inl (T 0, 10, .inl b8)), (a9, .inl (T 0, 10, .inl b9))] H locs := V _ [0, 0, 0] rfl rfl rfl (by decide +kernel) rfl
                  show W p l e _ s m args below meth c H locs _ _ _ (F0 m 144 ls [])
                  have hl1 : lnA ft n (nv, pq, fq) = (nv, p2_62, (upd fq 2 (nxS ft n pq).2.2.2.1)) := (by rw [ln_bu hk7, ← hpe, ← f_63])
                  have hl2 : p2_65 = edS ft n p2_62 := f_67
                  have hln2 : (nv, p2_65, upd (upd fq 2 (nxS ft n pq).2.2.2.1) 3 ((upd fq 2 (nxS ft n pq).2.2.2.1) 3 + nI 1)) = lnS ft n (nv, pq, fq) := by unfold lnS; rw [hl1, ← hl2]
                  have hln : (nv, p2_65, upd (upd fq 2 (nxS ft n pq).2.2.2.1) 3 ((upd fq 2 (nxS ft n pq).2.2.2.1) 3 + nI 1)) = itS ft n (0, nxS ft n (0, 0, 0, nu0, 0, wa0), frI ff) (k + 1) := by show _ = lnS ft n (itS ft n (0, nxS ft n (0, 0, 0, nu0, 0, wa0), frI ff) k); rw [← hit]; exact hln2
                  have hP2 : PI ft n p2_65 := by rw [f_67]; exact PI_ed hPl
                  obtain ⟨_, _, _, _, -⟩ := id hP2
                  have hcf2 := cF_le (p := p2_65) (by omega)
                  have hck2 := cK_le p2_65.2.2.1
                  have hcm : cF p2_65 = 0 → cF p2_62 = 0 := fun h => ed_cF (Eq.trans (congrArg cF f_67.symm) h)
                  refine lv_iinc (v := (nI (k + 1))) (lv' := [(3, .int (nI (k + 1))), (0, .ref t0), (1, .int (nI n)), (2, .ref a0)]) hx hb dX2_readStreet_144 hl (k := 0) rfl (nI_1 _) (by decide) rfl (fun ls hl => ?_)
                  refine lv_goto (tgt := 50) hx hb dX2_readStreet_147 (by decide) ?_
                  exact ih_50 (k + 1) nv ll_66 z_61 b1 b2_ b3 b4 b5 b6 b7 b8 b9 p2_65 nv (upd (upd fq 2 (nxS ft n pq).2.2.2.1) 3 ((upd fq 2 (nxS ft n pq).2.2.2.1) 3 + nI 1)) (by omega) (by omega) (by first | assumption | exact fun i h => (hto i h).elim (fun q => Or.inl (bd_le q (by omega))) Or.inr) hln (no_cst hit hc0 hk11 hns) hP2 (fun h => ⟨rfl, by rw [f_64 (hcm h), hpe]; exact RF_ln (RF_bu hR) (f_68 h)⟩) (by omega) _ _ _ V (lv_sub hl [0, 1, 2, 3] rfl)
                · have V : gW D T A s [(t0, .inr (2, [.int (nI 0), .int (nI (cF pq)), .int (cP pq), .ref t1, .int (nI n), .int (nI (cK pq.2.2.1)), .int (nI pq.1), .int (nI pq.2.1)])), (t1, .inl (T 3, 900, .inl tx)), (a0, .inr (5, [.int (nI nv), .int (nI 0), .int liv, .int lov, .int (nI 0), .ref a1, .ref a2, .ref a3, .ref a4, .ref a5, .ref a6, .ref a7, .ref a8, .ref a9, .ref a10])), (a1, .inl (T 0, 10, .inl b1)), (a2, .inl (T 0, 10, .inl b2_)), (a3, .inl (T 0, 10, .inl b3)), (a4, .inl (T 0, 10, .inl b4)), (a5, .inl (T 0, 10, .inl b5)), (a6, .inl (T 0, 10, .inl b6)), (a7, .inl (T 0, 10, .inl b7)), (a8, .inl (T 0, 10, .inl b8)), (a9, .inl (T 0, 10, .inl b9))] H locs := V _ [0, 0] rfl rfl rfl (by decide +kernel) rfl
                  show W p l e _ s m args below meth c H locs _ _ _ (F0 m 113 ls [.int (nI 0)])
                  have hk7 := f_58
                  refine lv_if_eq (tgt := 134) hx hb dX2_readStreet_113 (by decide) (fun _ => ?_) (fun c => absurd (show (nI 0) = 0 by decide +kernel) c)
                  refine lv_aload_n hx hb dX2_readStreet_134 rfl (lv_at hl 1 rfl) ?_
                  refine lv_iconst (v := (nI 2)) hx hb dX2_readStreet_135 (by decide +kernel) ?_
                  refine g_callVU (nA := 1) hC V hl.1 (f_fail l D T pq t0 2 (nI 0) t1 n (by decide) (by omega)) w_317 w_319 w_s2 w_4 w_320 (by decide +kernel) rfl ⟨(Nat.le_of_ble_eq_true rfl), (Nat.le_of_ble_eq_true rfl)⟩ 0 (ci := 2) rfl rfl [0] rfl rfl (Nat.le_of_ble_eq_true rfl) dX2_readStreet_136 ⟨(Nat.le_of_ble_eq_true rfl), (Nat.le_of_ble_eq_true rfl)⟩ rfl (fun r w1 H locs hQ V => ?_)
                  obtain ⟨p2_69, rfl, rfl, f_70⟩ := hQ
                  have V : gW D T A s [(t0, .inr (2, [.int (nI 0), .int (nI (cF p2_69)), .int (cP p2_69), .ref t1, .int (nI n), .int (nI (cK p2_69.2.2.1)), .int (nI p2_69.1), .int (nI p2_69.2.1)])), (t1, .inl (T 3, 900, .inl tx)), (a0, .inr (5, [.int (nI nv), .int (nI 0), .int liv, .int lov, .int (nI 0), .ref a1, .ref a2, .ref a3, .ref a4, .ref a5, .ref a6, .ref a7, .ref a8, .ref a9, .ref a10])), (a1, .inl (T 0, 10, .inl b1)), (a2, .inl (T 0, 10, .inl b2_)), (a3, .inl (T 0, 10, .inl b3)), (a4, .inl (T 0, 10, .inl b4)), (a5, .inl (T 0, 10, .inl b5)), (a6, .inl (T 0, 10, .inl b6)), (a7, .inl (T 0, 10, .inl b7)), (a8, .inl (T 0, 10, .inl b8)), (a9, .inl (T 0, 10, .inl b9))] H locs := V _ [0] rfl rfl rfl (by decide +kernel) rfl
                  show W p l e _ s m args below meth c H locs _ _ _ (F0 m 139 ls [])
                  have hPl : PI ft n p2_69 := by rw [f_70]; exact PI_fa hP (by decide)
                  obtain ⟨_, _, _, _, -⟩ := id hPl
                  have hcfl := cF_le (p := p2_69) (by omega)
                  refine lv_aload_n hx hb dX2_readStreet_139 rfl (lv_at hl 1 rfl) ?_
                  refine lv_aload_n hx hb dX2_readStreet_140 rfl (lv_at hl 3 rfl) ?_
                  refine g_callVU (nA := 1) hC V hl.1 (f_endLine l D T ft p2_69 t0 a0 (nI 0) t1 n tx (nI nv) (nI 0) liv lov (nI 0) a1 a2 a3 a4 a5 a6 a7 a8 a9 a10 (by first | assumption | omega) (by first | assumption | omega) hPl) w_405 w_407 w_s8 w_4 w_408 (by decide +kernel) rfl ⟨(Nat.le_of_ble_eq_true rfl), (Nat.le_of_ble_eq_true rfl)⟩ 0 (ci := 2) rfl rfl [0, 1, 2] rfl rfl (Nat.le_of_ble_eq_true rfl) dX2_readStreet_141 ⟨(Nat.le_of_ble_eq_true rfl), (Nat.le_of_ble_eq_true rfl)⟩ rfl (fun r w1 H locs hQ V => ?_)
                  obtain ⟨p2_71, ll_72, rfl, rfl, f_73, f_74⟩ := hQ
                  have V : gW D T A s [(t0, .inr (2, [.int (nI 0), .int (nI (cF p2_71)), .int (cP p2_71), .ref t1, .int (nI n), .int (nI (cK p2_71.2.2.1)), .int (nI p2_71.1), .int (nI p2_71.2.1)])), (t1, .inl (T 3, 900, .inl tx)), (a0, .inr (5, [.int (nI nv), .int (nI 0), .int ll_72, .int lov, .int (nI 0), .ref a1, .ref a2, .ref a3, .ref a4, .ref a5, .ref a6, .ref a7, .ref a8, .ref a9, .ref a10])), (a1, .inl (T 0, 10, .inl b1)), (a2, .inl (T 0, 10, .inl b2_)), (a3, .inl (T 0, 10, .inl b3)), (a4, .inl (T 0, 10, .inl b4)), (a5, .inl (T 0, 10, .inl b5)), (a6, .inl (T 0, 10, .inl b6)), (a7, .inl (T 0, 10, .inl b7)), (a8, .inl (T 0, 10, .inl b8)), (a9, .inl (T 0, 10, .inl b9))] H locs := V _ [0, 0, 0] rfl rfl rfl (by decide +kernel) rfl
                  show W p l e _ s m args below meth c H locs _ _ _ (F0 m 144 ls [])
                  have hl1 : lnA ft n (nv, pq, fq) = (nv, p2_69, fq) := (by rw [ln_no (p := pq) hk0 hk6 hk7, ← f_70])
                  have hl2 : p2_71 = edS ft n p2_69 := f_73
                  have hln2 : (nv, p2_71, upd fq 3 (fq 3 + nI 1)) = lnS ft n (nv, pq, fq) := by unfold lnS; rw [hl1, ← hl2]
                  have hln : (nv, p2_71, upd fq 3 (fq 3 + nI 1)) = itS ft n (0, nxS ft n (0, 0, 0, nu0, 0, wa0), frI ff) (k + 1) := by show _ = lnS ft n (itS ft n (0, nxS ft n (0, 0, 0, nu0, 0, wa0), frI ff) k); rw [← hit]; exact hln2
                  have hP2 : PI ft n p2_71 := by rw [f_73]; exact PI_ed hPl
                  obtain ⟨_, _, _, _, -⟩ := id hP2
                  have hcf2 := cF_le (p := p2_71) (by omega)
                  have hck2 := cK_le p2_71.2.2.1
                  have hcm : cF p2_71 = 0 → cF p2_69 = 0 := fun h => ed_cF (Eq.trans (congrArg cF f_73.symm) h)
                  refine lv_iinc (v := (nI (k + 1))) (lv' := [(3, .int (nI (k + 1))), (0, .ref t0), (1, .int (nI n)), (2, .ref a0)]) hx hb dX2_readStreet_144 hl (k := 0) rfl (nI_1 _) (by decide) rfl (fun ls hl => ?_)
                  refine lv_goto (tgt := 50) hx hb dX2_readStreet_147 (by decide) ?_
                  exact ih_50 (k + 1) nv ll_72 lov b1 b2_ b3 b4 b5 b6 b7 b8 b9 p2_71 nv (upd fq 3 (fq 3 + nI 1)) (by omega) (by omega) (by first | assumption | exact fun i h => (hto i h).elim (fun q => Or.inl (bd_le q (by omega))) Or.inr) hln (no_cst hit hc0 hk11 hns) hP2 (fun h => absurd (hcm h) (by rw [f_70]; exact fa_cF (by decide))) (by omega) _ _ _ V (lv_sub hl [0, 1, 2, 3] rfl)
  exact L_4 _ 0 0 (nI 0) (nI 20) af1 af2 af3 af4 af5 af6 af7 af8 gf p2_2 0 (frI ff) (by omega) (by omega) hft hi0 (fun i h => absurd h (Nat.not_lt_zero _)) hP0 (fun _ => ⟨rfl, RF_new hgf⟩) (Nat.lt_succ_self _) _ _ _ V (lv_sub hl [0, 1, 2, 3] rfl)

theorem SR_fin {n2 : Nat} {s : RLs} {b1 b2 b3 b4 b5 b6 b7 b9 g9 p1 p2 p3 p4 p5 p6 p7 p9 fa : Nat → Int32} {lo li : Int32} (hn : n2 = s.1) (h : RF s.1 s.2.2 b1 b2 b3 b4 b5 b6 b7 b9 lo li) (h10 : n2 ≤ 10) (hw : s.2.1.2.2.2.2.1 = 0) (hg : ∀ i, i < n2 → g9 i = layV n2 (b9 i) i)
    (e1 : ∀ i, i < n2 → p1 i = b1 i) (e2 : ∀ i, i < n2 → p2 i = b2 i) (e3 : ∀ i, i < n2 → p3 i = b3 i) (e4 : ∀ i, i < n2 → p4 i = b4 i) (e5 : ∀ i, i < n2 → p5 i = b5 i) (e6 : ∀ i, i < n2 → p6 i = b6 i) (e7 : ∀ i, i < n2 → p7 i = b7 i) (e9 : ∀ i, i < n2 → p9 i = g9 i) : SR n2 (nI 0) li lo p1 p2 p3 p4 p5 p6 p7 p9 (stG fa s) := by
  subst hn
  exact SR_cp (SR_st h h10 hw hg) e1 e2 e3 e4 e5 e6 e7 e9
theorem txt_le {a b : Nat} {tx t : Nat → Int32} (h : TXT b tx t) (hab : a ≤ b) : TXT a tx t := fun i hi => h i (by omega)

theorem fn_w4 {t : Nat → Int32} {sz : Nat} {n0 : Nat} {p0 : PS} {f0 : Nat → Int32} {s : RLs} (hP : PI t sz p0) (h : FN t sz (n0, p0, f0) s) : s.2.1.2.2.2.2.1 ≤ 4 := by
  obtain ⟨K, e, -⟩ := h
  have := (it_pi (s := (n0, p0, f0)) hP K).2.2.2.1
  rw [← e] at this
  exact this

def q_x_street_f (T : Nat → ClassId) (ft : Nat → Int32) (ff : Nat → Int32) (fa : Nat → Int32) (nu0 : Int32) (wa0 : Int32) (o : Nat) (n : Int32) (n0 : Nat) (s0 : Nat) (im : Nat) (iz : Nat) (rw : Nat) (t0 : Nat) (u0 : Nat) (h0 : Nat) (y0 : Nat) (sv : Value) (tf : Nat) (tu : Int32) (tl : Int32) (t1 : Nat) (te : Int32) (tk : Int32) (tr : Int32) (tb : Int32) (tx : Nat → Int32) (sn : Int32) (sm : Int32) (sl : Int32) (so : Int32) (su : Int32) (s1 : Nat) (s2 : Nat) (s3 : Nat) (s4 : Nat) (s5 : Nat) (s6 : Nat) (s7 : Nat) (s8 : Nat) (s9 : Nat) (s10 : Nat) (sf1 : Nat → Int32) (sf2 : Nat → Int32) (sf3 : Nat → Int32) (sf4 : Nat → Int32) (sf5 : Nat → Int32) (sf6 : Nat → Int32) (sf7 : Nat → Int32) (sf8 : Nat → Int32) (sf9 : Nat → Int32) (nn : Nat) (nm : Int32) (nl : Int32) (no : Int32) (nu : Int32) (n1 : Nat) (n2 : Nat) (n3 : Nat) (n4 : Nat) (n5 : Nat) (n6 : Nat) (n7 : Nat) (n8 : Nat) (n9 : Nat) (n10 : Nat) (nf1 : Nat → Int32) (nf2 : Nat → Int32) (nf3 : Nat → Int32) (nf4 : Nat → Int32) (nf5 : Nat → Int32) (nf6 : Nat → Int32) (nf7 : Nat → Int32) (nf8 : Nat → Int32) (nf9 : Nat → Int32) : Option Value → va_W → Prop := fun rr ww => (rr = some (.int (-3)) ∧ ww = [(o, .inr (7, [.ref n0, .ref s0, .ref im, .ref iz, .ref rw, .ref t0, .ref u0, .ref h0, .ref y0, sv])), (t0, .inr (2, [.int (nI tf), .int tu, .int tl, .ref t1, .int te, .int tk, .int tr, .int tb])), (t1, .inl (T 3, 900, .inl tx)), (s0, .inr (5, [.int sn, .int sm, .int sl, .int so, .int su, .ref s1, .ref s2, .ref s3, .ref s4, .ref s5, .ref s6, .ref s7, .ref s8, .ref s9, .ref s10])), (s1, .inl (T 0, 10, .inl sf1)), (s2, .inl (T 0, 10, .inl sf2)), (s3, .inl (T 0, 10, .inl sf3)), (s4, .inl (T 0, 10, .inl sf4)), (s5, .inl (T 0, 10, .inl sf5)), (s6, .inl (T 0, 10, .inl sf6)), (s7, .inl (T 0, 10, .inl sf7)), (s8, .inl (T 0, 10, .inl sf8)), (s9, .inl (T 0, 10, .inl sf9)), (n0, .inr (5, [.int (nI nn), .int nm, .int nl, .int no, .int nu, .ref n1, .ref n2, .ref n3, .ref n4, .ref n5, .ref n6, .ref n7, .ref n8, .ref n9, .ref n10])), (n1, .inl (T 0, 10, .inl nf1)), (n2, .inl (T 0, 10, .inl nf2)), (n3, .inl (T 0, 10, .inl nf3)), (n4, .inl (T 0, 10, .inl nf4)), (n5, .inl (T 0, 10, .inl nf5)), (n6, .inl (T 0, 10, .inl nf6)), (n7, .inl (T 0, 10, .inl nf7)), (n8, .inl (T 0, 10, .inl nf8)), (n9, .inl (T 0, 10, .inl nf9))] ∧ (n < nI 0 ∨ nI tf < n)) ∨ (∃ (z : Int32) (jn : Nat) (s_ : RLs) (k2 : Int32) (r2 : Int32) (b2 : Int32) (xn : Int32) (xm : Int32) (xl : Int32) (xo : Int32) (xu : Int32) (q1 : Nat → Int32) (q2 : Nat → Int32) (q3 : Nat → Int32) (q4 : Nat → Int32) (q5 : Nat → Int32) (q6 : Nat → Int32) (q7 : Nat → Int32) (q8 : Nat → Int32) (q9 : Nat → Int32) (nN : Nat) (nM : Int32) (nL : Int32) (nO : Int32) (nU : Int32) (ng1 : Nat → Int32) (ng2 : Nat → Int32) (ng3 : Nat → Int32) (ng4 : Nat → Int32) (ng5 : Nat → Int32) (ng6 : Nat → Int32) (ng7 : Nat → Int32) (ng8 : Nat → Int32) (ng9 : Nat → Int32), rr = some (.int z) ∧ ww = [(o, .inr (7, [.ref n0, .ref s0, .ref im, .ref iz, .ref rw, .ref t0, .ref u0, .ref h0, .ref y0, sv])), (t0, .inr (2, [.int (nI 0), .int (nI s_.2.1.2.2.2.2.1), .int (stP s_), .ref t1, .int (nI jn), .int k2, .int r2, .int b2])), (t1, .inl (T 3, 900, .inl tx)), (s0, .inr (5, [.int xn, .int xm, .int xl, .int xo, .int xu, .ref s1, .ref s2, .ref s3, .ref s4, .ref s5, .ref s6, .ref s7, .ref s8, .ref s9, .ref s10])), (s1, .inl (T 0, 10, .inl q1)), (s2, .inl (T 0, 10, .inl q2)), (s3, .inl (T 0, 10, .inl q3)), (s4, .inl (T 0, 10, .inl q4)), (s5, .inl (T 0, 10, .inl q5)), (s6, .inl (T 0, 10, .inl q6)), (s7, .inl (T 0, 10, .inl q7)), (s8, .inl (T 0, 10, .inl q8)), (s9, .inl (T 0, 10, .inl q9)), (n0, .inr (5, [.int (nI nN), .int nM, .int nL, .int nO, .int nU, .ref n1, .ref n2, .ref n3, .ref n4, .ref n5, .ref n6, .ref n7, .ref n8, .ref n9, .ref n10])), (n1, .inl (T 0, 10, .inl ng1)), (n2, .inl (T 0, 10, .inl ng2)), (n3, .inl (T 0, 10, .inl ng3)), (n4, .inl (T 0, 10, .inl ng4)), (n5, .inl (T 0, 10, .inl ng5)), (n6, .inl (T 0, 10, .inl ng6)), (n7, .inl (T 0, 10, .inl ng7)), (n8, .inl (T 0, 10, .inl ng8)), (n9, .inl (T 0, 10, .inl ng9))] ∧ n = nI jn ∧ jn ≤ tf ∧ FN ft jn (0, nxS ft jn (0, 0, 0, nu0, 0, wa0), frI ff) s_ ∧ z = stZ s_ ∧ nN ≤ 10 ∧ (∀ i, i < nN → bd (ng9 i) nN) ∧ (SR nn nm nl no nf1 nf2 nf3 nf4 nf5 nf6 nf7 nf9 fa → SR nN nM nL nO ng1 ng2 ng3 ng4 ng5 ng6 ng7 ng9 (stG fa s_)) ∧ (nM = nI 0 ∨ nM = nm))
set_option maxHeartbeats 4000000 in
set_option maxRecDepth 100000 in
theorem x_street_f (l : Launch) (D : va_G) (T : Nat → ClassId) (ft : Nat → Int32) (ff : Nat → Int32) (fa : Nat → Int32) (nu0 : Int32) (wa0 : Int32) (o : Nat) (n : Int32) (n0 : Nat) (s0 : Nat) (im : Nat) (iz : Nat) (rw : Nat) (t0 : Nat) (u0 : Nat) (h0 : Nat) (y0 : Nat) (sv : Value) (tf : Nat) (tu : Int32) (tl : Int32) (t1 : Nat) (te : Int32) (tk : Int32) (tr : Int32) (tb : Int32) (tx : Nat → Int32) (sn : Int32) (sm : Int32) (sl : Int32) (so : Int32) (su : Int32) (s1 : Nat) (s2 : Nat) (s3 : Nat) (s4 : Nat) (s5 : Nat) (s6 : Nat) (s7 : Nat) (s8 : Nat) (s9 : Nat) (s10 : Nat) (sf1 : Nat → Int32) (sf2 : Nat → Int32) (sf3 : Nat → Int32) (sf4 : Nat → Int32) (sf5 : Nat → Int32) (sf6 : Nat → Int32) (sf7 : Nat → Int32) (sf8 : Nat → Int32) (sf9 : Nat → Int32) (nn : Nat) (nm : Int32) (nl : Int32) (no : Int32) (nu : Int32) (n1 : Nat) (n2 : Nat) (n3 : Nat) (n4 : Nat) (n5 : Nat) (n6 : Nat) (n7 : Nat) (n8 : Nat) (n9 : Nat) (n10 : Nat) (nf1 : Nat → Int32) (nf2 : Nat → Int32) (nf3 : Nat → Int32) (nf4 : Nat → Int32) (nf5 : Nat → Int32) (nf6 : Nat → Int32) (nf7 : Nat → Int32) (nf8 : Nat → Int32) (nf9 : Nat → Int32) (h_n : nn ≤ 10) (h_t : ∀ i, i < nn → bd (nf9 i) nn) (h_f : tf ≤ 900) (h_tx : TXT tf tx ft) : Ct l yX7_street cX7_street 2 (some .int) 8 0 0 D T [.ref o, .int n] [(o, .inr (7, [.ref n0, .ref s0, .ref im, .ref iz, .ref rw, .ref t0, .ref u0, .ref h0, .ref y0, sv])), (t0, .inr (2, [.int (nI tf), .int tu, .int tl, .ref t1, .int te, .int tk, .int tr, .int tb])), (t1, .inl (T 3, 900, .inl tx)), (s0, .inr (5, [.int sn, .int sm, .int sl, .int so, .int su, .ref s1, .ref s2, .ref s3, .ref s4, .ref s5, .ref s6, .ref s7, .ref s8, .ref s9, .ref s10])), (s1, .inl (T 0, 10, .inl sf1)), (s2, .inl (T 0, 10, .inl sf2)), (s3, .inl (T 0, 10, .inl sf3)), (s4, .inl (T 0, 10, .inl sf4)), (s5, .inl (T 0, 10, .inl sf5)), (s6, .inl (T 0, 10, .inl sf6)), (s7, .inl (T 0, 10, .inl sf7)), (s8, .inl (T 0, 10, .inl sf8)), (s9, .inl (T 0, 10, .inl sf9)), (n0, .inr (5, [.int (nI nn), .int nm, .int nl, .int no, .int nu, .ref n1, .ref n2, .ref n3, .ref n4, .ref n5, .ref n6, .ref n7, .ref n8, .ref n9, .ref n10])), (n1, .inl (T 0, 10, .inl nf1)), (n2, .inl (T 0, 10, .inl nf2)), (n3, .inl (T 0, 10, .inl nf3)), (n4, .inl (T 0, 10, .inl nf4)), (n5, .inl (T 0, 10, .inl nf5)), (n6, .inl (T 0, 10, .inl nf6)), (n7, .inl (T 0, 10, .inl nf7)), (n8, .inl (T 0, 10, .inl nf8)), (n9, .inl (T 0, 10, .inl nf9))] (q_x_street_f T ft ff fa nu0 wa0 o n n0 s0 im iz rw t0 u0 h0 y0 sv tf tu tl t1 te tk tr tb tx sn sm sl so su s1 s2 s3 s4 s5 s6 s7 s8 s9 s10 sf1 sf2 sf3 sf4 sf5 sf6 sf7 sf8 sf9 nn nm nl no nu n1 n2 n3 n4 n5 n6 n7 n8 n9 n10 nf1 nf2 nf3 nf4 nf5 nf6 nf7 nf8 nf9) := by
  refine Ct.of (cc := cX7_street) (maxL := 2) (ret := (some .int)) (by decide) (Nat.le_of_ble_eq_true rfl) ?_
  intro p e s m args below meth c A ls hC hnm V hl
  obtain ⟨hx, hb, hr, hml, hown, hts, hlocks⟩ := id hC
  generalize hH : s.heap = H at V ⊢
  clear hH
  have hl : lv_has ls 2 [(0, .ref o), (1, .int n)] := hl
  generalize hlo : ([] : List Loc) = locs at V ⊢
  clear hlo
  refine lv_iload_n hx hb dX7_street_0 rfl (lv_at hl 1 rfl) ?_
  refine lv_iconst (v := (nI 0)) hx hb dX7_street_1 (by decide +kernel) ?_
  refine lv_aload_n hx hb dX7_street_2 rfl (lv_at hl 0 rfl) ?_
  refine g_get hC V (ci := 7) uwX7 0 rfl rfl 5 (by decide) w_254 rfl rfl dX7_street_3 ?_
  refine g_get hC V (ci := 2) uwX2 1 rfl rfl 0 (by decide) w_128 rfl rfl dX7_street_6 ?_
  refine g_callSU (nA := 3) hC V hl.1 (c_isWithin l D T n (nI 0) (nI tf)) w_292 w_293 w_2 w_294 (by decide +kernel) rfl ⟨(Nat.le_of_ble_eq_true rfl), (Nat.le_of_ble_eq_true rfl)⟩ [] rfl rfl (Nat.le_of_ble_eq_true rfl) dX7_street_9 ⟨(Nat.le_of_ble_eq_true rfl), (Nat.le_of_ble_eq_true rfl)⟩ rfl (fun r w1 H locs hQ V => ?_)
  rcases hQ with ⟨rfl, rfl, f_1, f_2⟩ | ⟨rfl, rfl, f_3⟩
  · have V : gW D T A s [(o, .inr (7, [.ref n0, .ref s0, .ref im, .ref iz, .ref rw, .ref t0, .ref u0, .ref h0, .ref y0, sv])), (t0, .inr (2, [.int (nI tf), .int tu, .int tl, .ref t1, .int te, .int tk, .int tr, .int tb])), (t1, .inl (T 3, 900, .inl tx)), (s0, .inr (5, [.int sn, .int sm, .int sl, .int so, .int su, .ref s1, .ref s2, .ref s3, .ref s4, .ref s5, .ref s6, .ref s7, .ref s8, .ref s9, .ref s10])), (s1, .inl (T 0, 10, .inl sf1)), (s2, .inl (T 0, 10, .inl sf2)), (s3, .inl (T 0, 10, .inl sf3)), (s4, .inl (T 0, 10, .inl sf4)), (s5, .inl (T 0, 10, .inl sf5)), (s6, .inl (T 0, 10, .inl sf6)), (s7, .inl (T 0, 10, .inl sf7)), (s8, .inl (T 0, 10, .inl sf8)), (s9, .inl (T 0, 10, .inl sf9)), (n0, .inr (5, [.int (nI nn), .int nm, .int nl, .int no, .int nu, .ref n1, .ref n2, .ref n3, .ref n4, .ref n5, .ref n6, .ref n7, .ref n8, .ref n9, .ref n10])), (n1, .inl (T 0, 10, .inl nf1)), (n2, .inl (T 0, 10, .inl nf2)), (n3, .inl (T 0, 10, .inl nf3)), (n4, .inl (T 0, 10, .inl nf4)), (n5, .inl (T 0, 10, .inl nf5)), (n6, .inl (T 0, 10, .inl nf6)), (n7, .inl (T 0, 10, .inl nf7)), (n8, .inl (T 0, 10, .inl nf8)), (n9, .inl (T 0, 10, .inl nf9))] H locs := V _ [] rfl rfl rfl (by decide +kernel) rfl
    show W p l e _ s m args below meth c H locs _ _ _ (F0 m 12 ls [.int (nI 1)])
    obtain ⟨jn, hjn1, hjn2, ejn⟩ := g_rng (by decide) (by omega) f_1 f_2
    rw [ejn] at hl
    refine lv_if_ne (tgt := 18) hx hb dX7_street_12 (by decide) (fun _ => ?_) (fun c => absurd (show (nI 1) = 0 from c) (by decide +kernel))
    refine lv_aload_n hx hb dX7_street_18 rfl (lv_at hl 0 rfl) ?_
    refine g_get hC V (ci := 7) uwX7 0 rfl rfl 5 (by decide) w_254 rfl rfl dX7_street_19 ?_
    refine lv_iload_n hx hb dX7_street_22 rfl (lv_at hl 1 rfl) ?_
    refine lv_aload_n hx hb dX7_street_23 rfl (lv_at hl 0 rfl) ?_
    refine g_get hC V (ci := 7) uwX7 0 rfl rfl 1 (by decide) w_250 rfl rfl dX7_street_24 ?_
    refine g_callVU (nA := 2) hC V hl.1 (f_readStreet l D T ft ff nu0 wa0 t0 jn s0 tf tu tl t1 te tk tr tb tx sn sm sl so su s1 s2 s3 s4 s5 s6 s7 s8 s9 s10 sf1 sf2 sf3 sf4 sf5 sf6 sf7 sf8 sf9 (by first | assumption | omega) (by first | assumption | omega) (txt_le h_tx (by omega))) w_295 w_296 w_297 w_4 w_298 (by decide +kernel) rfl ⟨(Nat.le_of_ble_eq_true rfl), (Nat.le_of_ble_eq_true rfl)⟩ 1 (ci := 2) rfl rfl [1, 2, 3, 4, 5, 6, 7, 8, 9, 10, 11, 12] rfl rfl (Nat.le_of_ble_eq_true rfl) dX7_street_27 ⟨(Nat.le_of_ble_eq_true rfl), (Nat.le_of_ble_eq_true rfl)⟩ rfl (fun r w1 H locs hQ V => ?_)
    obtain ⟨s__4, n2_5, l3_6, o3_7, g1_8, g2_9, g3_10, g4_11, g5_12, g6_13, g7_14, g8_15, g9_16, rfl, rfl, f_17, f_18, f_19, f_20⟩ := hQ
    have V : gW D T A s [(o, .inr (7, [.ref n0, .ref s0, .ref im, .ref iz, .ref rw, .ref t0, .ref u0, .ref h0, .ref y0, sv])), (t0, .inr (2, [.int (nI 0), .int (nI (cF s__4.2.1)), .int (cP s__4.2.1), .ref t1, .int (nI jn), .int (nI (cK s__4.2.1.2.2.1)), .int (nI s__4.2.1.1), .int (nI s__4.2.1.2.1)])), (t1, .inl (T 3, 900, .inl tx)), (s0, .inr (5, [.int (nI n2_5), .int (nI 0), .int l3_6, .int o3_7, .int (nI 0), .ref s1, .ref s2, .ref s3, .ref s4, .ref s5, .ref s6, .ref s7, .ref s8, .ref s9, .ref s10])), (s1, .inl (T 0, 10, .inl g1_8)), (s2, .inl (T 0, 10, .inl g2_9)), (s3, .inl (T 0, 10, .inl g3_10)), (s4, .inl (T 0, 10, .inl g4_11)), (s5, .inl (T 0, 10, .inl g5_12)), (s6, .inl (T 0, 10, .inl g6_13)), (s7, .inl (T 0, 10, .inl g7_14)), (s8, .inl (T 0, 10, .inl g8_15)), (s9, .inl (T 0, 10, .inl g9_16)), (n0, .inr (5, [.int (nI nn), .int nm, .int nl, .int no, .int nu, .ref n1, .ref n2, .ref n3, .ref n4, .ref n5, .ref n6, .ref n7, .ref n8, .ref n9, .ref n10])), (n1, .inl (T 0, 10, .inl nf1)), (n2, .inl (T 0, 10, .inl nf2)), (n3, .inl (T 0, 10, .inl nf3)), (n4, .inl (T 0, 10, .inl nf4)), (n5, .inl (T 0, 10, .inl nf5)), (n6, .inl (T 0, 10, .inl nf6)), (n7, .inl (T 0, 10, .inl nf7)), (n8, .inl (T 0, 10, .inl nf8)), (n9, .inl (T 0, 10, .inl nf9))] H locs := V _ [1, 0, 0, 0, 0, 0, 0, 0, 0, 0, 0, 0] rfl rfl rfl (by decide +kernel) rfl
    show W p l e _ s m args below meth c H locs _ _ _ (F0 m 30 ls [])
    have hq9 := f_18
    have hqn := f_17
    obtain ⟨s_, hFN, hcF, hcP, hss⟩ := fc_fn f_19
    have hw4 := fn_w4 (PI_nx (Nat.zero_le _) (Nat.zero_le _)) hFN
    refine lv_aload_n hx hb dX7_street_30 rfl (lv_at hl 0 rfl) ?_
    refine g_get hC V (ci := 7) uwX7 0 rfl rfl 5 (by decide) w_254 rfl rfl dX7_street_31 ?_
    refine g_get hC V (ci := 2) uwX2 1 rfl rfl 1 (by decide) w_131 rfl rfl dX7_street_34 ?_
    refine lv_if_eq (tgt := 51) hx hb dX7_street_37 (by decide) (fun c_21 => ?_) (fun c_21 => ?_)
    · skip
      rw [show (0 : Int32) = nI 0 from rfl] at c_21
      have c_21 := b_eq (by omega) (by omega) c_21
      obtain ⟨hn1, hn2, c9, hRFx, hlay⟩ := f_20 c_21
      have es := (hss c_21).symm
      subst es
      refine lv_aload_n hx hb dX7_street_51 rfl (lv_at hl 0 rfl) ?_
      refine g_get hC V (ci := 7) uwX7 0 rfl rfl 0 (by decide) w_249 rfl rfl dX7_street_52 ?_
      refine lv_aload_n hx hb dX7_street_55 rfl (lv_at hl 0 rfl) ?_
      refine g_get hC V (ci := 7) uwX7 0 rfl rfl 1 (by decide) w_250 rfl rfl dX7_street_56 ?_
      refine g_callVU (nA := 1) hC V hl.1 (s_takeFrom l D T n0 s0 (nI nn) nm nl no nu n1 n2 n3 n4 n5 n6 n7 n8 n9 n10 nf1 nf2 nf3 nf4 nf5 nf6 nf7 nf8 nf9 n2_5 (nI 0) l3_6 o3_7 (nI 0) s1 s2 s3 s4 s5 s6 s7 s8 s9 s10 g1_8 g2_9 g3_10 g4_11 g5_12 g6_13 g7_14 g8_15 g9_16 (by assumption)) w_413 w_414 w_415 w_3 w_416 (by decide +kernel) rfl ⟨(Nat.le_of_ble_eq_true rfl), (Nat.le_of_ble_eq_true rfl)⟩ 13 (ci := 5) rfl rfl [13, 14, 15, 16, 17, 18, 19, 20, 21, 22, 3, 4, 5, 6, 7, 8, 9, 10, 11, 12] rfl rfl (Nat.le_of_ble_eq_true rfl) dX7_street_59 ⟨(Nat.le_of_ble_eq_true rfl), (Nat.le_of_ble_eq_true rfl)⟩ rfl (fun r w1 H locs hQ V => ?_)
      obtain ⟨pp1, pp2, pp3, pp4, pp5, pp6, pp7, pp8, pp9, rfl, rfl, f_22, f_23, f_24, f_25, f_26, f_27, f_28, f_29, f_30⟩ := hQ
      have V : gW D T A s [(o, .inr (7, [.ref n0, .ref s0, .ref im, .ref iz, .ref rw, .ref t0, .ref u0, .ref h0, .ref y0, sv])), (t0, .inr (2, [.int (nI 0), .int (nI (cF s__4.2.1)), .int (cP s__4.2.1), .ref t1, .int (nI jn), .int (nI (cK s__4.2.1.2.2.1)), .int (nI s__4.2.1.1), .int (nI s__4.2.1.2.1)])), (t1, .inl (T 3, 900, .inl tx)), (s0, .inr (5, [.int (nI n2_5), .int (nI 0), .int l3_6, .int o3_7, .int (nI 0), .ref s1, .ref s2, .ref s3, .ref s4, .ref s5, .ref s6, .ref s7, .ref s8, .ref s9, .ref s10])), (s1, .inl (T 0, 10, .inl g1_8)), (s2, .inl (T 0, 10, .inl g2_9)), (s3, .inl (T 0, 10, .inl g3_10)), (s4, .inl (T 0, 10, .inl g4_11)), (s5, .inl (T 0, 10, .inl g5_12)), (s6, .inl (T 0, 10, .inl g6_13)), (s7, .inl (T 0, 10, .inl g7_14)), (s8, .inl (T 0, 10, .inl g8_15)), (s9, .inl (T 0, 10, .inl g9_16)), (n0, .inr (5, [.int (nI n2_5), .int (nI 0), .int l3_6, .int o3_7, .int (nI 0), .ref n1, .ref n2, .ref n3, .ref n4, .ref n5, .ref n6, .ref n7, .ref n8, .ref n9, .ref n10])), (n1, .inl (T 0, 10, .inl pp1)), (n2, .inl (T 0, 10, .inl pp2)), (n3, .inl (T 0, 10, .inl pp3)), (n4, .inl (T 0, 10, .inl pp4)), (n5, .inl (T 0, 10, .inl pp5)), (n6, .inl (T 0, 10, .inl pp6)), (n7, .inl (T 0, 10, .inl pp7)), (n8, .inl (T 0, 10, .inl pp8)), (n9, .inl (T 0, 10, .inl pp9))] H locs := V _ [3, 0, 0, 0, 0, 0, 0, 0, 0, 0, 0, 0, 0, 0, 0, 0, 0, 0, 0, 0] rfl rfl rfl (by decide +kernel) rfl
      show W p l e _ s m args below meth c H locs _ _ _ (F0 m 62 ls [])
      have hp9 : ∀ i, i < n2_5 → bd (pp9 i) n2_5 := fun i h => by rw [f_30 i h]; exact hq9 i h
      refine lv_aload_n hx hb dX7_street_62 rfl (lv_at hl 0 rfl) ?_
      refine g_get hC V (ci := 7) uwX7 0 rfl rfl 0 (by decide) w_249 rfl rfl dX7_street_63 ?_
      refine g_get hC V (ci := 5) uwX5 13 rfl rfl 2 (by decide) w_43 rfl rfl dX7_street_66 ?_
      exact g_iret (Qr := (q_x_street_f T ft ff fa nu0 wa0 o n n0 s0 im iz rw t0 u0 h0 y0 sv tf tu tl t1 te tk tr tb tx sn sm sl so su s1 s2 s3 s4 s5 s6 s7 s8 s9 s10 sf1 sf2 sf3 sf4 sf5 sf6 sf7 sf8 sf9 nn nm nl no nu n1 n2 n3 n4 n5 n6 n7 n8 n9 n10 nf1 nf2 nf3 nf4 nf5 nf6 nf7 nf8 nf9)) hC V ⟨(Nat.le_of_ble_eq_true rfl), (Nat.le_of_ble_eq_true rfl)⟩ (.inr ⟨l3_6, jn, s__4, (nI (cK s__4.2.1.2.2.1)), (nI s__4.2.1.1), (nI s__4.2.1.2.1), (nI n2_5), (nI 0), l3_6, o3_7, (nI 0), g1_8, g2_9, g3_10, g4_11, g5_12, g6_13, g7_14, g8_15, g9_16, n2_5, (nI 0), l3_6, o3_7, (nI 0), pp1, pp2, pp3, pp4, pp5, pp6, pp7, pp8, pp9, rfl, (by rw [← hcF, ← hcP]), ejn, (by omega), hFN, (by unfold stZ; rw [if_pos (by omega)]; exact hRFx.2.2.2.1.symm), hqn, hp9, (fun _ => SR_fin hn1 hRFx hn2 (by omega) hlay f_22 f_23 f_24 f_25 f_26 f_27 f_28 f_30), (Or.inl rfl)⟩) dX7_street_69
    · skip
      rw [show (0 : Int32) = nI 0 from rfl] at c_21
      have c_21 := b_ne (by omega) (by omega) c_21
      refine lv_bipush (v := (-30)) hx hb dX7_street_40 (by decide +kernel) ?_
      refine lv_aload_n hx hb dX7_street_42 rfl (lv_at hl 0 rfl) ?_
      refine g_get hC V (ci := 7) uwX7 0 rfl rfl 5 (by decide) w_254 rfl rfl dX7_street_43 ?_
      refine g_get hC V (ci := 2) uwX2 1 rfl rfl 1 (by decide) w_131 rfl rfl dX7_street_46 ?_
      refine lv_isub hx hb dX7_street_49 ?_
      exact g_iret (Qr := (q_x_street_f T ft ff fa nu0 wa0 o n n0 s0 im iz rw t0 u0 h0 y0 sv tf tu tl t1 te tk tr tb tx sn sm sl so su s1 s2 s3 s4 s5 s6 s7 s8 s9 s10 sf1 sf2 sf3 sf4 sf5 sf6 sf7 sf8 sf9 nn nm nl no nu n1 n2 n3 n4 n5 n6 n7 n8 n9 n10 nf1 nf2 nf3 nf4 nf5 nf6 nf7 nf8 nf9)) hC V ⟨(Nat.le_of_ble_eq_true rfl), (Nat.le_of_ble_eq_true rfl)⟩ (.inr ⟨((-30) - (nI (cF s__4.2.1))), jn, s_, (nI (cK s__4.2.1.2.2.1)), (nI s__4.2.1.1), (nI s__4.2.1.2.1), (nI n2_5), (nI 0), l3_6, o3_7, (nI 0), g1_8, g2_9, g3_10, g4_11, g5_12, g6_13, g7_14, g8_15, g9_16, nn, nm, nl, no, nu, nf1, nf2, nf3, nf4, nf5, nf6, nf7, nf8, nf9, rfl, (by rw [← hcF, ← hcP]), ejn, (by omega), hFN, (by rw [hcF]; exact (if_neg (by omega)).symm), h_n, h_t, (fun h => by rw [← stG_w (by omega)]; exact h), (Or.inr rfl)⟩) dX7_street_50
  · have V : gW D T A s [(o, .inr (7, [.ref n0, .ref s0, .ref im, .ref iz, .ref rw, .ref t0, .ref u0, .ref h0, .ref y0, sv])), (t0, .inr (2, [.int (nI tf), .int tu, .int tl, .ref t1, .int te, .int tk, .int tr, .int tb])), (t1, .inl (T 3, 900, .inl tx)), (s0, .inr (5, [.int sn, .int sm, .int sl, .int so, .int su, .ref s1, .ref s2, .ref s3, .ref s4, .ref s5, .ref s6, .ref s7, .ref s8, .ref s9, .ref s10])), (s1, .inl (T 0, 10, .inl sf1)), (s2, .inl (T 0, 10, .inl sf2)), (s3, .inl (T 0, 10, .inl sf3)), (s4, .inl (T 0, 10, .inl sf4)), (s5, .inl (T 0, 10, .inl sf5)), (s6, .inl (T 0, 10, .inl sf6)), (s7, .inl (T 0, 10, .inl sf7)), (s8, .inl (T 0, 10, .inl sf8)), (s9, .inl (T 0, 10, .inl sf9)), (n0, .inr (5, [.int (nI nn), .int nm, .int nl, .int no, .int nu, .ref n1, .ref n2, .ref n3, .ref n4, .ref n5, .ref n6, .ref n7, .ref n8, .ref n9, .ref n10])), (n1, .inl (T 0, 10, .inl nf1)), (n2, .inl (T 0, 10, .inl nf2)), (n3, .inl (T 0, 10, .inl nf3)), (n4, .inl (T 0, 10, .inl nf4)), (n5, .inl (T 0, 10, .inl nf5)), (n6, .inl (T 0, 10, .inl nf6)), (n7, .inl (T 0, 10, .inl nf7)), (n8, .inl (T 0, 10, .inl nf8)), (n9, .inl (T 0, 10, .inl nf9))] H locs := V _ [] rfl rfl rfl (by decide +kernel) rfl
    show W p l e _ s m args below meth c H locs _ _ _ (F0 m 12 ls [.int (nI 0)])
    refine lv_if_ne (tgt := 18) hx hb dX7_street_12 (by decide) (fun c => absurd (show (nI 0) = 0 by decide +kernel) c) (fun _ => ?_)
    refine lv_bipush (v := (-3)) hx hb dX7_street_15 (by decide +kernel) ?_
    exact g_iret (Qr := (q_x_street_f T ft ff fa nu0 wa0 o n n0 s0 im iz rw t0 u0 h0 y0 sv tf tu tl t1 te tk tr tb tx sn sm sl so su s1 s2 s3 s4 s5 s6 s7 s8 s9 s10 sf1 sf2 sf3 sf4 sf5 sf6 sf7 sf8 sf9 nn nm nl no nu n1 n2 n3 n4 n5 n6 n7 n8 n9 n10 nf1 nf2 nf3 nf4 nf5 nf6 nf7 nf8 nf9)) hC V ⟨(Nat.le_of_ble_eq_true rfl), (Nat.le_of_ble_eq_true rfl)⟩ (.inl ⟨rfl, rfl, (by first | assumption | omega)⟩) dX7_street_17

/-! the tape: twenty bytes -/
def shB (v : Int32) (s : Nat) : Int32 := v >>> (nI s &&& 31) &&& nI 255
def byV (a b c d e : Int32) (k : Nat) : Int32 := if k < 4 then a else if k < 8 then b else if k < 12 then c else if k < 16 then d else e
def byF (a b c d e : Int32) (k : Nat) : Int32 := shB (byV a b c d e k) (24 - 8 * (k % 4))
theorem and255_8 (x : Int32) : (x &&& nI 255).toInt8 = x.toInt8 := by
  apply Int8.toBitVec_inj.mp
  show (x.toBitVec &&& (nI 255).toBitVec).signExtend 8 = x.toBitVec.signExtend 8
  rw [BitVec.signExtend_eq_setWidth_of_le _ (by decide), BitVec.signExtend_eq_setWidth_of_le _ (by decide)]
  apply BitVec.eq_of_getLsbD_eq
  intro i hi
  have h : ∀ j : Fin 8, (nI 255).toBitVec.getLsbD j.1 = true := by decide +kernel
  have h2 := h ⟨i, hi⟩
  simp only [BitVec.getLsbD_setWidth, BitVec.getLsbD_and]
  rw [h2, Bool.and_true]
theorem and255_bd (x : Int32) : bd (x &&& nI 255) 256 := by
  refine ⟨(x &&& nI 255).toBitVec.toNat, ?_, ?_⟩
  · show (x.toBitVec &&& (nI 255).toBitVec).toNat < 256
    rw [BitVec.toNat_and]
    have : (nI 255).toBitVec.toNat = 255 := by decide +kernel
    rw [this]
    exact Nat.lt_of_le_of_lt Nat.and_le_right (by decide)
  · apply Int32.toBitVec_inj.mp
    apply BitVec.eq_of_toNat_eq
    show _ = (BitVec.ofNat 32 (x &&& nI 255).toBitVec.toNat).toNat
    simp
theorem nar_b (x : Int32) : vp_nar .byte x = x.toInt8.toInt32 := rfl
theorem nar_sh (x : Int32) : vp_nar .byte x.toInt8.toInt32 = sB (x &&& nI 255) := by
  rw [nar_b]
  unfold sB
  rw [and255_8]
  simp
/-- four bytes more, twenty bytes more; and the reference's -/
def fd4 (t : Nat) (tx g : Nat → Int32) (v : Int32) : Prop := (∀ i, i < t → g i = tx i) ∧ g t = sB (shB v 24) ∧ g (t + 1) = sB (shB v 16) ∧ g (t + 2) = sB (shB v 8) ∧ g (t + 3) = sB (shB v 0)
def fdX (t : Nat) (tx g : Nat → Int32) (a b c d e : Int32) : Prop := (∀ i, i < t → g i = tx i) ∧ ∀ k, k < 20 → g (t + k) = sB (byF a b c d e k)
def fdM (t : Nat) (tx g : Nat → Int32) (a b c d e : Int32) : Prop := (∀ i, i < t → g i = tx i) ∧ ∀ k, k < 20 → g (t + k) = byF a b c d e k
theorem fd4_mk {t : Nat} {tx : Nat → Int32} {v : Int32} : fd4 t tx (upd (upd (upd (upd tx t (vp_nar .byte ((v >>> (nI 24 &&& 31)).toInt8.toInt32))) (t + 1) (vp_nar .byte ((v >>> (nI 16 &&& 31)).toInt8.toInt32))) (t + 1 + 1) (vp_nar .byte ((v >>> (nI 8 &&& 31)).toInt8.toInt32))) (t + 1 + 1 + 1) (vp_nar .byte ((v >>> (nI 0 &&& 31)).toInt8.toInt32))) v := by
  refine ⟨fun i hi => ?_, ?_, ?_, ?_, ?_⟩
  · rw [up_other (by omega), up_other (by omega), up_other (by omega), up_other (by omega)]
  · rw [up_other (by omega), up_other (by omega), up_other (by omega), up_same]; exact nar_sh _
  · rw [up_other (by omega), up_other (by omega), up_same]; exact nar_sh _
  · rw [up_other (by omega), show t + 2 = t + 1 + 1 by omega, up_same]; exact nar_sh _
  · rw [show t + 3 = t + 1 + 1 + 1 by omega, up_same]; exact nar_sh _
theorem fd20 {t t1 t2 t3 t4 : Nat} {tx q1 q2 q3 q4 q5 : Nat → Int32} {a b c d e : Int32} (h1 : fd4 t tx q1 a) (e1 : t1 = t + 4) (h2 : fd4 t1 q1 q2 b) (e2 : t2 = t1 + 4) (h3 : fd4 t2 q2 q3 c) (e3 : t3 = t2 + 4) (h4 : fd4 t3 q3 q4 d) (e4 : t4 = t3 + 4) (h5 : fd4 t4 q4 q5 e) : fdX t tx q5 a b c d e := by
  refine ⟨fun i hi => by rw [h5.1 i (by omega), h4.1 i (by omega), h3.1 i (by omega), h2.1 i (by omega), h1.1 i hi], fun k hk => ?_⟩
  exact (match k, hk with
    | 0, _ => by rw [h5.1 (t + 0) (by omega), h4.1 (t + 0) (by omega), h3.1 (t + 0) (by omega), h2.1 (t + 0) (by omega), show t + 0 = t by omega]; exact h1.2.1
    | 1, _ => by rw [h5.1 (t + 1) (by omega), h4.1 (t + 1) (by omega), h3.1 (t + 1) (by omega), h2.1 (t + 1) (by omega), show t + 1 = t + 1 by omega]; exact h1.2.2.1
    | 2, _ => by rw [h5.1 (t + 2) (by omega), h4.1 (t + 2) (by omega), h3.1 (t + 2) (by omega), h2.1 (t + 2) (by omega), show t + 2 = t + 2 by omega]; exact h1.2.2.2.1
    | 3, _ => by rw [h5.1 (t + 3) (by omega), h4.1 (t + 3) (by omega), h3.1 (t + 3) (by omega), h2.1 (t + 3) (by omega), show t + 3 = t + 3 by omega]; exact h1.2.2.2.2
    | 4, _ => by rw [h5.1 (t + 4) (by omega), h4.1 (t + 4) (by omega), h3.1 (t + 4) (by omega), show t + 4 = t1 by omega]; exact h2.2.1
    | 5, _ => by rw [h5.1 (t + 5) (by omega), h4.1 (t + 5) (by omega), h3.1 (t + 5) (by omega), show t + 5 = t1 + 1 by omega]; exact h2.2.2.1
    | 6, _ => by rw [h5.1 (t + 6) (by omega), h4.1 (t + 6) (by omega), h3.1 (t + 6) (by omega), show t + 6 = t1 + 2 by omega]; exact h2.2.2.2.1
    | 7, _ => by rw [h5.1 (t + 7) (by omega), h4.1 (t + 7) (by omega), h3.1 (t + 7) (by omega), show t + 7 = t1 + 3 by omega]; exact h2.2.2.2.2
    | 8, _ => by rw [h5.1 (t + 8) (by omega), h4.1 (t + 8) (by omega), show t + 8 = t2 by omega]; exact h3.2.1
    | 9, _ => by rw [h5.1 (t + 9) (by omega), h4.1 (t + 9) (by omega), show t + 9 = t2 + 1 by omega]; exact h3.2.2.1
    | 10, _ => by rw [h5.1 (t + 10) (by omega), h4.1 (t + 10) (by omega), show t + 10 = t2 + 2 by omega]; exact h3.2.2.2.1
    | 11, _ => by rw [h5.1 (t + 11) (by omega), h4.1 (t + 11) (by omega), show t + 11 = t2 + 3 by omega]; exact h3.2.2.2.2
    | 12, _ => by rw [h5.1 (t + 12) (by omega), show t + 12 = t3 by omega]; exact h4.2.1
    | 13, _ => by rw [h5.1 (t + 13) (by omega), show t + 13 = t3 + 1 by omega]; exact h4.2.2.1
    | 14, _ => by rw [h5.1 (t + 14) (by omega), show t + 14 = t3 + 2 by omega]; exact h4.2.2.2.1
    | 15, _ => by rw [h5.1 (t + 15) (by omega), show t + 15 = t3 + 3 by omega]; exact h4.2.2.2.2
    | 16, _ => by rw [show t + 16 = t4 by omega]; exact h5.2.1
    | 17, _ => by rw [show t + 17 = t4 + 1 by omega]; exact h5.2.2.1
    | 18, _ => by rw [show t + 18 = t4 + 2 by omega]; exact h5.2.2.2.1
    | 19, _ => by rw [show t + 19 = t4 + 3 by omega]; exact h5.2.2.2.2
    | k + 20, h => absurd h (by omega))
theorem by_one {t tq k : Nat} {g : Nat → Int32} {a b c d e x : Int32} (hq : tq = t + k) (h : ∀ j, j < k → g (t + j) = byF a b c d e j) (hx : x = byF a b c d e k) : ∀ j, j < k + 1 → upd g tq x (t + j) = byF a b c d e j := by
  intro j hj
  by_cases q : j = k
  · subst q; rw [hq, up_same]; exact hx
  · rw [up_other (by omega)]; exact h j (by omega)
theorem fd_txt {t : Nat} {tx ft g gt : Nat → Int32} {a b c d e : Int32} (h : TXT t tx ft) (h1 : 880 < t → g = tx) (h2 : ¬ 880 < t → fdX t tx g a b c d e) (h3 : 880 < t → gt = ft) (h4 : ¬ 880 < t → fdM t ft gt a b c d e) : TXT (feedN t) g gt := by
  by_cases q : 880 < t
  · rw [h1 q, h3 q, ← fd_3 q]; exact h
  · rw [← fd_4 (k := t + 20) q rfl]
    obtain ⟨x1, x2⟩ := h2 q
    obtain ⟨m1, m2⟩ := h4 q
    intro i hi
    by_cases r : i < t
    · rw [x1 i r, m1 i r]; exact h i r
    · obtain ⟨k, rfl⟩ : ∃ k, i = t + k := ⟨i - t, by omega⟩
      rw [x2 k (by omega), m2 k (by omega)]
      exact ⟨and255_bd _, rfl⟩
theorem str_ab {n : Int32} {t t2 jn : Nat} (h : n < nI 0 ∨ nI t < n) (e : n = nI jn) (hj : jn ≤ t2) (ht : t = t2) (h9 : t2 ≤ 900) : False := by
  rw [e] at h
  rcases h with h | h
  · exact absurd (b_lt (by omega) (by decide) h) (Nat.not_lt_zero _)
  · have := b_lt (by omega) (by omega) h
    omega

def q_f_putBytes (T : Nat → ClassId) (t0 : Nat) (four : Int32) (tf : Nat) (tu : Int32) (tl : Int32) (t1 : Nat) (te : Int32) (tk : Int32) (tr : Int32) (tb : Int32) (tx : Nat → Int32) : Option Value → va_W → Prop := fun rr ww => (∃ (f2 : Nat) (g : Nat → Int32), rr = none ∧ ww = [(t0, .inr (2, [.int (nI f2), .int tu, .int tl, .ref t1, .int te, .int tk, .int tr, .int tb])), (t1, .inl (T 3, 900, .inl g))] ∧ f2 = tf + 4 ∧ fd4 tf tx g four)
set_option maxHeartbeats 4000000 in
set_option maxRecDepth 100000 in
theorem f_putBytes (l : Launch) (D : va_G) (T : Nat → ClassId) (t0 : Nat) (four : Int32) (tf : Nat) (tu : Int32) (tl : Int32) (t1 : Nat) (te : Int32) (tk : Int32) (tr : Int32) (tb : Int32) (tx : Nat → Int32) (h_f : tf + 4 ≤ 900) : Ct l yX2_putBytes cX2_putBytes 3 none 0 0 0 D T [.ref t0, .int four] [(t0, .inr (2, [.int (nI tf), .int tu, .int tl, .ref t1, .int te, .int tk, .int tr, .int tb])), (t1, .inl (T 3, 900, .inl tx))] (q_f_putBytes T t0 four tf tu tl t1 te tk tr tb tx) := by
  refine Ct.of (cc := cX2_putBytes) (maxL := 3) (ret := none) (by decide) (Nat.le_of_ble_eq_true rfl) ?_
  intro p e s m args below meth c A ls hC hnm V hl
  obtain ⟨hx, hb, hr, hml, hown, hts, hlocks⟩ := id hC
  generalize hH : s.heap = H at V ⊢
  clear hH
  have hl : lv_has ls 3 [(0, .ref t0), (1, .int four)] := hl
  generalize hlo : ([] : List Loc) = locs at V ⊢
  clear hlo
  refine lv_bipush (v := (nI 24)) hx hb dX2_putBytes_0 (by decide +kernel) ?_
  refine lv_istore_n (lv' := [(2, .int (nI 24)), (0, .ref t0), (1, .int four)]) hx hb dX2_putBytes_2 rfl hl (by decide) rfl (fun ls hl => ?_)
  refine lv_iload_n hx hb dX2_putBytes_3 rfl (lv_at hl 0 rfl) ?_
  refine lv_if_lt (tgt := 46) hx hb dX2_putBytes_4 (by decide) (fun c => absurd (show (nI 24) < 0 from c) (by decide +kernel)) (fun _ => ?_)
  refine lv_aload_n hx hb dX2_putBytes_7 rfl (lv_at hl 1 rfl) ?_
  refine g_get hC V (ci := 2) uwX2 0 rfl rfl 0 (by decide) w_129 rfl rfl dX2_putBytes_8 ?_
  refine lv_sipush (v := (nI 900)) hx hb dX2_putBytes_11 (by decide +kernel) ?_
  refine lv_icmp_ge (tgt := 46) hx hb dX2_putBytes_14 (by decide) (fun c_1 => ?_) (fun c_1 => ?_)
  · skip
    have c_1 := b_le (by omega) (by omega) c_1
    exact (by omega : False).elim
  · skip
    have c_1 := b_nle (by omega) (by omega) c_1
    refine lv_aload_n hx hb dX2_putBytes_17 rfl (lv_at hl 1 rfl) ?_
    refine g_get hC V (ci := 2) uwX2 0 rfl rfl 3 (by decide) w_134 rfl rfl dX2_putBytes_18 ?_
    refine lv_aload_n hx hb dX2_putBytes_21 rfl (lv_at hl 1 rfl) ?_
    refine g_get hC V (ci := 2) uwX2 0 rfl rfl 0 (by decide) w_129 rfl rfl dX2_putBytes_22 ?_
    refine lv_iload_n hx hb dX2_putBytes_25 rfl (lv_at hl 2 rfl) ?_
    refine lv_iload_n hx hb dX2_putBytes_26 rfl (lv_at hl 0 rfl) ?_
    refine lv_ishr hx hb dX2_putBytes_27 ?_
    refine lv_i2b hx hb dX2_putBytes_28 rfl ?_
    refine g_bast hC V 1 rfl (vp_in_nI (by omega) (by omega)) (f' := (upd tx tf (vp_nar .byte (((four >>> ((nI 24) &&& 31))).toInt8.toInt32)))) (by rw [nI_clamp (by omega)]) (ws' := [(t0, .inr (2, [.int (nI tf), .int tu, .int tl, .ref t1, .int te, .int tk, .int tr, .int tb])), (t1, .inl (T 3, 900, .inl (upd tx tf (vp_nar .byte (((four >>> ((nI 24) &&& 31))).toInt8.toInt32)))))]) rfl dX2_putBytes_29 (fun H locs V => ?_)
    refine lv_aload_n hx hb dX2_putBytes_30 rfl (lv_at hl 1 rfl) ?_
    refine lv_dup hx hb dX2_putBytes_31 rfl ?_
    refine g_get hC V (ci := 2) uwX2 0 rfl rfl 0 (by decide) w_129 rfl rfl dX2_putBytes_32 ?_
    refine lv_iconst (v := (nI 1)) hx hb dX2_putBytes_35 (by decide +kernel) ?_
    refine lv_iadd hx hb dX2_putBytes_36 ?_
    refine g_vi (y := (nI (tf + 1))) (nI_add _ _) ?_
    refine g_put hC V (ci := 2) uwX2 tyX2 tyX2_ok nmX2 0 rfl rfl 0 (by decide) w_129 rfl rfl rfl rfl (Nat.le_of_ble_eq_true rfl) (ws' := [(t0, .inr (2, [.int (nI (tf + 1)), .int tu, .int tl, .ref t1, .int te, .int tk, .int tr, .int tb])), (t1, .inl (T 3, 900, .inl (upd tx tf (vp_nar .byte (((four >>> ((nI 24) &&& 31))).toInt8.toInt32)))))]) rfl dX2_putBytes_37 (fun H locs V => ?_)
    refine lv_iinc (v := (nI 16)) (lv' := [(2, .int (nI 16)), (0, .ref t0), (1, .int four)]) hx hb dX2_putBytes_40 hl (k := 0) rfl (by decide +kernel) (by decide) rfl (fun ls hl => ?_)
    refine lv_goto (tgt := 3) hx hb dX2_putBytes_43 (by decide) ?_
    refine lv_iload_n hx hb dX2_putBytes_3 rfl (lv_at hl 0 rfl) ?_
    refine lv_if_lt (tgt := 46) hx hb dX2_putBytes_4 (by decide) (fun c => absurd (show (nI 16) < 0 from c) (by decide +kernel)) (fun _ => ?_)
    refine lv_aload_n hx hb dX2_putBytes_7 rfl (lv_at hl 1 rfl) ?_
    refine g_get hC V (ci := 2) uwX2 0 rfl rfl 0 (by decide) w_129 rfl rfl dX2_putBytes_8 ?_
    refine lv_sipush (v := (nI 900)) hx hb dX2_putBytes_11 (by decide +kernel) ?_
    refine lv_icmp_ge (tgt := 46) hx hb dX2_putBytes_14 (by decide) (fun c_2 => ?_) (fun c_2 => ?_)
    · skip
      have c_2 := b_le (by omega) (by omega) c_2
      exact (by omega : False).elim
    · skip
      have c_2 := b_nle (by omega) (by omega) c_2
      refine lv_aload_n hx hb dX2_putBytes_17 rfl (lv_at hl 1 rfl) ?_
      refine g_get hC V (ci := 2) uwX2 0 rfl rfl 3 (by decide) w_134 rfl rfl dX2_putBytes_18 ?_
      refine lv_aload_n hx hb dX2_putBytes_21 rfl (lv_at hl 1 rfl) ?_
      refine g_get hC V (ci := 2) uwX2 0 rfl rfl 0 (by decide) w_129 rfl rfl dX2_putBytes_22 ?_
      refine lv_iload_n hx hb dX2_putBytes_25 rfl (lv_at hl 2 rfl) ?_
      refine lv_iload_n hx hb dX2_putBytes_26 rfl (lv_at hl 0 rfl) ?_
      refine lv_ishr hx hb dX2_putBytes_27 ?_
      refine lv_i2b hx hb dX2_putBytes_28 rfl ?_
      refine g_bast hC V 1 rfl (vp_in_nI (by omega) (by omega)) (f' := (upd (upd tx tf (vp_nar .byte (((four >>> ((nI 24) &&& 31))).toInt8.toInt32))) (tf + 1) (vp_nar .byte (((four >>> ((nI 16) &&& 31))).toInt8.toInt32)))) (by rw [nI_clamp (by omega)]) (ws' := [(t0, .inr (2, [.int (nI (tf + 1)), .int tu, .int tl, .ref t1, .int te, .int tk, .int tr, .int tb])), (t1, .inl (T 3, 900, .inl (upd (upd tx tf (vp_nar .byte (((four >>> ((nI 24) &&& 31))).toInt8.toInt32))) (tf + 1) (vp_nar .byte (((four >>> ((nI 16) &&& 31))).toInt8.toInt32)))))]) rfl dX2_putBytes_29 (fun H locs V => ?_)
      refine lv_aload_n hx hb dX2_putBytes_30 rfl (lv_at hl 1 rfl) ?_
      refine lv_dup hx hb dX2_putBytes_31 rfl ?_
      refine g_get hC V (ci := 2) uwX2 0 rfl rfl 0 (by decide) w_129 rfl rfl dX2_putBytes_32 ?_
      refine lv_iconst (v := (nI 1)) hx hb dX2_putBytes_35 (by decide +kernel) ?_
      refine lv_iadd hx hb dX2_putBytes_36 ?_
      refine g_vi (y := (nI ((tf + 1) + 1))) (nI_add _ _) ?_
      refine g_put hC V (ci := 2) uwX2 tyX2 tyX2_ok nmX2 0 rfl rfl 0 (by decide) w_129 rfl rfl rfl rfl (Nat.le_of_ble_eq_true rfl) (ws' := [(t0, .inr (2, [.int (nI ((tf + 1) + 1)), .int tu, .int tl, .ref t1, .int te, .int tk, .int tr, .int tb])), (t1, .inl (T 3, 900, .inl (upd (upd tx tf (vp_nar .byte (((four >>> ((nI 24) &&& 31))).toInt8.toInt32))) (tf + 1) (vp_nar .byte (((four >>> ((nI 16) &&& 31))).toInt8.toInt32)))))]) rfl dX2_putBytes_37 (fun H locs V => ?_)
      refine lv_iinc (v := (nI 8)) (lv' := [(2, .int (nI 8)), (0, .ref t0), (1, .int four)]) hx hb dX2_putBytes_40 hl (k := 0) rfl (by decide +kernel) (by decide) rfl (fun ls hl => ?_)
      refine lv_goto (tgt := 3) hx hb dX2_putBytes_43 (by decide) ?_
      refine lv_iload_n hx hb dX2_putBytes_3 rfl (lv_at hl 0 rfl) ?_
      refine lv_if_lt (tgt := 46) hx hb dX2_putBytes_4 (by decide) (fun c => absurd (show (nI 8) < 0 from c) (by decide +kernel)) (fun _ => ?_)
      refine lv_aload_n hx hb dX2_putBytes_7 rfl (lv_at hl 1 rfl) ?_
      refine g_get hC V (ci := 2) uwX2 0 rfl rfl 0 (by decide) w_129 rfl rfl dX2_putBytes_8 ?_
      refine lv_sipush (v := (nI 900)) hx hb dX2_putBytes_11 (by decide +kernel) ?_
      refine lv_icmp_ge (tgt := 46) hx hb dX2_putBytes_14 (by decide) (fun c_3 => ?_) (fun c_3 => ?_)
      · skip
        have c_3 := b_le (by omega) (by omega) c_3
        exact (by omega : False).elim
      · skip
        have c_3 := b_nle (by omega) (by omega) c_3
        refine lv_aload_n hx hb dX2_putBytes_17 rfl (lv_at hl 1 rfl) ?_
        refine g_get hC V (ci := 2) uwX2 0 rfl rfl 3 (by decide) w_134 rfl rfl dX2_putBytes_18 ?_
        refine lv_aload_n hx hb dX2_putBytes_21 rfl (lv_at hl 1 rfl) ?_
        refine g_get hC V (ci := 2) uwX2 0 rfl rfl 0 (by decide) w_129 rfl rfl dX2_putBytes_22 ?_
        refine lv_iload_n hx hb dX2_putBytes_25 rfl (lv_at hl 2 rfl) ?_
        refine lv_iload_n hx hb dX2_putBytes_26 rfl (lv_at hl 0 rfl) ?_
        refine lv_ishr hx hb dX2_putBytes_27 ?_
        refine lv_i2b hx hb dX2_putBytes_28 rfl ?_
        refine g_bast hC V 1 rfl (vp_in_nI (by omega) (by omega)) (f' := (upd (upd (upd tx tf (vp_nar .byte (((four >>> ((nI 24) &&& 31))).toInt8.toInt32))) (tf + 1) (vp_nar .byte (((four >>> ((nI 16) &&& 31))).toInt8.toInt32))) ((tf + 1) + 1) (vp_nar .byte (((four >>> ((nI 8) &&& 31))).toInt8.toInt32)))) (by rw [nI_clamp (by omega)]) (ws' := [(t0, .inr (2, [.int (nI ((tf + 1) + 1)), .int tu, .int tl, .ref t1, .int te, .int tk, .int tr, .int tb])), (t1, .inl (T 3, 900, .inl (upd (upd (upd tx tf (vp_nar .byte (((four >>> ((nI 24) &&& 31))).toInt8.toInt32))) (tf + 1) (vp_nar .byte (((four >>> ((nI 16) &&& 31))).toInt8.toInt32))) ((tf + 1) + 1) (vp_nar .byte (((four >>> ((nI 8) &&& 31))).toInt8.toInt32)))))]) rfl dX2_putBytes_29 (fun H locs V => ?_)
        refine lv_aload_n hx hb dX2_putBytes_30 rfl (lv_at hl 1 rfl) ?_
        refine lv_dup hx hb dX2_putBytes_31 rfl ?_
        refine g_get hC V (ci := 2) uwX2 0 rfl rfl 0 (by decide) w_129 rfl rfl dX2_putBytes_32 ?_
        refine lv_iconst (v := (nI 1)) hx hb dX2_putBytes_35 (by decide +kernel) ?_
        refine lv_iadd hx hb dX2_putBytes_36 ?_
        refine g_vi (y := (nI (((tf + 1) + 1) + 1))) (nI_add _ _) ?_
        refine g_put hC V (ci := 2) uwX2 tyX2 tyX2_ok nmX2 0 rfl rfl 0 (by decide) w_129 rfl rfl rfl rfl (Nat.le_of_ble_eq_true rfl) (ws' := [(t0, .inr (2, [.int (nI (((tf + 1) + 1) + 1)), .int tu, .int tl, .ref t1, .int te, .int tk, .int tr, .int tb])), (t1, .inl (T 3, 900, .inl (upd (upd (upd tx tf (vp_nar .byte (((four >>> ((nI 24) &&& 31))).toInt8.toInt32))) (tf + 1) (vp_nar .byte (((four >>> ((nI 16) &&& 31))).toInt8.toInt32))) ((tf + 1) + 1) (vp_nar .byte (((four >>> ((nI 8) &&& 31))).toInt8.toInt32)))))]) rfl dX2_putBytes_37 (fun H locs V => ?_)
        refine lv_iinc (v := (nI 0)) (lv' := [(2, .int (nI 0)), (0, .ref t0), (1, .int four)]) hx hb dX2_putBytes_40 hl (k := 0) rfl (by decide +kernel) (by decide) rfl (fun ls hl => ?_)
        refine lv_goto (tgt := 3) hx hb dX2_putBytes_43 (by decide) ?_
        refine lv_iload_n hx hb dX2_putBytes_3 rfl (lv_at hl 0 rfl) ?_
        refine lv_if_lt (tgt := 46) hx hb dX2_putBytes_4 (by decide) (fun c => absurd (show (nI 0) < 0 from c) (by decide +kernel)) (fun _ => ?_)
        refine lv_aload_n hx hb dX2_putBytes_7 rfl (lv_at hl 1 rfl) ?_
        refine g_get hC V (ci := 2) uwX2 0 rfl rfl 0 (by decide) w_129 rfl rfl dX2_putBytes_8 ?_
        refine lv_sipush (v := (nI 900)) hx hb dX2_putBytes_11 (by decide +kernel) ?_
        refine lv_icmp_ge (tgt := 46) hx hb dX2_putBytes_14 (by decide) (fun c_4 => ?_) (fun c_4 => ?_)
        · skip
          have c_4 := b_le (by omega) (by omega) c_4
          exact (by omega : False).elim
        · skip
          have c_4 := b_nle (by omega) (by omega) c_4
          refine lv_aload_n hx hb dX2_putBytes_17 rfl (lv_at hl 1 rfl) ?_
          refine g_get hC V (ci := 2) uwX2 0 rfl rfl 3 (by decide) w_134 rfl rfl dX2_putBytes_18 ?_
          refine lv_aload_n hx hb dX2_putBytes_21 rfl (lv_at hl 1 rfl) ?_
          refine g_get hC V (ci := 2) uwX2 0 rfl rfl 0 (by decide) w_129 rfl rfl dX2_putBytes_22 ?_
          refine lv_iload_n hx hb dX2_putBytes_25 rfl (lv_at hl 2 rfl) ?_
          refine lv_iload_n hx hb dX2_putBytes_26 rfl (lv_at hl 0 rfl) ?_
          refine lv_ishr hx hb dX2_putBytes_27 ?_
          refine lv_i2b hx hb dX2_putBytes_28 rfl ?_
          refine g_bast hC V 1 rfl (vp_in_nI (by omega) (by omega)) (f' := (upd (upd (upd (upd tx tf (vp_nar .byte (((four >>> ((nI 24) &&& 31))).toInt8.toInt32))) (tf + 1) (vp_nar .byte (((four >>> ((nI 16) &&& 31))).toInt8.toInt32))) ((tf + 1) + 1) (vp_nar .byte (((four >>> ((nI 8) &&& 31))).toInt8.toInt32))) (((tf + 1) + 1) + 1) (vp_nar .byte (((four >>> ((nI 0) &&& 31))).toInt8.toInt32)))) (by rw [nI_clamp (by omega)]) (ws' := [(t0, .inr (2, [.int (nI (((tf + 1) + 1) + 1)), .int tu, .int tl, .ref t1, .int te, .int tk, .int tr, .int tb])), (t1, .inl (T 3, 900, .inl (upd (upd (upd (upd tx tf (vp_nar .byte (((four >>> ((nI 24) &&& 31))).toInt8.toInt32))) (tf + 1) (vp_nar .byte (((four >>> ((nI 16) &&& 31))).toInt8.toInt32))) ((tf + 1) + 1) (vp_nar .byte (((four >>> ((nI 8) &&& 31))).toInt8.toInt32))) (((tf + 1) + 1) + 1) (vp_nar .byte (((four >>> ((nI 0) &&& 31))).toInt8.toInt32)))))]) rfl dX2_putBytes_29 (fun H locs V => ?_)
          refine lv_aload_n hx hb dX2_putBytes_30 rfl (lv_at hl 1 rfl) ?_
          refine lv_dup hx hb dX2_putBytes_31 rfl ?_
          refine g_get hC V (ci := 2) uwX2 0 rfl rfl 0 (by decide) w_129 rfl rfl dX2_putBytes_32 ?_
          refine lv_iconst (v := (nI 1)) hx hb dX2_putBytes_35 (by decide +kernel) ?_
          refine lv_iadd hx hb dX2_putBytes_36 ?_
          refine g_vi (y := (nI ((((tf + 1) + 1) + 1) + 1))) (nI_add _ _) ?_
          refine g_put hC V (ci := 2) uwX2 tyX2 tyX2_ok nmX2 0 rfl rfl 0 (by decide) w_129 rfl rfl rfl rfl (Nat.le_of_ble_eq_true rfl) (ws' := [(t0, .inr (2, [.int (nI ((((tf + 1) + 1) + 1) + 1)), .int tu, .int tl, .ref t1, .int te, .int tk, .int tr, .int tb])), (t1, .inl (T 3, 900, .inl (upd (upd (upd (upd tx tf (vp_nar .byte (((four >>> ((nI 24) &&& 31))).toInt8.toInt32))) (tf + 1) (vp_nar .byte (((four >>> ((nI 16) &&& 31))).toInt8.toInt32))) ((tf + 1) + 1) (vp_nar .byte (((four >>> ((nI 8) &&& 31))).toInt8.toInt32))) (((tf + 1) + 1) + 1) (vp_nar .byte (((four >>> ((nI 0) &&& 31))).toInt8.toInt32)))))]) rfl dX2_putBytes_37 (fun H locs V => ?_)
          refine lv_iinc (v := (-8)) (lv' := [(2, .int (-8)), (0, .ref t0), (1, .int four)]) hx hb dX2_putBytes_40 hl (k := 0) rfl (by decide +kernel) (by decide) rfl (fun ls hl => ?_)
          refine lv_goto (tgt := 3) hx hb dX2_putBytes_43 (by decide) ?_
          refine lv_iload_n hx hb dX2_putBytes_3 rfl (lv_at hl 0 rfl) ?_
          refine lv_if_lt (tgt := 46) hx hb dX2_putBytes_4 (by decide) (fun _ => ?_) (fun c => absurd (show (-8 : Int32) < 0 by decide +kernel) c)
          exact g_vret (Qr := (q_f_putBytes T t0 four tf tu tl t1 te tk tr tb tx)) hC V ⟨(Nat.le_of_ble_eq_true rfl), (Nat.le_of_ble_eq_true rfl)⟩ ⟨((((tf + 1) + 1) + 1) + 1), (upd (upd (upd (upd tx tf (vp_nar .byte (((four >>> ((nI 24) &&& 31))).toInt8.toInt32))) (tf + 1) (vp_nar .byte (((four >>> ((nI 16) &&& 31))).toInt8.toInt32))) ((tf + 1) + 1) (vp_nar .byte (((four >>> ((nI 8) &&& 31))).toInt8.toInt32))) (((tf + 1) + 1) + 1) (vp_nar .byte (((four >>> ((nI 0) &&& 31))).toInt8.toInt32))), rfl, rfl, (by omega), fd4_mk⟩ dX2_putBytes_46

def q_x_feed_f (T : Nat → ClassId) (o : Nat) (va : Int32) (vb : Int32) (vc : Int32) (vd : Int32) (ve : Int32) (n0 : Nat) (s0 : Nat) (im : Nat) (iz : Nat) (rw : Nat) (t0 : Nat) (u0 : Nat) (h0 : Nat) (y0 : Nat) (sv : Value) (tf : Nat) (tu : Int32) (tl : Int32) (t1 : Nat) (te : Int32) (tk : Int32) (tr : Int32) (tb : Int32) (tx : Nat → Int32) : Option Value → va_W → Prop := fun rr ww => (∃ (z : Int32) (f2 : Nat) (g : Nat → Int32), rr = some (.int z) ∧ ww = [(o, .inr (7, [.ref n0, .ref s0, .ref im, .ref iz, .ref rw, .ref t0, .ref u0, .ref h0, .ref y0, sv])), (t0, .inr (2, [.int (nI f2), .int tu, .int tl, .ref t1, .int te, .int tk, .int tr, .int tb])), (t1, .inl (T 3, 900, .inl g))] ∧ z = feedA tf ∧ f2 = feedN tf ∧ (880 < tf → g = tx) ∧ (¬ 880 < tf → fdX tf tx g va vb vc vd ve))
set_option maxHeartbeats 4000000 in
set_option maxRecDepth 100000 in
theorem x_feed_f (l : Launch) (D : va_G) (T : Nat → ClassId) (o : Nat) (va : Int32) (vb : Int32) (vc : Int32) (vd : Int32) (ve : Int32) (n0 : Nat) (s0 : Nat) (im : Nat) (iz : Nat) (rw : Nat) (t0 : Nat) (u0 : Nat) (h0 : Nat) (y0 : Nat) (sv : Value) (tf : Nat) (tu : Int32) (tl : Int32) (t1 : Nat) (te : Int32) (tk : Int32) (tr : Int32) (tb : Int32) (tx : Nat → Int32) (h_f : tf ≤ 900) : Ct l yX7_feed cX7_feed 6 (some .int) 1 0 0 D T [.ref o, .int va, .int vb, .int vc, .int vd, .int ve] [(o, .inr (7, [.ref n0, .ref s0, .ref im, .ref iz, .ref rw, .ref t0, .ref u0, .ref h0, .ref y0, sv])), (t0, .inr (2, [.int (nI tf), .int tu, .int tl, .ref t1, .int te, .int tk, .int tr, .int tb])), (t1, .inl (T 3, 900, .inl tx))] (q_x_feed_f T o va vb vc vd ve n0 s0 im iz rw t0 u0 h0 y0 sv tf tu tl t1 te tk tr tb tx) := by
  refine Ct.of (cc := cX7_feed) (maxL := 6) (ret := (some .int)) (by decide) (Nat.le_of_ble_eq_true rfl) ?_
  intro p e s m args below meth c A ls hC hnm V hl
  obtain ⟨hx, hb, hr, hml, hown, hts, hlocks⟩ := id hC
  generalize hH : s.heap = H at V ⊢
  clear hH
  have hl : lv_has ls 6 [(0, .ref o), (1, .int va), (2, .int vb), (3, .int vc), (4, .int vd), (5, .int ve)] := hl
  generalize hlo : ([] : List Loc) = locs at V ⊢
  clear hlo
  refine lv_aload_n hx hb dX7_feed_0 rfl (lv_at hl 0 rfl) ?_
  refine g_get hC V (ci := 7) uwX7 0 rfl rfl 5 (by decide) w_254 rfl rfl dX7_feed_1 ?_
  refine g_get hC V (ci := 2) uwX2 1 rfl rfl 0 (by decide) w_128 rfl rfl dX7_feed_4 ?_
  refine lv_bipush (v := (nI 20)) hx hb dX7_feed_7 (by decide +kernel) ?_
  refine lv_iadd hx hb dX7_feed_9 ?_
  refine g_vi (y := (nI (tf + 20))) (nI_add _ _) ?_
  refine lv_sipush (v := (nI 900)) hx hb dX7_feed_10 (by decide +kernel) ?_
  refine lv_icmp_le (tgt := 19) hx hb dX7_feed_13 (by decide) (fun c_1 => ?_) (fun c_1 => ?_)
  · skip
    have c_1 := b_le (by omega) (by omega) c_1
    refine lv_aload_n hx hb dX7_feed_19 rfl (lv_at hl 0 rfl) ?_
    refine g_get hC V (ci := 7) uwX7 0 rfl rfl 5 (by decide) w_254 rfl rfl dX7_feed_20 ?_
    refine lv_iload_n hx hb dX7_feed_23 rfl (lv_at hl 1 rfl) ?_
    refine g_callVU (nA := 1) hC V hl.1 (f_putBytes l D T t0 va tf tu tl t1 te tk tr tb tx (by first | assumption | omega)) w_284 w_285 w_286 w_4 w_287 (by decide +kernel) rfl ⟨(Nat.le_of_ble_eq_true rfl), (Nat.le_of_ble_eq_true rfl)⟩ 1 (ci := 2) rfl rfl [1, 2] rfl rfl (Nat.le_of_ble_eq_true rfl) dX7_feed_24 ⟨(Nat.le_of_ble_eq_true rfl), (Nat.le_of_ble_eq_true rfl)⟩ rfl (fun r w1 H locs hQ V => ?_)
    obtain ⟨f2_2, g_3, rfl, rfl, f_4, f_5⟩ := hQ
    have V : gW D T A s [(o, .inr (7, [.ref n0, .ref s0, .ref im, .ref iz, .ref rw, .ref t0, .ref u0, .ref h0, .ref y0, sv])), (t0, .inr (2, [.int (nI f2_2), .int tu, .int tl, .ref t1, .int te, .int tk, .int tr, .int tb])), (t1, .inl (T 3, 900, .inl g_3))] H locs := V _ [1, 0] rfl rfl rfl (by decide +kernel) rfl
    show W p l e _ s m args below meth c H locs _ _ _ (F0 m 27 ls [])
    refine lv_aload_n hx hb dX7_feed_27 rfl (lv_at hl 0 rfl) ?_
    refine g_get hC V (ci := 7) uwX7 0 rfl rfl 5 (by decide) w_254 rfl rfl dX7_feed_28 ?_
    refine lv_iload_n hx hb dX7_feed_31 rfl (lv_at hl 2 rfl) ?_
    refine g_callVU (nA := 1) hC V hl.1 (f_putBytes l D T t0 vb f2_2 tu tl t1 te tk tr tb g_3 (by first | assumption | omega)) w_284 w_285 w_286 w_4 w_287 (by decide +kernel) rfl ⟨(Nat.le_of_ble_eq_true rfl), (Nat.le_of_ble_eq_true rfl)⟩ 1 (ci := 2) rfl rfl [1, 2] rfl rfl (Nat.le_of_ble_eq_true rfl) dX7_feed_32 ⟨(Nat.le_of_ble_eq_true rfl), (Nat.le_of_ble_eq_true rfl)⟩ rfl (fun r w1 H locs hQ V => ?_)
    obtain ⟨f2_6, g_7, rfl, rfl, f_8, f_9⟩ := hQ
    have V : gW D T A s [(o, .inr (7, [.ref n0, .ref s0, .ref im, .ref iz, .ref rw, .ref t0, .ref u0, .ref h0, .ref y0, sv])), (t0, .inr (2, [.int (nI f2_6), .int tu, .int tl, .ref t1, .int te, .int tk, .int tr, .int tb])), (t1, .inl (T 3, 900, .inl g_7))] H locs := V _ [1, 0] rfl rfl rfl (by decide +kernel) rfl
    show W p l e _ s m args below meth c H locs _ _ _ (F0 m 35 ls [])
    refine lv_aload_n hx hb dX7_feed_35 rfl (lv_at hl 0 rfl) ?_
    refine g_get hC V (ci := 7) uwX7 0 rfl rfl 5 (by decide) w_254 rfl rfl dX7_feed_36 ?_
    refine lv_iload_n hx hb dX7_feed_39 rfl (lv_at hl 3 rfl) ?_
    refine g_callVU (nA := 1) hC V hl.1 (f_putBytes l D T t0 vc f2_6 tu tl t1 te tk tr tb g_7 (by first | assumption | omega)) w_284 w_285 w_286 w_4 w_287 (by decide +kernel) rfl ⟨(Nat.le_of_ble_eq_true rfl), (Nat.le_of_ble_eq_true rfl)⟩ 1 (ci := 2) rfl rfl [1, 2] rfl rfl (Nat.le_of_ble_eq_true rfl) dX7_feed_40 ⟨(Nat.le_of_ble_eq_true rfl), (Nat.le_of_ble_eq_true rfl)⟩ rfl (fun r w1 H locs hQ V => ?_)
    obtain ⟨f2_10, g_11, rfl, rfl, f_12, f_13⟩ := hQ
    have V : gW D T A s [(o, .inr (7, [.ref n0, .ref s0, .ref im, .ref iz, .ref rw, .ref t0, .ref u0, .ref h0, .ref y0, sv])), (t0, .inr (2, [.int (nI f2_10), .int tu, .int tl, .ref t1, .int te, .int tk, .int tr, .int tb])), (t1, .inl (T 3, 900, .inl g_11))] H locs := V _ [1, 0] rfl rfl rfl (by decide +kernel) rfl
    show W p l e _ s m args below meth c H locs _ _ _ (F0 m 43 ls [])
    refine lv_aload_n hx hb dX7_feed_43 rfl (lv_at hl 0 rfl) ?_
    refine g_get hC V (ci := 7) uwX7 0 rfl rfl 5 (by decide) w_254 rfl rfl dX7_feed_44 ?_
    refine lv_iload hx hb dX7_feed_47 (lv_at hl 4 rfl) ?_
    refine g_callVU (nA := 1) hC V hl.1 (f_putBytes l D T t0 vd f2_10 tu tl t1 te tk tr tb g_11 (by first | assumption | omega)) w_284 w_285 w_286 w_4 w_287 (by decide +kernel) rfl ⟨(Nat.le_of_ble_eq_true rfl), (Nat.le_of_ble_eq_true rfl)⟩ 1 (ci := 2) rfl rfl [1, 2] rfl rfl (Nat.le_of_ble_eq_true rfl) dX7_feed_49 ⟨(Nat.le_of_ble_eq_true rfl), (Nat.le_of_ble_eq_true rfl)⟩ rfl (fun r w1 H locs hQ V => ?_)
    obtain ⟨f2_14, g_15, rfl, rfl, f_16, f_17⟩ := hQ
    have V : gW D T A s [(o, .inr (7, [.ref n0, .ref s0, .ref im, .ref iz, .ref rw, .ref t0, .ref u0, .ref h0, .ref y0, sv])), (t0, .inr (2, [.int (nI f2_14), .int tu, .int tl, .ref t1, .int te, .int tk, .int tr, .int tb])), (t1, .inl (T 3, 900, .inl g_15))] H locs := V _ [1, 0] rfl rfl rfl (by decide +kernel) rfl
    show W p l e _ s m args below meth c H locs _ _ _ (F0 m 52 ls [])
    refine lv_aload_n hx hb dX7_feed_52 rfl (lv_at hl 0 rfl) ?_
    refine g_get hC V (ci := 7) uwX7 0 rfl rfl 5 (by decide) w_254 rfl rfl dX7_feed_53 ?_
    refine lv_iload hx hb dX7_feed_56 (lv_at hl 5 rfl) ?_
    refine g_callVU (nA := 1) hC V hl.1 (f_putBytes l D T t0 ve f2_14 tu tl t1 te tk tr tb g_15 (by first | assumption | omega)) w_284 w_285 w_286 w_4 w_287 (by decide +kernel) rfl ⟨(Nat.le_of_ble_eq_true rfl), (Nat.le_of_ble_eq_true rfl)⟩ 1 (ci := 2) rfl rfl [1, 2] rfl rfl (Nat.le_of_ble_eq_true rfl) dX7_feed_58 ⟨(Nat.le_of_ble_eq_true rfl), (Nat.le_of_ble_eq_true rfl)⟩ rfl (fun r w1 H locs hQ V => ?_)
    obtain ⟨f2_18, g_19, rfl, rfl, f_20, f_21⟩ := hQ
    have V : gW D T A s [(o, .inr (7, [.ref n0, .ref s0, .ref im, .ref iz, .ref rw, .ref t0, .ref u0, .ref h0, .ref y0, sv])), (t0, .inr (2, [.int (nI f2_18), .int tu, .int tl, .ref t1, .int te, .int tk, .int tr, .int tb])), (t1, .inl (T 3, 900, .inl g_19))] H locs := V _ [1, 0] rfl rfl rfl (by decide +kernel) rfl
    show W p l e _ s m args below meth c H locs _ _ _ (F0 m 61 ls [])
    refine lv_aload_n hx hb dX7_feed_61 rfl (lv_at hl 0 rfl) ?_
    refine g_get hC V (ci := 7) uwX7 0 rfl rfl 5 (by decide) w_254 rfl rfl dX7_feed_62 ?_
    refine g_get hC V (ci := 2) uwX2 1 rfl rfl 0 (by decide) w_128 rfl rfl dX7_feed_65 ?_
    exact g_iret (Qr := (q_x_feed_f T o va vb vc vd ve n0 s0 im iz rw t0 u0 h0 y0 sv tf tu tl t1 te tk tr tb tx)) hC V ⟨(Nat.le_of_ble_eq_true rfl), (Nat.le_of_ble_eq_true rfl)⟩ ⟨(nI f2_18), f2_18, g_19, rfl, rfl, (fd_2 (by omega) (by omega)), (fd_4 (by omega) (by omega)), (fun h => absurd h (by omega)), (fun _ => fd20 f_5 f_4 f_9 f_8 f_13 f_12 f_17 f_16 f_21)⟩ dX7_feed_68
  · skip
    have c_1 := b_nle (by omega) (by omega) c_1
    refine lv_bipush (v := (-5)) hx hb dX7_feed_16 (by decide +kernel) ?_
    exact g_iret (Qr := (q_x_feed_f T o va vb vc vd ve n0 s0 im iz rw t0 u0 h0 y0 sv tf tu tl t1 te tk tr tb tx)) hC V ⟨(Nat.le_of_ble_eq_true rfl), (Nat.le_of_ble_eq_true rfl)⟩ ⟨(-5), tf, tx, rfl, rfl, (fd_1 (by omega)), (fd_3 (by omega)), (fun _ => rfl), (fun h => absurd (by omega) h)⟩ dX7_feed_18

def q_m_feed_f (T : Nat → ClassId) (o : Nat) (va : Int32) (vb : Int32) (vc : Int32) (vd : Int32) (ve : Int32) (w0 : Int32) (g1 : Nat) (g2 : Nat) (g3 : Nat) (g4 : Nat) (tp : Nat) (w6 : Int32) (w7 : Int32) (w8 : Int32) (w9 : Int32) (w10 : Int32) (w11 : Int32) (w12 : Int32) (w13 : Int32) (w14 : Int32) (g15 : Nat) (w16 : Int32) (g17 : Nat) (w18 : Int32) (w19 : Int32) (g20 : Nat) (w21 : Int32) (g22 : Nat) (g23 : Nat) (g24 : Nat) (w25 : Int32) (w26 : Int32) (w27 : Int32) (g28 : Nat) (g29 : Nat) (w30 : Int32) (g31 : Nat) (g32 : Nat) (g33 : Nat) (ft : Nat → Int32) : Option Value → va_W → Prop := fun rr ww => (∃ (z : Int32) (t2 : Nat) (gt : Nat → Int32), rr = some (.int z) ∧ ww = [(o, .inr (8, [.int (nI 0), .ref g1, .ref g2, .ref g3, .ref g4, .int (nI t2), .int w6, .int w7, .int w8, .int w9, .int w10, .int w11, .int w12, .int w13, .int w14, .ref g15, .int w16, .ref g17, .int w18, .int w19, .ref g20, .int w21, .ref g22, .ref g23, .ref g24, .int w25, .int w26, .int w27, .ref g28, .ref g29, .int w30, .ref g31, .ref g32, .ref g33])), (g3, .inl (T 0, 900, .inl gt))] ∧ z = feedA tp ∧ t2 = feedN tp ∧ (880 < tp → gt = ft) ∧ (¬ 880 < tp → fdM tp ft gt va vb vc vd ve))
set_option maxHeartbeats 4000000 in
set_option maxRecDepth 100000 in
theorem m_feed_f (l : Launch) (D : va_G) (T : Nat → ClassId) (o : Nat) (va : Int32) (vb : Int32) (vc : Int32) (vd : Int32) (ve : Int32) (w0 : Int32) (g1 : Nat) (g2 : Nat) (g3 : Nat) (g4 : Nat) (tp : Nat) (w6 : Int32) (w7 : Int32) (w8 : Int32) (w9 : Int32) (w10 : Int32) (w11 : Int32) (w12 : Int32) (w13 : Int32) (w14 : Int32) (g15 : Nat) (w16 : Int32) (g17 : Nat) (w18 : Int32) (w19 : Int32) (g20 : Nat) (w21 : Int32) (g22 : Nat) (g23 : Nat) (g24 : Nat) (w25 : Int32) (w26 : Int32) (w27 : Int32) (g28 : Nat) (g29 : Nat) (w30 : Int32) (g31 : Nat) (g32 : Nat) (g33 : Nat) (ft : Nat → Int32) (h_t : tp ≤ 900) : Ct l yX8_feed cX8_feed 8 (some .int) 0 0 0 D T [.ref o, .int va, .int vb, .int vc, .int vd, .int ve] [(o, .inr (8, [.int w0, .ref g1, .ref g2, .ref g3, .ref g4, .int (nI tp), .int w6, .int w7, .int w8, .int w9, .int w10, .int w11, .int w12, .int w13, .int w14, .ref g15, .int w16, .ref g17, .int w18, .int w19, .ref g20, .int w21, .ref g22, .ref g23, .ref g24, .int w25, .int w26, .int w27, .ref g28, .ref g29, .int w30, .ref g31, .ref g32, .ref g33])), (g3, .inl (T 0, 900, .inl ft))] (q_m_feed_f T o va vb vc vd ve w0 g1 g2 g3 g4 tp w6 w7 w8 w9 w10 w11 w12 w13 w14 g15 w16 g17 w18 w19 g20 w21 g22 g23 g24 w25 w26 w27 g28 g29 w30 g31 g32 g33 ft) := by
  refine Ct.of (cc := cX8_feed) (maxL := 8) (ret := (some .int)) (by decide) (Nat.le_of_ble_eq_true rfl) ?_
  intro p e s m args below meth c A ls hC hnm V hl
  obtain ⟨hx, hb, hr, hml, hown, hts, hlocks⟩ := id hC
  generalize hH : s.heap = H at V ⊢
  clear hH
  have hl : lv_has ls 8 [(0, .ref o), (1, .int va), (2, .int vb), (3, .int vc), (4, .int vd), (5, .int ve)] := hl
  generalize hlo : ([] : List Loc) = locs at V ⊢
  clear hlo
  refine lv_aload_n hx hb dX8_feed_0 rfl (lv_at hl 0 rfl) ?_
  refine lv_iconst (v := (nI 0)) hx hb dX8_feed_1 (by decide +kernel) ?_
  refine g_put hC V (ci := 8) uwX8 tyX8 tyX8_ok nmX8 0 rfl rfl 0 (by decide) w_912 rfl rfl rfl rfl (Nat.le_of_ble_eq_true rfl) (ws' := [(o, .inr (8, [.int (nI 0), .ref g1, .ref g2, .ref g3, .ref g4, .int (nI tp), .int w6, .int w7, .int w8, .int w9, .int w10, .int w11, .int w12, .int w13, .int w14, .ref g15, .int w16, .ref g17, .int w18, .int w19, .ref g20, .int w21, .ref g22, .ref g23, .ref g24, .int w25, .int w26, .int w27, .ref g28, .ref g29, .int w30, .ref g31, .ref g32, .ref g33])), (g3, .inl (T 0, 900, .inl ft))]) rfl dX8_feed_2 (fun H locs V => ?_)
  refine lv_aload_n hx hb dX8_feed_5 rfl (lv_at hl 0 rfl) ?_
  refine g_get hC V (ci := 8) uwX8 0 rfl rfl 5 (by decide) w_917 rfl rfl dX8_feed_6 ?_
  refine lv_bipush (v := (nI 20)) hx hb dX8_feed_9 (by decide +kernel) ?_
  refine lv_iadd hx hb dX8_feed_11 ?_
  refine g_vi (y := (nI (tp + 20))) (nI_add _ _) ?_
  refine lv_sipush (v := (nI 900)) hx hb dX8_feed_12 (by decide +kernel) ?_
  refine lv_icmp_le (tgt := 21) hx hb dX8_feed_15 (by decide) (fun c_1 => ?_) (fun c_1 => ?_)
  · skip
    have c_1 := b_le (by omega) (by omega) c_1
    refine lv_iconst (v := (nI 0)) hx hb dX8_feed_21 (by decide +kernel) ?_
    refine lv_istore (lv' := [(6, .int (nI 0)), (0, .ref o), (1, .int va), (2, .int vb), (3, .int vc), (4, .int vd), (5, .int ve)]) hx hb dX8_feed_22 hl (by decide) rfl (fun ls hl => ?_)
    have L_2 : ∀ (fu : Nat) (k : Nat) (tq : Nat) (gq : Nat → Int32), k ≤ 20 → tq = tp + k → (∀ i, i < tp → gq i = ft i) → (∀ j, j < k → gq (tp + j) = byF va vb vc vd ve j) → 20 - k < fu → ∀ (H : Heap) (locs : List Loc) (ls : Array Slot), gW D T A s [(o, .inr (8, [.int (nI 0), .ref g1, .ref g2, .ref g3, .ref g4, .int (nI tq), .int w6, .int w7, .int w8, .int w9, .int w10, .int w11, .int w12, .int w13, .int w14, .ref g15, .int w16, .ref g17, .int w18, .int w19, .ref g20, .int w21, .ref g22, .ref g23, .ref g24, .int w25, .int w26, .int w27, .ref g28, .ref g29, .int w30, .ref g31, .ref g32, .ref g33])), (g3, .inl (T 0, 900, .inl gq))] H locs → lv_has ls 8 [(6, .int (nI k)), (0, .ref o), (1, .int va), (2, .int vb), (3, .int vc), (4, .int vd), (5, .int ve)] → W p l e (rmD 0 0 0) s m args below meth c H locs 0 0 (MQ below (gQ D A (q_m_feed_f T o va vb vc vd ve w0 g1 g2 g3 g4 tp w6 w7 w8 w9 w10 w11 w12 w13 w14 g15 w16 g17 w18 w19 g20 w21 g22 g23 g24 w25 w26 w27 g28 g29 w30 g31 g32 g33 ft)) args s 0 0 A) (F0 m 24 ls []) := by
      intro fu_24
      induction fu_24 with
      | zero => intro k tq gq hk htq hg1 hg2 hmu; exact absurd hmu (Nat.not_lt_zero _)
      | succ fu_24 ih_24 =>
        intro k tq gq hk htq hg1 hg2 hmu_24 H locs ls V hl
        refine lv_iload hx hb dX8_feed_24 (lv_at hl 0 rfl) ?_
        refine lv_bipush (v := (nI 20)) hx hb dX8_feed_26 (by decide +kernel) ?_
        refine lv_icmp_ge (tgt := 121) hx hb dX8_feed_28 (by decide) (fun c_3 => ?_) (fun c_3 => ?_)
        · skip
          have c_3 := b_le (by omega) (by omega) c_3
          refine lv_aload_n hx hb dX8_feed_121 rfl (lv_at hl 1 rfl) ?_
          refine g_get hC V (ci := 8) uwX8 0 rfl rfl 5 (by decide) w_917 rfl rfl dX8_feed_122 ?_
          exact g_iret (Qr := (q_m_feed_f T o va vb vc vd ve w0 g1 g2 g3 g4 tp w6 w7 w8 w9 w10 w11 w12 w13 w14 g15 w16 g17 w18 w19 g20 w21 g22 g23 g24 w25 w26 w27 g28 g29 w30 g31 g32 g33 ft)) hC V ⟨(Nat.le_of_ble_eq_true rfl), (Nat.le_of_ble_eq_true rfl)⟩ ⟨(nI tq), tq, gq, rfl, rfl, (fd_2 (by omega) (by omega)), (fd_4 (by omega) (by omega)), (fun h => absurd h (by omega)), (fun _ => ⟨hg1, fun j hj => hg2 j (by omega)⟩)⟩ dX8_feed_125
        · skip
          have c_3 := b_nle (by omega) (by omega) c_3
          refine lv_iload hx hb dX8_feed_31 (lv_at hl 0 rfl) ?_
          refine lv_iconst (v := (nI 4)) hx hb dX8_feed_33 (by decide +kernel) ?_
          refine lv_icmp_ge (tgt := 41) hx hb dX8_feed_34 (by decide) (fun c_4 => ?_) (fun c_4 => ?_)
          · skip
            have c_4 := b_le (by omega) (by omega) c_4
            refine lv_iload hx hb dX8_feed_41 (lv_at hl 0 rfl) ?_
            refine lv_bipush (v := (nI 8)) hx hb dX8_feed_43 (by decide +kernel) ?_
            refine lv_icmp_ge (tgt := 52) hx hb dX8_feed_45 (by decide) (fun c_5 => ?_) (fun c_5 => ?_)
            · skip
              have c_5 := b_le (by omega) (by omega) c_5
              refine lv_iload hx hb dX8_feed_52 (lv_at hl 0 rfl) ?_
              refine lv_bipush (v := (nI 12)) hx hb dX8_feed_54 (by decide +kernel) ?_
              refine lv_icmp_ge (tgt := 63) hx hb dX8_feed_56 (by decide) (fun c_6 => ?_) (fun c_6 => ?_)
              · skip
                have c_6 := b_le (by omega) (by omega) c_6
                refine lv_iload hx hb dX8_feed_63 (lv_at hl 0 rfl) ?_
                refine lv_bipush (v := (nI 16)) hx hb dX8_feed_65 (by decide +kernel) ?_
                refine lv_icmp_ge (tgt := 75) hx hb dX8_feed_67 (by decide) (fun c_7 => ?_) (fun c_7 => ?_)
                · skip
                  have c_7 := b_le (by omega) (by omega) c_7
                  refine lv_iload hx hb dX8_feed_75 (lv_at hl 6 rfl) ?_
                  refine lv_istore (lv' := [(7, .int ve), (6, .int (nI k)), (0, .ref o), (1, .int va), (2, .int vb), (3, .int vc), (4, .int vd), (5, .int ve)]) hx hb dX8_feed_77 hl (by decide) rfl (fun ls hl => ?_)
                  refine lv_aload_n hx hb dX8_feed_79 rfl (lv_at hl 2 rfl) ?_
                  refine g_get hC V (ci := 8) uwX8 0 rfl rfl 3 (by decide) w_915 rfl rfl dX8_feed_80 ?_
                  refine lv_aload_n hx hb dX8_feed_83 rfl (lv_at hl 2 rfl) ?_
                  refine g_get hC V (ci := 8) uwX8 0 rfl rfl 5 (by decide) w_917 rfl rfl dX8_feed_84 ?_
                  refine lv_iload hx hb dX8_feed_87 (lv_at hl 0 rfl) ?_
                  refine lv_bipush (v := (nI 24)) hx hb dX8_feed_89 (by decide +kernel) ?_
                  refine lv_bipush (v := (nI 8)) hx hb dX8_feed_91 (by decide +kernel) ?_
                  refine lv_iload hx hb dX8_feed_93 (lv_at hl 1 rfl) ?_
                  refine lv_iconst (v := (nI 4)) hx hb dX8_feed_95 (by decide +kernel) ?_
                  refine lv_irem hx hb dX8_feed_96 (by decide +kernel) ?_
                  refine g_vi (y := (nI (k % 4))) (nI_rem (by omega) (by omega)) ?_
                  refine lv_imul hx hb dX8_feed_97 ?_
                  refine g_vi (y := (nI (8 * (k % 4)))) (pk_mul _ _) ?_
                  refine lv_isub hx hb dX8_feed_98 ?_
                  refine g_vi (y := (nI (24 - (8 * (k % 4))))) (nI_sub (by omega)) ?_
                  refine lv_ishr hx hb dX8_feed_99 ?_
                  refine lv_sipush (v := (nI 255)) hx hb dX8_feed_100 (by decide +kernel) ?_
                  refine lv_iand hx hb dX8_feed_103 ?_
                  refine g_iast hC V 1 rfl (vp_in_nI (by omega) (by omega)) (f' := (upd gq tq ((ve >>> ((nI (24 - (8 * (k % 4)))) &&& 31)) &&& (nI 255)))) (by rw [nI_clamp (by omega)]) (ws' := [(o, .inr (8, [.int (nI 0), .ref g1, .ref g2, .ref g3, .ref g4, .int (nI tq), .int w6, .int w7, .int w8, .int w9, .int w10, .int w11, .int w12, .int w13, .int w14, .ref g15, .int w16, .ref g17, .int w18, .int w19, .ref g20, .int w21, .ref g22, .ref g23, .ref g24, .int w25, .int w26, .int w27, .ref g28, .ref g29, .int w30, .ref g31, .ref g32, .ref g33])), (g3, .inl (T 0, 900, .inl (upd gq tq ((ve >>> ((nI (24 - (8 * (k % 4)))) &&& 31)) &&& (nI 255)))))]) rfl dX8_feed_104 (fun H locs V => ?_)
                  refine lv_aload_n hx hb dX8_feed_105 rfl (lv_at hl 2 rfl) ?_
                  refine lv_dup hx hb dX8_feed_106 rfl ?_
                  refine g_get hC V (ci := 8) uwX8 0 rfl rfl 5 (by decide) w_917 rfl rfl dX8_feed_107 ?_
                  refine lv_iconst (v := (nI 1)) hx hb dX8_feed_110 (by decide +kernel) ?_
                  refine lv_iadd hx hb dX8_feed_111 ?_
                  refine g_vi (y := (nI (tq + 1))) (nI_add _ _) ?_
                  refine g_put hC V (ci := 8) uwX8 tyX8 tyX8_ok nmX8 0 rfl rfl 5 (by decide) w_917 rfl rfl rfl rfl (Nat.le_of_ble_eq_true rfl) (ws' := [(o, .inr (8, [.int (nI 0), .ref g1, .ref g2, .ref g3, .ref g4, .int (nI (tq + 1)), .int w6, .int w7, .int w8, .int w9, .int w10, .int w11, .int w12, .int w13, .int w14, .ref g15, .int w16, .ref g17, .int w18, .int w19, .ref g20, .int w21, .ref g22, .ref g23, .ref g24, .int w25, .int w26, .int w27, .ref g28, .ref g29, .int w30, .ref g31, .ref g32, .ref g33])), (g3, .inl (T 0, 900, .inl (upd gq tq ((ve >>> ((nI (24 - (8 * (k % 4)))) &&& 31)) &&& (nI 255)))))]) rfl dX8_feed_112 (fun H locs V => ?_)
                  refine lv_iinc (v := (nI (k + 1))) (lv' := [(6, .int (nI (k + 1))), (7, .int ve), (0, .ref o), (1, .int va), (2, .int vb), (3, .int vc), (4, .int vd), (5, .int ve)]) hx hb dX8_feed_115 hl (k := 1) rfl (nI_1 _) (by decide) rfl (fun ls hl => ?_)
                  refine lv_goto (tgt := 24) hx hb dX8_feed_118 (by decide) ?_
                  exact ih_24 (k + 1) (tq + 1) (upd gq tq ((ve >>> ((nI (24 - (8 * (k % 4)))) &&& 31)) &&& (nI 255))) (by omega) (by omega) (fun i hi => (up_other (by omega)).trans (hg1 i hi)) (by_one htq hg2 (by unfold byF byV shB; first | rw [if_pos (by omega)] | rw [if_neg (by omega), if_pos (by omega)] | rw [if_neg (by omega), if_neg (by omega), if_pos (by omega)] | rw [if_neg (by omega), if_neg (by omega), if_neg (by omega), if_pos (by omega)] | rw [if_neg (by omega), if_neg (by omega), if_neg (by omega), if_neg (by omega)])) (by omega) _ _ _ V (lv_sub hl [0, 2, 3, 4, 5, 6, 7] rfl)
                · skip
                  have c_7 := b_nle (by omega) (by omega) c_7
                  refine lv_iload hx hb dX8_feed_70 (lv_at hl 5 rfl) ?_
                  refine lv_goto (tgt := 77) hx hb dX8_feed_72 (by decide) ?_
                  refine lv_istore (lv' := [(7, .int vd), (6, .int (nI k)), (0, .ref o), (1, .int va), (2, .int vb), (3, .int vc), (4, .int vd), (5, .int ve)]) hx hb dX8_feed_77 hl (by decide) rfl (fun ls hl => ?_)
                  refine lv_aload_n hx hb dX8_feed_79 rfl (lv_at hl 2 rfl) ?_
                  refine g_get hC V (ci := 8) uwX8 0 rfl rfl 3 (by decide) w_915 rfl rfl dX8_feed_80 ?_
                  refine lv_aload_n hx hb dX8_feed_83 rfl (lv_at hl 2 rfl) ?_
                  refine g_get hC V (ci := 8) uwX8 0 rfl rfl 5 (by decide) w_917 rfl rfl dX8_feed_84 ?_
                  refine lv_iload hx hb dX8_feed_87 (lv_at hl 0 rfl) ?_
                  refine lv_bipush (v := (nI 24)) hx hb dX8_feed_89 (by decide +kernel) ?_
                  refine lv_bipush (v := (nI 8)) hx hb dX8_feed_91 (by decide +kernel) ?_
                  refine lv_iload hx hb dX8_feed_93 (lv_at hl 1 rfl) ?_
                  refine lv_iconst (v := (nI 4)) hx hb dX8_feed_95 (by decide +kernel) ?_
                  refine lv_irem hx hb dX8_feed_96 (by decide +kernel) ?_
                  refine g_vi (y := (nI (k % 4))) (nI_rem (by omega) (by omega)) ?_
                  refine lv_imul hx hb dX8_feed_97 ?_
                  refine g_vi (y := (nI (8 * (k % 4)))) (pk_mul _ _) ?_
                  refine lv_isub hx hb dX8_feed_98 ?_
                  refine g_vi (y := (nI (24 - (8 * (k % 4))))) (nI_sub (by omega)) ?_
                  refine lv_ishr hx hb dX8_feed_99 ?_
                  refine lv_sipush (v := (nI 255)) hx hb dX8_feed_100 (by decide +kernel) ?_
                  refine lv_iand hx hb dX8_feed_103 ?_
                  refine g_iast hC V 1 rfl (vp_in_nI (by omega) (by omega)) (f' := (upd gq tq ((vd >>> ((nI (24 - (8 * (k % 4)))) &&& 31)) &&& (nI 255)))) (by rw [nI_clamp (by omega)]) (ws' := [(o, .inr (8, [.int (nI 0), .ref g1, .ref g2, .ref g3, .ref g4, .int (nI tq), .int w6, .int w7, .int w8, .int w9, .int w10, .int w11, .int w12, .int w13, .int w14, .ref g15, .int w16, .ref g17, .int w18, .int w19, .ref g20, .int w21, .ref g22, .ref g23, .ref g24, .int w25, .int w26, .int w27, .ref g28, .ref g29, .int w30, .ref g31, .ref g32, .ref g33])), (g3, .inl (T 0, 900, .inl (upd gq tq ((vd >>> ((nI (24 - (8 * (k % 4)))) &&& 31)) &&& (nI 255)))))]) rfl dX8_feed_104 (fun H locs V => ?_)
                  refine lv_aload_n hx hb dX8_feed_105 rfl (lv_at hl 2 rfl) ?_
                  refine lv_dup hx hb dX8_feed_106 rfl ?_
                  refine g_get hC V (ci := 8) uwX8 0 rfl rfl 5 (by decide) w_917 rfl rfl dX8_feed_107 ?_
                  refine lv_iconst (v := (nI 1)) hx hb dX8_feed_110 (by decide +kernel) ?_
                  refine lv_iadd hx hb dX8_feed_111 ?_
                  refine g_vi (y := (nI (tq + 1))) (nI_add _ _) ?_
                  refine g_put hC V (ci := 8) uwX8 tyX8 tyX8_ok nmX8 0 rfl rfl 5 (by decide) w_917 rfl rfl rfl rfl (Nat.le_of_ble_eq_true rfl) (ws' := [(o, .inr (8, [.int (nI 0), .ref g1, .ref g2, .ref g3, .ref g4, .int (nI (tq + 1)), .int w6, .int w7, .int w8, .int w9, .int w10, .int w11, .int w12, .int w13, .int w14, .ref g15, .int w16, .ref g17, .int w18, .int w19, .ref g20, .int w21, .ref g22, .ref g23, .ref g24, .int w25, .int w26, .int w27, .ref g28, .ref g29, .int w30, .ref g31, .ref g32, .ref g33])), (g3, .inl (T 0, 900, .inl (upd gq tq ((vd >>> ((nI (24 - (8 * (k % 4)))) &&& 31)) &&& (nI 255)))))]) rfl dX8_feed_112 (fun H locs V => ?_)
                  refine lv_iinc (v := (nI (k + 1))) (lv' := [(6, .int (nI (k + 1))), (7, .int vd), (0, .ref o), (1, .int va), (2, .int vb), (3, .int vc), (4, .int vd), (5, .int ve)]) hx hb dX8_feed_115 hl (k := 1) rfl (nI_1 _) (by decide) rfl (fun ls hl => ?_)
                  refine lv_goto (tgt := 24) hx hb dX8_feed_118 (by decide) ?_
                  exact ih_24 (k + 1) (tq + 1) (upd gq tq ((vd >>> ((nI (24 - (8 * (k % 4)))) &&& 31)) &&& (nI 255))) (by omega) (by omega) (fun i hi => (up_other (by omega)).trans (hg1 i hi)) (by_one htq hg2 (by unfold byF byV shB; first | rw [if_pos (by omega)] | rw [if_neg (by omega), if_pos (by omega)] | rw [if_neg (by omega), if_neg (by omega), if_pos (by omega)] | rw [if_neg (by omega), if_neg (by omega), if_neg (by omega), if_pos (by omega)] | rw [if_neg (by omega), if_neg (by omega), if_neg (by omega), if_neg (by omega)])) (by omega) _ _ _ V (lv_sub hl [0, 2, 3, 4, 5, 6, 7] rfl)
              · skip
                have c_6 := b_nle (by omega) (by omega) c_6
                refine lv_iload_n hx hb dX8_feed_59 rfl (lv_at hl 4 rfl) ?_
                refine lv_goto (tgt := 77) hx hb dX8_feed_60 (by decide) ?_
                refine lv_istore (lv' := [(7, .int vc), (6, .int (nI k)), (0, .ref o), (1, .int va), (2, .int vb), (3, .int vc), (4, .int vd), (5, .int ve)]) hx hb dX8_feed_77 hl (by decide) rfl (fun ls hl => ?_)
                refine lv_aload_n hx hb dX8_feed_79 rfl (lv_at hl 2 rfl) ?_
                refine g_get hC V (ci := 8) uwX8 0 rfl rfl 3 (by decide) w_915 rfl rfl dX8_feed_80 ?_
                refine lv_aload_n hx hb dX8_feed_83 rfl (lv_at hl 2 rfl) ?_
                refine g_get hC V (ci := 8) uwX8 0 rfl rfl 5 (by decide) w_917 rfl rfl dX8_feed_84 ?_
                refine lv_iload hx hb dX8_feed_87 (lv_at hl 0 rfl) ?_
                refine lv_bipush (v := (nI 24)) hx hb dX8_feed_89 (by decide +kernel) ?_
                refine lv_bipush (v := (nI 8)) hx hb dX8_feed_91 (by decide +kernel) ?_
                refine lv_iload hx hb dX8_feed_93 (lv_at hl 1 rfl) ?_
                refine lv_iconst (v := (nI 4)) hx hb dX8_feed_95 (by decide +kernel) ?_
                refine lv_irem hx hb dX8_feed_96 (by decide +kernel) ?_
                refine g_vi (y := (nI (k % 4))) (nI_rem (by omega) (by omega)) ?_
                refine lv_imul hx hb dX8_feed_97 ?_
                refine g_vi (y := (nI (8 * (k % 4)))) (pk_mul _ _) ?_
                refine lv_isub hx hb dX8_feed_98 ?_
                refine g_vi (y := (nI (24 - (8 * (k % 4))))) (nI_sub (by omega)) ?_
                refine lv_ishr hx hb dX8_feed_99 ?_
                refine lv_sipush (v := (nI 255)) hx hb dX8_feed_100 (by decide +kernel) ?_
                refine lv_iand hx hb dX8_feed_103 ?_
                refine g_iast hC V 1 rfl (vp_in_nI (by omega) (by omega)) (f' := (upd gq tq ((vc >>> ((nI (24 - (8 * (k % 4)))) &&& 31)) &&& (nI 255)))) (by rw [nI_clamp (by omega)]) (ws' := [(o, .inr (8, [.int (nI 0), .ref g1, .ref g2, .ref g3, .ref g4, .int (nI tq), .int w6, .int w7, .int w8, .int w9, .int w10, .int w11, .int w12, .int w13, .int w14, .ref g15, .int w16, .ref g17, .int w18, .int w19, .ref g20, .int w21, .ref g22, .ref g23, .ref g24, .int w25, .int w26, .int w27, .ref g28, .ref g29, .int w30, .ref g31, .ref g32, .ref g33])), (g3, .inl (T 0, 900, .inl (upd gq tq ((vc >>> ((nI (24 - (8 * (k % 4)))) &&& 31)) &&& (nI 255)))))]) rfl dX8_feed_104 (fun H locs V => ?_)
                refine lv_aload_n hx hb dX8_feed_105 rfl (lv_at hl 2 rfl) ?_
                refine lv_dup hx hb dX8_feed_106 rfl ?_
                refine g_get hC V (ci := 8) uwX8 0 rfl rfl 5 (by decide) w_917 rfl rfl dX8_feed_107 ?_
                refine lv_iconst (v := (nI 1)) hx hb dX8_feed_110 (by decide +kernel) ?_
                refine lv_iadd hx hb dX8_feed_111 ?_
                refine g_vi (y := (nI (tq + 1))) (nI_add _ _) ?_
                refine g_put hC V (ci := 8) uwX8 tyX8 tyX8_ok nmX8 0 rfl rfl 5 (by decide) w_917 rfl rfl rfl rfl (Nat.le_of_ble_eq_true rfl) (ws' := [(o, .inr (8, [.int (nI 0), .ref g1, .ref g2, .ref g3, .ref g4, .int (nI (tq + 1)), .int w6, .int w7, .int w8, .int w9, .int w10, .int w11, .int w12, .int w13, .int w14, .ref g15, .int w16, .ref g17, .int w18, .int w19, .ref g20, .int w21, .ref g22, .ref g23, .ref g24, .int w25, .int w26, .int w27, .ref g28, .ref g29, .int w30, .ref g31, .ref g32, .ref g33])), (g3, .inl (T 0, 900, .inl (upd gq tq ((vc >>> ((nI (24 - (8 * (k % 4)))) &&& 31)) &&& (nI 255)))))]) rfl dX8_feed_112 (fun H locs V => ?_)
                refine lv_iinc (v := (nI (k + 1))) (lv' := [(6, .int (nI (k + 1))), (7, .int vc), (0, .ref o), (1, .int va), (2, .int vb), (3, .int vc), (4, .int vd), (5, .int ve)]) hx hb dX8_feed_115 hl (k := 1) rfl (nI_1 _) (by decide) rfl (fun ls hl => ?_)
                refine lv_goto (tgt := 24) hx hb dX8_feed_118 (by decide) ?_
                exact ih_24 (k + 1) (tq + 1) (upd gq tq ((vc >>> ((nI (24 - (8 * (k % 4)))) &&& 31)) &&& (nI 255))) (by omega) (by omega) (fun i hi => (up_other (by omega)).trans (hg1 i hi)) (by_one htq hg2 (by unfold byF byV shB; first | rw [if_pos (by omega)] | rw [if_neg (by omega), if_pos (by omega)] | rw [if_neg (by omega), if_neg (by omega), if_pos (by omega)] | rw [if_neg (by omega), if_neg (by omega), if_neg (by omega), if_pos (by omega)] | rw [if_neg (by omega), if_neg (by omega), if_neg (by omega), if_neg (by omega)])) (by omega) _ _ _ V (lv_sub hl [0, 2, 3, 4, 5, 6, 7] rfl)
            · skip
              have c_5 := b_nle (by omega) (by omega) c_5
              refine lv_iload_n hx hb dX8_feed_48 rfl (lv_at hl 3 rfl) ?_
              refine lv_goto (tgt := 77) hx hb dX8_feed_49 (by decide) ?_
              refine lv_istore (lv' := [(7, .int vb), (6, .int (nI k)), (0, .ref o), (1, .int va), (2, .int vb), (3, .int vc), (4, .int vd), (5, .int ve)]) hx hb dX8_feed_77 hl (by decide) rfl (fun ls hl => ?_)
              refine lv_aload_n hx hb dX8_feed_79 rfl (lv_at hl 2 rfl) ?_
              refine g_get hC V (ci := 8) uwX8 0 rfl rfl 3 (by decide) w_915 rfl rfl dX8_feed_80 ?_
              refine lv_aload_n hx hb dX8_feed_83 rfl (lv_at hl 2 rfl) ?_
              refine g_get hC V (ci := 8) uwX8 0 rfl rfl 5 (by decide) w_917 rfl rfl dX8_feed_84 ?_
              refine lv_iload hx hb dX8_feed_87 (lv_at hl 0 rfl) ?_
              refine lv_bipush (v := (nI 24)) hx hb dX8_feed_89 (by decide +kernel) ?_
              refine lv_bipush (v := (nI 8)) hx hb dX8_feed_91 (by decide +kernel) ?_
              refine lv_iload hx hb dX8_feed_93 (lv_at hl 1 rfl) ?_
              refine lv_iconst (v := (nI 4)) hx hb dX8_feed_95 (by decide +kernel) ?_
              refine lv_irem hx hb dX8_feed_96 (by decide +kernel) ?_
              refine g_vi (y := (nI (k % 4))) (nI_rem (by omega) (by omega)) ?_
              refine lv_imul hx hb dX8_feed_97 ?_
              refine g_vi (y := (nI (8 * (k % 4)))) (pk_mul _ _) ?_
              refine lv_isub hx hb dX8_feed_98 ?_
              refine g_vi (y := (nI (24 - (8 * (k % 4))))) (nI_sub (by omega)) ?_
              refine lv_ishr hx hb dX8_feed_99 ?_
              refine lv_sipush (v := (nI 255)) hx hb dX8_feed_100 (by decide +kernel) ?_
              refine lv_iand hx hb dX8_feed_103 ?_
              refine g_iast hC V 1 rfl (vp_in_nI (by omega) (by omega)) (f' := (upd gq tq ((vb >>> ((nI (24 - (8 * (k % 4)))) &&& 31)) &&& (nI 255)))) (by rw [nI_clamp (by omega)]) (ws' := [(o, .inr (8, [.int (nI 0), .ref g1, .ref g2, .ref g3, .ref g4, .int (nI tq), .int w6, .int w7, .int w8, .int w9, .int w10, .int w11, .int w12, .int w13, .int w14, .ref g15, .int w16, .ref g17, .int w18, .int w19, .ref g20, .int w21, .ref g22, .ref g23, .ref g24, .int w25, .int w26, .int w27, .ref g28, .ref g29, .int w30, .ref g31, .ref g32, .ref g33])), (g3, .inl (T 0, 900, .inl (upd gq tq ((vb >>> ((nI (24 - (8 * (k % 4)))) &&& 31)) &&& (nI 255)))))]) rfl dX8_feed_104 (fun H locs V => ?_)
              refine lv_aload_n hx hb dX8_feed_105 rfl (lv_at hl 2 rfl) ?_
              refine lv_dup hx hb dX8_feed_106 rfl ?_
              refine g_get hC V (ci := 8) uwX8 0 rfl rfl 5 (by decide) w_917 rfl rfl dX8_feed_107 ?_
              refine lv_iconst (v := (nI 1)) hx hb dX8_feed_110 (by decide +kernel) ?_
              refine lv_iadd hx hb dX8_feed_111 ?_
              refine g_vi (y := (nI (tq + 1))) (nI_add _ _) ?_
              refine g_put hC V (ci := 8) uwX8 tyX8 tyX8_ok nmX8 0 rfl rfl 5 (by decide) w_917 rfl rfl rfl rfl (Nat.le_of_ble_eq_true rfl) (ws' := [(o, .inr (8, [.int (nI 0), .ref g1, .ref g2, .ref g3, .ref g4, .int (nI (tq + 1)), .int w6, .int w7, .int w8, .int w9, .int w10, .int w11, .int w12, .int w13, .int w14, .ref g15, .int w16, .ref g17, .int w18, .int w19, .ref g20, .int w21, .ref g22, .ref g23, .ref g24, .int w25, .int w26, .int w27, .ref g28, .ref g29, .int w30, .ref g31, .ref g32, .ref g33])), (g3, .inl (T 0, 900, .inl (upd gq tq ((vb >>> ((nI (24 - (8 * (k % 4)))) &&& 31)) &&& (nI 255)))))]) rfl dX8_feed_112 (fun H locs V => ?_)
              refine lv_iinc (v := (nI (k + 1))) (lv' := [(6, .int (nI (k + 1))), (7, .int vb), (0, .ref o), (1, .int va), (2, .int vb), (3, .int vc), (4, .int vd), (5, .int ve)]) hx hb dX8_feed_115 hl (k := 1) rfl (nI_1 _) (by decide) rfl (fun ls hl => ?_)
              refine lv_goto (tgt := 24) hx hb dX8_feed_118 (by decide) ?_
              exact ih_24 (k + 1) (tq + 1) (upd gq tq ((vb >>> ((nI (24 - (8 * (k % 4)))) &&& 31)) &&& (nI 255))) (by omega) (by omega) (fun i hi => (up_other (by omega)).trans (hg1 i hi)) (by_one htq hg2 (by unfold byF byV shB; first | rw [if_pos (by omega)] | rw [if_neg (by omega), if_pos (by omega)] | rw [if_neg (by omega), if_neg (by omega), if_pos (by omega)] | rw [if_neg (by omega), if_neg (by omega), if_neg (by omega), if_pos (by omega)] | rw [if_neg (by omega), if_neg (by omega), if_neg (by omega), if_neg (by omega)])) (by omega) _ _ _ V (lv_sub hl [0, 2, 3, 4, 5, 6, 7] rfl)
          · skip
            have c_4 := b_nle (by omega) (by omega) c_4
            refine lv_iload_n hx hb dX8_feed_37 rfl (lv_at hl 2 rfl) ?_
            refine lv_goto (tgt := 77) hx hb dX8_feed_38 (by decide) ?_
            refine lv_istore (lv' := [(7, .int va), (6, .int (nI k)), (0, .ref o), (1, .int va), (2, .int vb), (3, .int vc), (4, .int vd), (5, .int ve)]) hx hb dX8_feed_77 hl (by decide) rfl (fun ls hl => ?_)
            refine lv_aload_n hx hb dX8_feed_79 rfl (lv_at hl 2 rfl) ?_
            refine g_get hC V (ci := 8) uwX8 0 rfl rfl 3 (by decide) w_915 rfl rfl dX8_feed_80 ?_
            refine lv_aload_n hx hb dX8_feed_83 rfl (lv_at hl 2 rfl) ?_
            refine g_get hC V (ci := 8) uwX8 0 rfl rfl 5 (by decide) w_917 rfl rfl dX8_feed_84 ?_
            refine lv_iload hx hb dX8_feed_87 (lv_at hl 0 rfl) ?_
            refine lv_bipush (v := (nI 24)) hx hb dX8_feed_89 (by decide +kernel) ?_
            refine lv_bipush (v := (nI 8)) hx hb dX8_feed_91 (by decide +kernel) ?_
            refine lv_iload hx hb dX8_feed_93 (lv_at hl 1 rfl) ?_
            refine lv_iconst (v := (nI 4)) hx hb dX8_feed_95 (by decide +kernel) ?_
            refine lv_irem hx hb dX8_feed_96 (by decide +kernel) ?_
            refine g_vi (y := (nI (k % 4))) (nI_rem (by omega) (by omega)) ?_
            refine lv_imul hx hb dX8_feed_97 ?_
            refine g_vi (y := (nI (8 * (k % 4)))) (pk_mul _ _) ?_
            refine lv_isub hx hb dX8_feed_98 ?_
            refine g_vi (y := (nI (24 - (8 * (k % 4))))) (nI_sub (by omega)) ?_
            refine lv_ishr hx hb dX8_feed_99 ?_
            refine lv_sipush (v := (nI 255)) hx hb dX8_feed_100 (by decide +kernel) ?_
            refine lv_iand hx hb dX8_feed_103 ?_
            refine g_iast hC V 1 rfl (vp_in_nI (by omega) (by omega)) (f' := (upd gq tq ((va >>> ((nI (24 - (8 * (k % 4)))) &&& 31)) &&& (nI 255)))) (by rw [nI_clamp (by omega)]) (ws' := [(o, .inr (8, [.int (nI 0), .ref g1, .ref g2, .ref g3, .ref g4, .int (nI tq), .int w6, .int w7, .int w8, .int w9, .int w10, .int w11, .int w12, .int w13, .int w14, .ref g15, .int w16, .ref g17, .int w18, .int w19, .ref g20, .int w21, .ref g22, .ref g23, .ref g24, .int w25, .int w26, .int w27, .ref g28, .ref g29, .int w30, .ref g31, .ref g32, .ref g33])), (g3, .inl (T 0, 900, .inl (upd gq tq ((va >>> ((nI (24 - (8 * (k % 4)))) &&& 31)) &&& (nI 255)))))]) rfl dX8_feed_104 (fun H locs V => ?_)
            refine lv_aload_n hx hb dX8_feed_105 rfl (lv_at hl 2 rfl) ?_
            refine lv_dup hx hb dX8_feed_106 rfl ?_
            refine g_get hC V (ci := 8) uwX8 0 rfl rfl 5 (by decide) w_917 rfl rfl dX8_feed_107 ?_
            refine lv_iconst (v := (nI 1)) hx hb dX8_feed_110 (by decide +kernel) ?_
            refine lv_iadd hx hb dX8_feed_111 ?_
            refine g_vi (y := (nI (tq + 1))) (nI_add _ _) ?_
            refine g_put hC V (ci := 8) uwX8 tyX8 tyX8_ok nmX8 0 rfl rfl 5 (by decide) w_917 rfl rfl rfl rfl (Nat.le_of_ble_eq_true rfl) (ws' := [(o, .inr (8, [.int (nI 0), .ref g1, .ref g2, .ref g3, .ref g4, .int (nI (tq + 1)), .int w6, .int w7, .int w8, .int w9, .int w10, .int w11, .int w12, .int w13, .int w14, .ref g15, .int w16, .ref g17, .int w18, .int w19, .ref g20, .int w21, .ref g22, .ref g23, .ref g24, .int w25, .int w26, .int w27, .ref g28, .ref g29, .int w30, .ref g31, .ref g32, .ref g33])), (g3, .inl (T 0, 900, .inl (upd gq tq ((va >>> ((nI (24 - (8 * (k % 4)))) &&& 31)) &&& (nI 255)))))]) rfl dX8_feed_112 (fun H locs V => ?_)
            refine lv_iinc (v := (nI (k + 1))) (lv' := [(6, .int (nI (k + 1))), (7, .int va), (0, .ref o), (1, .int va), (2, .int vb), (3, .int vc), (4, .int vd), (5, .int ve)]) hx hb dX8_feed_115 hl (k := 1) rfl (nI_1 _) (by decide) rfl (fun ls hl => ?_)
            refine lv_goto (tgt := 24) hx hb dX8_feed_118 (by decide) ?_
            exact ih_24 (k + 1) (tq + 1) (upd gq tq ((va >>> ((nI (24 - (8 * (k % 4)))) &&& 31)) &&& (nI 255))) (by omega) (by omega) (fun i hi => (up_other (by omega)).trans (hg1 i hi)) (by_one htq hg2 (by unfold byF byV shB; first | rw [if_pos (by omega)] | rw [if_neg (by omega), if_pos (by omega)] | rw [if_neg (by omega), if_neg (by omega), if_pos (by omega)] | rw [if_neg (by omega), if_neg (by omega), if_neg (by omega), if_pos (by omega)] | rw [if_neg (by omega), if_neg (by omega), if_neg (by omega), if_neg (by omega)])) (by omega) _ _ _ V (lv_sub hl [0, 2, 3, 4, 5, 6, 7] rfl)
    exact L_2 _ 0 tp ft (by omega) (by omega) (fun _ _ => rfl) (fun i h => absurd h (Nat.not_lt_zero _)) (Nat.lt_succ_self _) _ _ _ V (lv_sub hl [0, 1, 2, 3, 4, 5, 6] rfl)
  · skip
    have c_1 := b_nle (by omega) (by omega) c_1
    refine lv_bipush (v := (-5)) hx hb dX8_feed_18 (by decide +kernel) ?_
    exact g_iret (Qr := (q_m_feed_f T o va vb vc vd ve w0 g1 g2 g3 g4 tp w6 w7 w8 w9 w10 w11 w12 w13 w14 g15 w16 g17 w18 w19 g20 w21 g22 g23 g24 w25 w26 w27 g28 g29 w30 g31 g32 g33 ft)) hC V ⟨(Nat.le_of_ble_eq_true rfl), (Nat.le_of_ble_eq_true rfl)⟩ ⟨(-5), tp, ft, rfl, rfl, (fd_1 (by omega)), (fd_3 (by omega)), (fun _ => rfl), (fun h => absurd (by omega) h)⟩ dX8_feed_20
