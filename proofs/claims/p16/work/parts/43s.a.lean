/-! a MINUTE, over the reference's numbers -/
abbrev bitP (x : Int32) (i : Nat) : Prop := ¬ ((x >>> (nI i &&& 31)) &&& nI 1) = 0
theorem and1_01 (y : Int32) : y &&& nI 1 = 0 ∨ y &&& nI 1 = nI 1 := by
  have h : (y &&& nI 1).toBitVec.toNat = y.toBitVec.toNat % 2 := by
    show (y.toBitVec &&& (nI 1).toBitVec).toNat = _
    rw [BitVec.toNat_and, show (nI 1).toBitVec.toNat = 1 by decide +kernel, Nat.and_one_is_mod]
  rcases Nat.mod_two_eq_zero_or_one y.toBitVec.toNat with e | e
  · refine Or.inl (Int32.toBitVec_inj.mp (BitVec.eq_of_toNat_eq ?_))
    rw [h, e]; decide +kernel
  · refine Or.inr (Int32.toBitVec_inj.mp (BitVec.eq_of_toNat_eq ?_))
    rw [h, e]; decide +kernel
theorem shr_64 {x : Int32} {i : Nat} (hi : i < 13) : x.toInt64 >>> ((nI i).toInt64 &&& 63) = (x >>> (nI i &&& 31)).toInt64 := by
  have e1 : ((((nI i).toInt64 &&& 63).toBitVec).smod 64).toNat = i := by
    have H : ∀ i : Fin 13, ((((nI i.1).toInt64 &&& 63).toBitVec).smod 64).toNat = i.1 := by decide +kernel
    exact H ⟨i, hi⟩
  have e2 : (((nI i &&& 31).toBitVec).smod 32).toNat = i := by
    have H : ∀ i : Fin 13, (((nI i.1 &&& 31).toBitVec).smod 32).toNat = i.1 := by decide +kernel
    exact H ⟨i, hi⟩
  apply Int64.toInt_inj.mp
  rw [Int32.toInt_toInt64]
  show ((x.toInt64.toBitVec).sshiftRight' (((nI i).toInt64 &&& 63).toBitVec.smod 64)).toInt = ((x.toBitVec).sshiftRight' ((nI i &&& 31).toBitVec.smod 32)).toInt
  rw [BitVec.sshiftRight_eq', BitVec.sshiftRight_eq', e1, e2, BitVec.toInt_sshiftRight, BitVec.toInt_sshiftRight]
  have h : x.toInt64.toBitVec.toInt = x.toBitVec.toInt := Int32.toInt_toInt64 x
  rw [h]
theorem bit_m {x : Int32} {i : Nat} (hi : i < 13) : lg_cmp (x.toInt64 >>> ((nI i).toInt64 &&& 63) &&& (nI 1).toInt64) (nI 1).toInt64 = 0 ↔ bitP x i := by
  rw [lg_cmp_eq, shr_64 hi, ← Int32.toInt64_and]
  show ((x >>> (nI i &&& 31)) &&& nI 1).toInt64 = (nI 1).toInt64 ↔ ¬ ((x >>> (nI i &&& 31)) &&& nI 1) = 0
  generalize x >>> (nI i &&& 31) = y
  constructor
  · intro h h0
    rw [h0] at h
    exact absurd h (by decide +kernel)
  · intro h
    rcases and1_01 y with e | e
    · exact absurd e h
    · rw [e]
abbrev warmP (f : Nat → Int32) (i : Nat) : Prop := ¬ f (24 + i) < f (34 + i) ∧ ¬ f (44 + i) < f (24 + i)
/-- the BLASTS of the first k who pull and blow the fire i -/
def bsF (f : Nat → Int32) (pl : Int32) (i : Nat) : Nat → Int32
  | 0 => nI 0
  | k + 1 => bsF f pl i k + (if bitP pl k ∧ f (84 + k) = nI i then f (4 + k) else nI 0)
theorem bs_y {f : Nat → Int32} {pl h0 : Int32} {i k : Nat} (h1 : bitP pl k) (h2 : f (84 + k) = nI i) : h0 + bsF f pl i k + f (4 + k) = h0 + bsF f pl i (k + 1) := by
  show _ = h0 + (bsF f pl i k + (if bitP pl k ∧ f (84 + k) = nI i then f (4 + k) else nI 0))
  rw [if_pos ⟨h1, h2⟩, Int32.add_assoc]
theorem bs_n {f : Nat → Int32} {pl h0 : Int32} {i k : Nat} (h : ¬ (bitP pl k ∧ f (84 + k) = nI i)) : h0 + bsF f pl i k + nI 0 = h0 + bsF f pl i (k + 1) := by
  show _ = h0 + (bsF f pl i k + (if bitP pl k ∧ f (84 + k) = nI i then f (4 + k) else nI 0))
  rw [if_neg h, Int32.add_assoc]
theorem add_n0 (x : Int32) : x = x + nI 0 := (Int32.add_zero x).symm
theorem bsF_ext {f g : Nat → Int32} {pl : Int32} {i n : Nat} (h4 : ∀ k, k < n → g (4 + k) = f (4 + k)) (h84 : ∀ k, k < n → g (84 + k) = f (84 + k)) : ∀ k, k ≤ n → bsF g pl i k = bsF f pl i k
  | 0, _ => rfl
  | k + 1, hk => by
    show bsF g pl i k + (if bitP pl k ∧ g (84 + k) = nI i then g (4 + k) else nI 0) = bsF f pl i k + (if bitP pl k ∧ f (84 + k) = nI i then f (4 + k) else nI 0)
    rw [bsF_ext h4 h84 k (by omega), h4 k (by omega), h84 k (by omega)]
/-- the HEAT behind the MINUTE -/
def hNw (n : Nat) (f : Nat → Int32) (pl fi mr : Int32) (i : Nat) : Int32 := ibf (f (24 + i) + (if nI i = fi then mr else nI 0) - f (14 + i) + bsF f pl i n)
abbrev strP (f : Nat → Int32) (sk : Int32) (i : Nat) : Prop := bitP sk i ∧ f (64 + i) < f (54 + i) ∧ warmP f i
/-- strokes behind the striking, behind the burning -/
def st1 (f : Nat → Int32) (sk : Int32) (i : Nat) : Int32 := if strP f sk i then f (64 + i) + nI 1 else f (64 + i)
abbrev burP (n : Nat) (f : Nat → Int32) (pl sk fi mr : Int32) (i : Nat) : Prop := st1 f sk i < f (54 + i) ∧ ¬ st1 f sk i = 0 ∧ f (44 + i) < hNw n f pl fi mr i
def st2 (n : Nat) (f : Nat → Int32) (pl sk fi mr : Int32) (i : Nat) : Int32 := if burP n f pl sk fi mr i then (if f 2 < st1 f sk i then st1 f sk i - f 2 else nI 0) else st1 f sk i
def bu2 (n : Nat) (f : Nat → Int32) (pl sk fi mr : Int32) (i : Nat) : Int32 := if burP n f pl sk fi mr i then f (74 + i) + nI 1 else f (74 + i)
/-- how many strokes count, how many PIECES are burnt, of the first k -/
def goC (f : Nat → Int32) (sk : Int32) : Nat → Int32
  | 0 => nI 0
  | k + 1 => if strP f sk k then goC f sk k + nI 1 else goC f sk k
def goB (n : Nat) (f : Nat → Int32) (pl sk fi mr : Int32) : Nat → Int32
  | 0 => nI 0
  | k + 1 => if burP n f pl sk fi mr k then goB n f pl sk fi mr k + nI 1 else goB n f pl sk fi mr k
/-- the numbers when the first k have been burnt or not -/
def md (n : Nat) (f : Nat → Int32) (pl sk fi mr : Int32) (k : Nat) : Nat → Int32 := fun j =>
  if 24 ≤ j ∧ j < 24 + k then hNw n f pl fi mr (j - 24)
  else if 64 ≤ j ∧ j < 64 + k then st2 n f pl sk fi mr (j - 64)
  else if 64 ≤ j ∧ j < 64 + n then st1 f sk (j - 64)
  else if 74 ≤ j ∧ j < 74 + k then bu2 n f pl sk fi mr (j - 74)
  else f j
/-- .. and behind the MINUTE -/
def goF (n : Nat) (f : Nat → Int32) (pl sk fi mr : Int32) : Nat → Int32 := upd (md n f pl sk fi mr n) 1 (f 1 + nI 1)
theorem md_0 {n : Nat} {f g : Nat → Int32} {pl sk fi mr : Int32} (hn : n ≤ 10) (h : ∀ j, (j < 64 ∨ 64 + n ≤ j) → g j = f j) (h2 : ∀ i, i < n → g (64 + i) = st1 f sk i) : g = md n f pl sk fi mr 0 := by
  funext j
  unfold md
  rw [if_neg (by omega), if_neg (by omega)]
  by_cases c : 64 ≤ j ∧ j < 64 + n
  · rw [if_pos c]
    have := h2 (j - 64) (by omega)
    rw [show 64 + (j - 64) = j by omega] at this
    exact this
  · rw [if_neg c, if_neg (by omega)]
    exact h j (by omega)
theorem md_at {n k i : Nat} {f : Nat → Int32} {pl sk fi mr : Int32} (hn : n ≤ 10) (hk : k ≤ i) (hi : i < n) : md n f pl sk fi mr k (64 + i) = st1 f sk i ∧ md n f pl sk fi mr k (74 + i) = f (74 + i) ∧ md n f pl sk fi mr k (24 + i) = f (24 + i) := by
  unfold md
  refine ⟨?_, ?_, ?_⟩
  · rw [if_neg (by omega), if_neg (by omega), if_pos (by omega), show 64 + i - 64 = i by omega]
  · rw [if_neg (by omega), if_neg (by omega), if_neg (by omega), if_neg (by omega)]
  · rw [if_neg (by omega), if_neg (by omega), if_neg (by omega), if_neg (by omega)]
theorem md_other {n k j : Nat} {f : Nat → Int32} {pl sk fi mr : Int32} (hn : n ≤ 10) (hk : k ≤ n) (h : j < 24 ∨ (34 ≤ j ∧ j < 64) ∨ 84 ≤ j) : md n f pl sk fi mr k j = f j := by
  unfold md
  rw [if_neg (by omega), if_neg (by omega), if_neg (by omega), if_neg (by omega)]
/-- one more, who isn't burnt; who is -/
theorem md_n {n k : Nat} {f : Nat → Int32} {pl sk fi mr : Int32} (hn : n ≤ 10) (hk : k < n) (h : ¬ burP n f pl sk fi mr k) : upd (md n f pl sk fi mr k) (24 + k) (hNw n f pl fi mr k) = md n f pl sk fi mr (k + 1) := by
  funext j
  by_cases c : j = 24 + k
  · subst c
    rw [up_same]; unfold md
    rw [if_pos (by omega), show 24 + k - 24 = k by omega]
  · rw [up_other c]
    by_cases c2 : j = 64 + k
    · subst c2
      rw [(md_at hn (Nat.le_refl k) hk).1]; unfold md
      rw [if_neg (by omega), if_pos (by omega), show 64 + k - 64 = k by omega]
      unfold st2; rw [if_neg h]
    · by_cases c3 : j = 74 + k
      · subst c3
        rw [(md_at hn (Nat.le_refl k) hk).2.1]; unfold md
        rw [if_neg (by omega), if_neg (by omega), if_neg (by omega), if_pos (by omega), show 74 + k - 74 = k by omega]
        unfold bu2; rw [if_neg h]
      · unfold md
        by_cases q1 : 24 ≤ j ∧ j < 24 + k
        · rw [if_pos q1, if_pos (by omega)]
        · rw [if_neg q1, if_neg (show ¬ (24 ≤ j ∧ j < 24 + (k + 1)) by omega)]
          by_cases q2 : 64 ≤ j ∧ j < 64 + k
          · rw [if_pos q2, if_pos (by omega)]
          · rw [if_neg q2, if_neg (show ¬ (64 ≤ j ∧ j < 64 + (k + 1)) by omega)]
            by_cases q3 : 64 ≤ j ∧ j < 64 + n
            · rw [if_pos q3, if_pos q3]
            · rw [if_neg q3, if_neg q3]
              by_cases q4 : 74 ≤ j ∧ j < 74 + k
              · rw [if_pos q4, if_pos (by omega)]
              · rw [if_neg q4, if_neg (show ¬ (74 ≤ j ∧ j < 74 + (k + 1)) by omega)]
theorem md_y {n k : Nat} {f : Nat → Int32} {pl sk fi mr x : Int32} (hn : n ≤ 10) (hk : k < n) (h : burP n f pl sk fi mr k) (hx : x = if f 2 < st1 f sk k then st1 f sk k - f 2 else nI 0) : upd (upd (upd (md n f pl sk fi mr k) (24 + k) (hNw n f pl fi mr k)) (64 + k) x) (74 + k) (f (74 + k) + nI 1) = md n f pl sk fi mr (k + 1) := by
  funext j
  by_cases c3 : j = 74 + k
  · subst c3
    rw [up_same]; unfold md
    rw [if_neg (by omega), if_neg (by omega), if_neg (by omega), if_pos (by omega), show 74 + k - 74 = k by omega]
    unfold bu2; rw [if_pos h]
  · rw [up_other c3]
    by_cases c2 : j = 64 + k
    · subst c2
      rw [up_same]; unfold md
      rw [if_neg (by omega), if_pos (by omega), show 64 + k - 64 = k by omega]
      unfold st2; rw [if_pos h]; exact hx
    · rw [up_other c2]
      by_cases c : j = 24 + k
      · subst c
        rw [up_same]; unfold md
        rw [if_pos (by omega), show 24 + k - 24 = k by omega]
      · rw [up_other c]
        unfold md
        by_cases q1 : 24 ≤ j ∧ j < 24 + k
        · rw [if_pos q1, if_pos (by omega)]
        · rw [if_neg q1, if_neg (show ¬ (24 ≤ j ∧ j < 24 + (k + 1)) by omega)]
          by_cases q2 : 64 ≤ j ∧ j < 64 + k
          · rw [if_pos q2, if_pos (by omega)]
          · rw [if_neg q2, if_neg (show ¬ (64 ≤ j ∧ j < 64 + (k + 1)) by omega)]
            by_cases q3 : 64 ≤ j ∧ j < 64 + n
            · rw [if_pos q3, if_pos q3]
            · rw [if_neg q3, if_neg q3]
              by_cases q4 : 74 ≤ j ∧ j < 74 + k
              · rw [if_pos q4, if_pos (by omega)]
              · rw [if_neg q4, if_neg (show ¬ (74 ≤ j ∧ j < 74 + (k + 1)) by omega)]
theorem ht_eq {n i k : Nat} {f g : Nat → Int32} {pl fi mr m z : Int32} (hn : n ≤ 10) (hi : i < n) (hk : k ≤ n) (hA : ∀ j, (j < 64 ∨ 64 + k ≤ j) → g j = f j) (e : z = ibf (g (24 + i) + m - g (14 + i) + bsF g pl i n)) (hm : m = if nI i = fi then mr else nI 0) : z = hNw n f pl fi mr i := by
  rw [e, hA (24 + i) (by omega), hA (14 + i) (by omega), bsF_ext (fun k hk => hA (4 + k) (by omega)) (fun k hk => hA (84 + k) (by omega)) n (Nat.le_refl _), hm]
  rfl
theorem gA_y {k : Nat} {f g h : Nat → Int32} {x : Int32} (e : h = upd g (64 + k) x) (hA : ∀ j, (j < 64 ∨ 64 + k ≤ j) → g j = f j) : ∀ j, (j < 64 ∨ 64 + (k + 1) ≤ j) → h j = f j := fun j hj => by
  rw [e, up_other (by omega)]; exact hA j (by omega)
theorem gB_y {k : Nat} {f g h : Nat → Int32} {sk x : Int32} (e : h = upd g (64 + k) x) (hB : ∀ i, i < k → g (64 + i) = st1 f sk i) (hx : x = st1 f sk k) : ∀ i, i < k + 1 → h (64 + i) = st1 f sk i := fun i hi => by
  by_cases c : i = k
  · rw [e, c, up_same]; exact hx
  · rw [e, up_other (by omega)]; exact hB i (by omega)
theorem gB_n {k : Nat} {f g : Nat → Int32} {sk : Int32} (hA : ∀ j, (j < 64 ∨ 64 + k ≤ j) → g j = f j) (hB : ∀ i, i < k → g (64 + i) = st1 f sk i) (h : ¬ strP f sk k) : ∀ i, i < k + 1 → g (64 + i) = st1 f sk i := fun i hi => by
  by_cases c : i = k
  · rw [c, hA _ (by omega)]; unfold st1; rw [if_neg h]
  · exact hB i (by omega)
theorem gC_y {f : Nat → Int32} {sk : Int32} {k : Nat} (h : strP f sk k) : goC f sk k + 1 = goC f sk (k + 1) := (if_pos h).symm
theorem gC_n {f : Nat → Int32} {sk : Int32} {k : Nat} (h : ¬ strP f sk k) : goC f sk k = goC f sk (k + 1) := (if_neg h).symm
theorem bnd_eq (x : Int32) : (if nI 0 < (if x < nI 200 then x else nI 200) then (if x < nI 200 then x else nI 200) else nI 0) = ibf x := by
  have e0 : (nI 0).toInt = 0 := by decide +kernel
  have e2 : (nI 200).toInt = 200 := by decide +kernel
  have e3 : (0 : Int32).toInt = 0 := by decide +kernel
  unfold ibf
  by_cases c : x < nI 200
  · rw [if_pos c]
    by_cases c2 : nI 0 < x
    · rw [if_pos c2]
      rw [Int32.lt_iff_toInt_lt] at c c2
      rw [if_neg (by rw [Int32.lt_iff_toInt_lt]; omega), if_neg (by rw [Int32.lt_iff_toInt_lt]; omega)]
    · rw [if_neg c2]
      by_cases c3 : x < 0
      · rw [if_pos c3]
      · rw [if_neg c3]
        rw [Int32.lt_iff_toInt_lt] at c c2 c3
        rw [if_neg (by rw [Int32.lt_iff_toInt_lt]; omega)]
        exact Int32.toInt_inj.mp (by omega)
  · rw [if_neg c, if_pos (by decide +kernel)]
    rw [Int32.lt_iff_toInt_lt] at c
    rw [if_neg (by rw [Int32.lt_iff_toInt_lt]; omega)]
    by_cases c4 : nI 200 < x
    · rw [if_pos c4]
    · rw [if_neg c4]
      rw [Int32.lt_iff_toInt_lt] at c4
      exact Int32.toInt_inj.mp (by omega)
/-- the changes of the HEATS -/
theorem wc_y {n k j : Nat} {f g c : Nat → Int32} {pl x : Int32} (hn : n ≤ 10) (h : ∀ i, i < n → g i = c i + bsF f pl i k) (hb : bitP pl k) (e : f (84 + k) = nI j) (hj : j < n) (hx : x = f (4 + k)) : ∀ i, i < n → upd g j (g j + x) i = c i + bsF f pl i (k + 1) := by
  intro i hi
  by_cases q : i = j
  · subst q
    rw [up_same, h i hi, hx]; exact bs_y hb e
  · rw [up_other q, h i hi, ← bs_n (fun r => q (b_eq (by omega) (by omega) (r.2.symm.trans e)))]; exact add_n0 _
theorem wc_n {n k : Nat} {f g c : Nat → Int32} {pl : Int32} (h : ∀ i, i < n → g i = c i + bsF f pl i k) (hb : ¬ bitP pl k) : ∀ i, i < n → g i = c i + bsF f pl i (k + 1) := by
  intro i hi
  rw [h i hi, ← bs_n (fun r => hb r.1)]; exact add_n0 _
theorem wc_0 {n : Nat} {f g c : Nat → Int32} {pl : Int32} (h : ∀ i, i < n → g i = c i) : ∀ i, i < n → g i = c i + bsF f pl i 0 := fun i hi => (h i hi).trans (add_n0 _)
theorem sP_eq {n k : Nat} {f g : Nat → Int32} (hn : n ≤ 10) (hk : k < n) (hA : ∀ j, (j < 64 ∨ 64 + k ≤ j) → g j = f j) : g (64 + k) = f (64 + k) ∧ g (54 + k) = f (54 + k) ∧ g (24 + k) = f (24 + k) ∧ g (34 + k) = f (34 + k) ∧ g (44 + k) = f (44 + k) := ⟨hA _ (by omega), hA _ (by omega), hA _ (by omega), hA _ (by omega), hA _ (by omega)⟩
theorem sP_y {n k : Nat} {f g : Nat → Int32} {sk : Int32} (hn : n ≤ 10) (hk : k < n) (hA : ∀ j, (j < 64 ∨ 64 + k ≤ j) → g j = f j) (h1 : bitP sk k) (h2 : g (64 + k) < g (54 + k)) (h3 : warmP g k) : strP f sk k := by
  obtain ⟨a1, a2, a3, a4, a5⟩ := sP_eq hn hk hA
  refine ⟨h1, by rw [← a1, ← a2]; exact h2, ?_⟩
  have : warmP g k = warmP f k := by unfold warmP; rw [a3, a4, a5]
  rw [← this]; exact h3
theorem sP_2 {n k : Nat} {f g : Nat → Int32} {sk : Int32} (hn : n ≤ 10) (hk : k < n) (hA : ∀ j, (j < 64 ∨ 64 + k ≤ j) → g j = f j) (h2 : ¬ g (64 + k) < g (54 + k)) : ¬ strP f sk k := by
  obtain ⟨a1, a2, a3, a4, a5⟩ := sP_eq hn hk hA
  rw [a1, a2] at h2
  exact fun q => h2 q.2.1
theorem sP_3 {n k : Nat} {f g : Nat → Int32} {sk : Int32} (hn : n ≤ 10) (hk : k < n) (hA : ∀ j, (j < 64 ∨ 64 + k ≤ j) → g j = f j) (h3 : ¬ warmP g k) : ¬ strP f sk k := by
  obtain ⟨a1, a2, a3, a4, a5⟩ := sP_eq hn hk hA
  have : warmP g k = warmP f k := by unfold warmP; rw [a3, a4, a5]
  rw [this] at h3
  exact fun q => h3 q.2.2
theorem st1_y {f : Nat → Int32} {sk : Int32} {k j : Nat} (h : strP f sk k) (e : f (64 + k) = nI j) : nI (j + 1) = st1 f sk k := by unfold st1; rw [if_pos h, e, nI_add]
/-- who is burnt, as the second walk sees it -/
theorem md_g {n k : Nat} {f g : Nat → Int32} {pl sk fi mr x : Int32} (hn : n ≤ 10) (hk : k < n) (e : g = upd (md n f pl sk fi mr k) (24 + k) x) : g (64 + k) = st1 f sk k ∧ g (54 + k) = f (54 + k) ∧ g (44 + k) = f (44 + k) ∧ g 2 = f 2 ∧ g (74 + k) = f (74 + k) := by
  have q := md_at (f := f) (pl := pl) (sk := sk) (fi := fi) (mr := mr) hn (Nat.le_refl k) hk
  rw [e]
  refine ⟨by rw [up_other (by omega)]; exact q.1, by rw [up_other (by omega)]; exact md_other hn (by omega) (by omega), by rw [up_other (by omega)]; exact md_other hn (by omega) (by omega), by rw [up_other (by omega)]; exact md_other hn (by omega) (by omega), by rw [up_other (by omega)]; exact q.2.1⟩
theorem bur_y {n k : Nat} {f g : Nat → Int32} {pl sk fi mr x : Int32} (hn : n ≤ 10) (hk : k < n) (e : g = upd (md n f pl sk fi mr k) (24 + k) x) (hx : x = hNw n f pl fi mr k) (h1 : g (64 + k) < g (54 + k)) (h2 : ¬ g (64 + k) = 0) (h3 : g (44 + k) < x) : burP n f pl sk fi mr k := by
  obtain ⟨a1, a2, a3, a4, a5⟩ := md_g hn hk e
  rw [a1, a2] at h1; rw [a1] at h2; rw [a3, hx] at h3
  exact ⟨h1, h2, h3⟩
theorem bur_1 {n k : Nat} {f g : Nat → Int32} {pl sk fi mr x : Int32} (hn : n ≤ 10) (hk : k < n) (e : g = upd (md n f pl sk fi mr k) (24 + k) x) (h1 : ¬ g (64 + k) < g (54 + k)) : ¬ burP n f pl sk fi mr k := by
  obtain ⟨a1, a2, a3, a4, a5⟩ := md_g hn hk e
  rw [a1, a2] at h1; exact fun q => h1 q.1
theorem bur_2 {n k : Nat} {f g : Nat → Int32} {pl sk fi mr x : Int32} (hn : n ≤ 10) (hk : k < n) (e : g = upd (md n f pl sk fi mr k) (24 + k) x) (h2 : g (64 + k) = 0) : ¬ burP n f pl sk fi mr k := by
  obtain ⟨a1, a2, a3, a4, a5⟩ := md_g hn hk e
  rw [a1] at h2; exact fun q => q.2.1 h2
theorem bur_3 {n k : Nat} {f g : Nat → Int32} {pl sk fi mr x : Int32} (hn : n ≤ 10) (hk : k < n) (e : g = upd (md n f pl sk fi mr k) (24 + k) x) (hx : x = hNw n f pl fi mr k) (h3 : ¬ g (44 + k) < x) : ¬ burP n f pl sk fi mr k := by
  obtain ⟨a1, a2, a3, a4, a5⟩ := md_g hn hk e
  rw [a3, hx] at h3; exact fun q => h3 q.2.2
theorem mdn_y {n k : Nat} {f g : Nat → Int32} {pl sk fi mr x : Int32} (hn : n ≤ 10) (hk : k < n) (e : g = upd (md n f pl sk fi mr k) (24 + k) x) (hx : x = hNw n f pl fi mr k) (h : ¬ burP n f pl sk fi mr k) : g = md n f pl sk fi mr (k + 1) := by
  rw [e, hx]; exact md_n hn hk h
theorem md_yy {n k : Nat} {f ga gb gc : Nat → Int32} {pl sk fi mr x v : Int32} (hn : n ≤ 10) (hk : k < n) (e : ga = upd (md n f pl sk fi mr k) (24 + k) x) (hx : x = hNw n f pl fi mr k) (eb : gb = upd ga (64 + k) v) (ec : gc = upd gb (74 + k) (gb (74 + k) + nI 1)) (hv : v = if f 2 < st1 f sk k then st1 f sk k - f 2 else nI 0) (h : burP n f pl sk fi mr k) : gc = md n f pl sk fi mr (k + 1) := by
  have a5 := (md_g hn hk e).2.2.2.2
  have b5 : gb (74 + k) = f (74 + k) := by rw [eb, up_other (by omega)]; exact a5
  rw [ec, b5, eb, e, hx]
  exact md_y hn hk h hv
theorem bv_y {n k jb jc : Nat} {f g : Nat → Int32} {pl sk fi mr x : Int32} (hn : n ≤ 10) (hk : k < n) (e : g = upd (md n f pl sk fi mr k) (24 + k) x) (eb : g (64 + k) = nI jb) (ec : g 2 = nI jc) (hb : jb < 1000) (h : jc < jb) : nI (jb - jc) = if f 2 < st1 f sk k then st1 f sk k - f 2 else nI 0 := by
  obtain ⟨a1, a2, a3, a4, a5⟩ := md_g hn hk e
  rw [← a1, ← a4, eb, ec, if_pos ((nI_ltI (by omega) (by omega)).mpr h), nI_sub (by omega)]
theorem bv_n {n k jb jc : Nat} {f g : Nat → Int32} {pl sk fi mr x : Int32} (hn : n ≤ 10) (hk : k < n) (e : g = upd (md n f pl sk fi mr k) (24 + k) x) (eb : g (64 + k) = nI jb) (ec : g 2 = nI jc) (hc : jc < 1000) (h : jb ≤ jc) : nI 0 = if f 2 < st1 f sk k then st1 f sk k - f 2 else nI 0 := by
  obtain ⟨a1, a2, a3, a4, a5⟩ := md_g hn hk e
  rw [← a1, ← a4, eb, ec, if_neg (fun q => by have := (nI_ltI (by omega) (by omega)).mp q; omega)]
theorem gBB_y {n k : Nat} {f : Nat → Int32} {pl sk fi mr u : Int32} (h : burP n f pl sk fi mr k) : u + goB n f pl sk fi mr k + nI 1 = u + goB n f pl sk fi mr (k + 1) := by
  have e : goB n f pl sk fi mr (k + 1) = goB n f pl sk fi mr k + nI 1 := if_pos h
  rw [e, Int32.add_assoc]
theorem gBB_n {n k : Nat} {f : Nat → Int32} {pl sk fi mr : Int32} (h : ¬ burP n f pl sk fi mr k) : goB n f pl sk fi mr k = goB n f pl sk fi mr (k + 1) := (if_neg h).symm
theorem go_end {n k : Nat} {f g h : Nat → Int32} {pl sk fi mr : Int32} (hn : n ≤ 10) (hM : g = md n f pl sk fi mr k) (hk : k = n) (e : h = upd g 1 (g 1 + nI 1)) : h = goF n f pl sk fi mr := by
  subst hk
  have e1 : g 1 = f 1 := by rw [hM]; exact md_other hn (Nat.le_refl _) (by omega)
  rw [e, e1, hM]; rfl
/-! the class's MINUTE -/
def mx0 (x : Int32) : Int32 := if nI 0 < x then x else nI 0
theorem st1_bd {n k : Nat} {f : Nat → Int32} {sk : Int32} (h : MI n f) (hk : k < n) : bd (st1 f sk k) 33 := by
  obtain ⟨a, ha, ea⟩ := mi_has h hk
  obtain ⟨b, hb, eb⟩ := mi_need h hk
  unfold st1
  split
  · rename_i q
    have q2 := q.2.1
    rw [ea, eb] at q2
    have := b_lt (by omega) (by omega) q2
    rw [ea, nI_add]
    exact bd_nI (by omega)
  · rw [ea]; exact bd_nI (by omega)
theorem mx_eq {x y : Int32} (hx : bd x 33) (hy : bd y 21) : mx0 (x - y) = if y < x then x - y else nI 0 := by
  obtain ⟨a, ha, rfl⟩ := hx
  obtain ⟨b, hb, rfl⟩ := hy
  have H : ∀ (a : Fin 33) (b : Fin 21), mx0 (nI a.1 - nI b.1) = if nI b.1 < nI a.1 then nI a.1 - nI b.1 else nI 0 := by decide +kernel
  exact H ⟨a, ha⟩ ⟨b, hb⟩
theorem nle0 {x : Int32} (hx : bd x 33) : (¬ x ≤ 0) ↔ ¬ x = 0 := by
  obtain ⟨a, ha, rfl⟩ := hx
  have H : ∀ a : Fin 33, (¬ nI a.1 ≤ 0) ↔ ¬ nI a.1 = 0 := by decide +kernel
  exact H ⟨a, ha⟩
theorem ch_eq (a m c b : Int32) : a + (-c + b + m) = a + m - c + b := by
  rw [Int32.sub_eq_add_neg, Int32.add_assoc a m (-c), Int32.add_assoc a (m + -c) b, Int32.add_comm (-c + b) m, Int32.add_assoc m (-c) b]
theorem ch_in {n j : Nat} {f g : Nat → Int32} {pl sf sb : Int32} (hn : n ≤ 10) (e : sf = nI j) (hj : j < n) (h : ∀ i, i < n → g i = -(f (14 + i)) + bsF f pl i n) : ∀ i, i < n → upd g j (g j + sb) i = -(f (14 + i)) + bsF f pl i n + (if nI i = sf then sb else nI 0) := by
  intro i hi
  by_cases q : i = j
  · subst q; rw [up_same, h i hi, if_pos e.symm]
  · rw [up_other q, h i hi, if_neg (fun r => q (b_eq (by omega) (by omega) (r.trans e)))]; exact add_n0 _
theorem ch_out {n : Nat} {f g : Nat → Int32} {pl sf sb : Int32} (hn : n ≤ 10) (e : sf < 0 ∨ nI n ≤ sf) (h : ∀ i, i < n → g i = -(f (14 + i)) + bsF f pl i n) : ∀ i, i < n → g i = -(f (14 + i)) + bsF f pl i n + (if nI i = sf then sb else nI 0) := by
  intro i hi
  rw [h i hi, if_neg (fun r => by
    rw [← r] at e
    rcases e with e | e
    · exact absurd e (nI_pos (by omega))
    · have := b_le (by omega) (by omega) e; omega)]
  exact add_n0 _
theorem hN_c {n i : Nat} {f : Nat → Int32} {pl sf sb x y z : Int32} (hx : x = f (24 + i)) (hy : y = -(f (14 + i)) + bsF f pl i n + (if nI i = sf then sb else nI 0)) (e : z = ibf (x + y)) : z = hNw n f pl sf sb i := by
  rw [e, hx, hy, ch_eq]; rfl
theorem sC_y {k : Nat} {f g7 g6 g3 g4 g5 : Nat → Int32} {sk : Int32} (e7 : g7 k = f (64 + k)) (e6 : g6 k = f (54 + k)) (e3 : g3 k = f (24 + k)) (e4 : g4 k = f (34 + k)) (e5 : g5 k = f (44 + k)) (h1 : bitP sk k) (h2 : g7 k < g6 k) (h3 : ¬ g3 k < g4 k) (h4 : ¬ g5 k < g3 k) : strP f sk k := by
  rw [e7, e6] at h2; rw [e3, e4] at h3; rw [e5, e3] at h4
  exact ⟨h1, h2, h3, h4⟩
theorem sC_n {k : Nat} {f g7 g6 g3 g4 g5 : Nat → Int32} {sk : Int32} (e7 : g7 k = f (64 + k)) (e6 : g6 k = f (54 + k)) (e3 : g3 k = f (24 + k)) (e4 : g4 k = f (34 + k)) (e5 : g5 k = f (44 + k)) (h : ¬ g7 k < g6 k ∨ g3 k < g4 k ∨ g5 k < g3 k) : ¬ strP f sk k := by
  rw [e7, e6, e3, e4, e5] at h
  rintro ⟨-, a, b, c⟩
  rcases h with h | h | h
  · exact h a
  · exact b h
  · exact c h
theorem c7_y {k : Nat} {f g g0 : Nat → Int32} {sk : Int32} (hB : ∀ i, i < k → g i = st1 f sk i) (e : g k = f (64 + k)) (h : strP f sk k) : ∀ i, i < k + 1 → upd g k (g k + nI 1) i = st1 f sk i := by
  intro i hi
  by_cases c : i = k
  · subst c; rw [up_same, e]; unfold st1; rw [if_pos h]
  · rw [up_other c]; exact hB i (by omega)
theorem c7_n {k : Nat} {f g : Nat → Int32} {sk : Int32} (hB : ∀ i, i < k → g i = st1 f sk i) (e : g k = f (64 + k)) (h : ¬ strP f sk k) : ∀ i, i < k + 1 → g i = st1 f sk i := by
  intro i hi
  by_cases c : i = k
  · subst c; rw [e]; unfold st1; rw [if_neg h]
  · exact hB i (by omega)
/-- burnt or not, as the class sees it -/
theorem cb_y {n k : Nat} {f : Nat → Int32} {pl sk sf sb a6 a7 a5 z : Int32} (hM : MI n f) (hk : k < n) (e7 : a7 = st1 f sk k) (e6 : a6 = f (54 + k)) (e5 : a5 = f (44 + k)) (ez : z = hNw n f pl sf sb k) (h1 : a7 < a6) (h2 : ¬ a7 ≤ 0) (h3 : a5 < z) : burP n f pl sk sf sb k := by
  rw [e7, e6] at h1; rw [e7] at h2; rw [e5, ez] at h3
  exact ⟨h1, (nle0 (st1_bd hM hk)).mp h2, h3⟩
theorem cb_n {n k : Nat} {f : Nat → Int32} {pl sk sf sb a6 a7 a5 z : Int32} (hM : MI n f) (hk : k < n) (e7 : a7 = st1 f sk k) (e6 : a6 = f (54 + k)) (e5 : a5 = f (44 + k)) (ez : z = hNw n f pl sf sb k) (h : ¬ (a7 < a6 ∧ ¬ a7 ≤ 0 ∧ a5 < z)) : ¬ burP n f pl sk sf sb k := by
  rw [e7, e6, e5, ez] at h
  exact fun q => h ⟨q.1, (nle0 (st1_bd hM hk)).mpr q.2.1, q.2.2⟩
theorem s2_y {n k : Nat} {f : Nat → Int32} {pl sk sf sb a7 lo : Int32} (hM : MI n f) (hk : k < n) (e7 : a7 = st1 f sk k) (el : lo = f 2) (h : burP n f pl sk sf sb k) : mx0 (a7 - lo) = st2 n f pl sk sf sb k := by
  rw [e7, el, mx_eq (st1_bd hM hk) (mi_lost hM)]
  unfold st2; rw [if_pos h]
theorem s2_n {n k : Nat} {f : Nat → Int32} {pl sk sf sb a7 : Int32} (e7 : a7 = st1 f sk k) (h : ¬ burP n f pl sk sf sb k) : a7 = st2 n f pl sk sf sb k := by
  rw [e7]; unfold st2; rw [if_neg h]
theorem SR_go {n : Nat} {m l o pl sk sf sb : Int32} {f1 f2 f3 f4 f5 f6 f7 f9 g3 g7 fa : Nat → Int32} (hn : n ≤ 10) (h : SR n m l o f1 f2 f3 f4 f5 f6 f7 f9 fa) (h3 : ∀ i, i < n → g3 i = hNw n fa pl sf sb i) (h7 : ∀ i, i < n → g7 i = st2 n fa pl sk sf sb i) : SR n (m + nI 1) l o f1 f2 g3 f4 f5 f6 g7 f9 (goF n fa pl sk sf sb) := by
  obtain ⟨a0, a1, a2, a3, a4⟩ := h
  have eo : ∀ j, j ≠ 1 → (j < 24 ∨ (34 ≤ j ∧ j < 64) ∨ 84 ≤ j) → goF n fa pl sk sf sb j = fa j := fun j h1 h2 => by
    unfold goF; rw [up_other h1]; exact md_other hn (Nat.le_refl _) h2
  refine ⟨(eo 0 (by decide) (by omega)).trans a0, ?_, (eo 2 (by decide) (by omega)).trans a2, (eo 3 (by decide) (by omega)).trans a3, fun i hi => ?_⟩
  · unfold goF; rw [up_same, a1]
  · obtain ⟨q1, q2, q3, q4, q5, q6, q7, q9⟩ := a4 i hi
    refine ⟨q1.trans (eo _ (by omega) (by omega)).symm, q2.trans (eo _ (by omega) (by omega)).symm, ?_, q4.trans (eo _ (by omega) (by omega)).symm, q5.trans (eo _ (by omega) (by omega)).symm, q6.trans (eo _ (by omega) (by omega)).symm, ?_, q9.trans (eo _ (by omega) (by omega)).symm⟩
    · rw [h3 i hi]; unfold goF md; rw [up_other (by omega), if_pos (by omega), show 24 + i - 24 = i by omega]
    · rw [h7 i hi]; unfold goF md; rw [up_other (by omega), if_neg (by omega), if_pos (by omega), show 64 + i - 64 = i by omega]

def q_isIn_f (T : Nat → ClassId) (x : Int32) (i : Nat) : Option Value → va_W → Prop := fun rr ww => (rr = some (.int (nI 1)) ∧ ww = [] ∧ bitP x i) ∨ (rr = some (.int (nI 0)) ∧ ww = [] ∧ ¬ bitP x i)
set_option maxHeartbeats 4000000 in
set_option maxRecDepth 100000 in
theorem c_isIn_f (l : Launch) (D : va_G) (T : Nat → ClassId) (x : Int32) (i : Nat) : Ct l yX7_isIn cX7_isIn 2 (some .boolean) 0 0 0 D T [.int x, .int (nI i)] [] (q_isIn_f T x i) := by
  refine Ct.of (cc := cX7_isIn) (maxL := 2) (ret := (some .boolean)) (by decide) (Nat.le_of_ble_eq_true rfl) ?_
  intro p e s m args below meth c A ls hC hnm V hl
  obtain ⟨hx, hb, hr, hml, hown, hts, hlocks⟩ := id hC
  generalize hH : s.heap = H at V ⊢
  clear hH
  have hl : lv_has ls 2 [(0, .int x), (1, .int (nI i))] := hl
  generalize hlo : ([] : List Loc) = locs at V ⊢
  clear hlo
  refine lv_iload_n hx hb dX7_isIn_0 rfl (lv_at hl 0 rfl) ?_
  refine lv_iload_n hx hb dX7_isIn_1 rfl (lv_at hl 1 rfl) ?_
  refine lv_ishr hx hb dX7_isIn_2 ?_
  refine lv_iconst (v := (nI 1)) hx hb dX7_isIn_3 (by decide +kernel) ?_
  refine lv_iand hx hb dX7_isIn_4 ?_
  refine lv_if_eq (tgt := 12) hx hb dX7_isIn_5 (by decide) (fun c_1 => ?_) (fun c_1 => ?_)
  · skip
    refine lv_iconst (v := (nI 0)) hx hb dX7_isIn_12 (by decide +kernel) ?_
    exact g_zret (Qr := (q_isIn_f T x i)) hC V ⟨(Nat.le_of_ble_eq_true rfl), (Nat.le_of_ble_eq_true rfl)⟩ (by first | decide +kernel | exact rfl) (.inr ⟨rfl, rfl, (fun h => h (by assumption))⟩) dX7_isIn_13
  · skip
    refine lv_iconst (v := (nI 1)) hx hb dX7_isIn_8 (by decide +kernel) ?_
    refine lv_goto (tgt := 13) hx hb dX7_isIn_9 (by decide) ?_
    exact g_zret (Qr := (q_isIn_f T x i)) hC V ⟨(Nat.le_of_ble_eq_true rfl), (Nat.le_of_ble_eq_true rfl)⟩ (by first | decide +kernel | exact rfl) (.inl ⟨rfl, rfl, (by assumption)⟩) dX7_isIn_13

def q_m_isIn_f (T : Nat → ClassId) (x : Int32) (i : Nat) : Option Value → va_W → Prop := fun rr ww => (rr = some (.int (nI 1)) ∧ ww = [] ∧ bitP x i) ∨ (rr = some (.int (nI 0)) ∧ ww = [] ∧ ¬ bitP x i)
set_option maxHeartbeats 4000000 in
set_option maxRecDepth 100000 in
theorem m_isIn_f (l : Launch) (D : va_G) (T : Nat → ClassId) (x : Int32) (i : Nat) (h_i : i < 13) : Ct l yX8_isIn cX8_isIn 3 (some .boolean) 0 0 0 D T [.long x.toInt64, .int (nI i)] [] (q_m_isIn_f T x i) := by
  refine Ct.of (cc := cX8_isIn) (maxL := 3) (ret := (some .boolean)) (by decide) (Nat.le_of_ble_eq_true rfl) ?_
  intro p e s m args below meth c A ls hC hnm V hl
  obtain ⟨hx, hb, hr, hml, hown, hts, hlocks⟩ := id hC
  generalize hH : s.heap = H at V ⊢
  clear hH
  have hl : lv_has ls 3 [(0, .long x.toInt64), (2, .int (nI i))] := hl
  generalize hlo : ([] : List Loc) = locs at V ⊢
  clear hlo
  refine lv_lload_n hx hb dX8_isIn_0 rfl (lv_at hl 0 rfl) ?_
  refine lv_iload_n hx hb dX8_isIn_1 rfl (lv_at hl 1 rfl) ?_
  refine lv_lshr hx hb dX8_isIn_2 rfl ?_
  refine lv_lconst (v := (nI 1).toInt64) hx hb dX8_isIn_3 (by decide +kernel) ?_
  refine lv_land hx hb dX8_isIn_4 ?_
  refine lv_lconst (v := (nI 1).toInt64) hx hb dX8_isIn_5 (by decide +kernel) ?_
  refine W.lcmp hx hb dX8_isIn_6 ?_
  refine lv_if_ne (tgt := 14) hx hb dX8_isIn_7 (by decide) (fun c_1 => ?_) (fun c_1 => ?_)
  · skip
    refine lv_iconst (v := (nI 0)) hx hb dX8_isIn_14 (by decide +kernel) ?_
    exact g_zret (Qr := (q_m_isIn_f T x i)) hC V ⟨(Nat.le_of_ble_eq_true rfl), (Nat.le_of_ble_eq_true rfl)⟩ (by first | decide +kernel | exact rfl) (.inr ⟨rfl, rfl, (fun h => absurd ((bit_m h_i).mpr h) (by assumption))⟩) dX8_isIn_15
  · skip
    refine lv_iconst (v := (nI 1)) hx hb dX8_isIn_10 (by decide +kernel) ?_
    refine lv_goto (tgt := 15) hx hb dX8_isIn_11 (by decide) ?_
    exact g_zret (Qr := (q_m_isIn_f T x i)) hC V ⟨(Nat.le_of_ble_eq_true rfl), (Nat.le_of_ble_eq_true rfl)⟩ (by first | decide +kernel | exact rfl) (.inl ⟨rfl, rfl, ((bit_m h_i).mp (by assumption))⟩) dX8_isIn_15

def q_bounded_f (T : Nat → ClassId) (x : Int32) : Option Value → va_W → Prop := fun rr ww => (∃ (z : Int32), rr = some (.int z) ∧ ww = [] ∧ z = ibf x)
set_option maxHeartbeats 4000000 in
set_option maxRecDepth 100000 in
theorem c_bounded_f (l : Launch) (D : va_G) (T : Nat → ClassId) (x : Int32) : Ct l yX7_bounded cX7_bounded 1 (some .int) 1 0 0 D T [.int x] [] (q_bounded_f T x) := by
  refine Ct.of (cc := cX7_bounded) (maxL := 1) (ret := (some .int)) (by decide) (Nat.le_of_ble_eq_true rfl) ?_
  intro p e s m args below meth c A ls hC hnm V hl
  obtain ⟨hx, hb, hr, hml, hown, hts, hlocks⟩ := id hC
  generalize hH : s.heap = H at V ⊢
  clear hH
  have hl : lv_has ls 1 [(0, .int x)] := hl
  generalize hlo : ([] : List Loc) = locs at V ⊢
  clear hlo
  refine lv_iconst (v := (nI 0)) hx hb dX7_bounded_0 (by decide +kernel) ?_
  refine lv_sipush (v := (nI 200)) hx hb dX7_bounded_1 (by decide +kernel) ?_
  refine lv_iload_n hx hb dX7_bounded_4 rfl (lv_at hl 0 rfl) ?_
  refine va_mmin hx hb (hml.trans hl.1.symm) hown (hts _ w_490) (hts _ w_300) (hts _ w_10) (hts _ w_301) (Nat.le_of_ble_eq_true rfl) (Nat.le_of_ble_eq_true rfl) (Nat.le_of_ble_eq_true rfl) (Nat.le_of_ble_eq_true rfl) dX7_bounded_5 ?_
  refine va_mmax hx hb (hml.trans hl.1.symm) hown (hts _ w_491) (hts _ w_392) (hts _ w_10) (hts _ w_393) (Nat.le_of_ble_eq_true rfl) (Nat.le_of_ble_eq_true rfl) (Nat.le_of_ble_eq_true rfl) (Nat.le_of_ble_eq_true rfl) dX7_bounded_8 ?_
  exact g_iret (Qr := (q_bounded_f T x)) hC V ⟨(Nat.le_of_ble_eq_true rfl), (Nat.le_of_ble_eq_true rfl)⟩ ⟨(if (nI 0) < (if x < (nI 200) then x else (nI 200)) then (if x < (nI 200) then x else (nI 200)) else (nI 0)), rfl, rfl, (bnd_eq x)⟩ dX7_bounded_11

theorem one_more {k : Nat} {g h : Nat → Int32} (H : ∀ i, i < k → g i = h i) (e : g k = h k) : ∀ i, i < k + 1 → g i = h i := by
  intro i hi
  by_cases c : i = k
  · rw [c]; exact e
  · exact H i (by omega)
