theorem sm5_eq {t : Nat → Int32} {sz : Nat} {p p4 : PS} {z4 : Int32} (e4 : p4 = sm4 t sz p) (hz : cF p4 = 0 → z4 = smLo t sz p) : tiS t sz 4 z4 (nI 200) p4 = sm5 t sz p := by
  by_cases c : cF p4 = 0
  · rw [hz c, e4]; rfl
  · rw [ti_ff (by decide) c]
    unfold sm5
    rw [← e4, ti_ff (by decide) c]
theorem sm_cF {t : Nat → Int32} {sz : Nat} {p : PS} (h : cF (sm6 t sz p) = 0) : cF (sm5 t sz p) = 0 ∧ cF (sm4 t sz p) = 0 ∧ cF (sm3 t sz p) = 0 ∧ cF (sm2 t sz p) = 0 ∧ cF (sm1 t sz p) = 0 := by
  have h5 := ti_cF (by decide) h
  have h4 := ti_cF (by decide) h5
  have h3 := ti_cF (by decide) h4
  have h2 := ti_cF (by decide) h3
  have h1 := ti_cF (by decide) h2
  exact ⟨h5, h4, h3, h2, h1⟩
theorem ed_cF {t : Nat → Int32} {sz : Nat} {p : PS} (h : cF (edS t sz p) = 0) : cF p = 0 := by
  by_cases c : p.2.2.2.2.1 = 0 ∧ p.2.2.1 = 10
  · exact cF_0.mpr ⟨c.1, by omega⟩
  · rw [ed_n c] at h; exact absurd h (fa_cF (by decide))
/-- the class's SMITHS so far are the numbers so far -/
def RF (n : Nat) (f b1 b2 b3 b4 b5 b6 b7 b9 : Nat → Int32) (lo li : Int32) : Prop := f 0 = nI n ∧ f 1 = nI 0 ∧ f 2 = lo ∧ f 3 = li ∧ (∀ i, i < n → b1 i = f (4 + i) ∧ b2 i = f (14 + i) ∧ b3 i = f (24 + i) ∧ b4 i = f (34 + i) ∧ b5 i = f (44 + i) ∧ b6 i = f (54 + i) ∧ b7 i = f (64 + i)) ∧ (∀ i, i < 10 → (b9 i = -1 ∧ f (84 + i) = nI 0) ∨ ∃ j, j < n ∧ b9 i = nI j ∧ f (84 + i) = nI (j + 1)) ∧ ∀ i, i < 10 → f (64 + i) = nI 0 ∧ f (74 + i) = nI 0
theorem RF_new {f b1 b2 b3 b4 b5 b6 b7 b9 : Nat → Int32} (h : ∀ i, i < 10 → b9 i = -1) : RF 0 (frI f) b1 b2 b3 b4 b5 b6 b7 b9 (nI 20) (nI 0) := by
  have e : ∀ j, j < 94 → j ≠ 2 → frI f j = nI 0 := fun j h1 h2 => by unfold frI; rw [if_pos h1, if_neg h2]
  refine ⟨e 0 (by decide) (by decide), e 1 (by decide) (by decide), ?_, e 3 (by decide) (by decide), fun i hi => absurd hi (Nat.not_lt_zero _), fun i hi => Or.inl ⟨h i hi, e _ (by omega) (by omega)⟩, fun i hi => ⟨e _ (by omega) (by omega), e _ (by omega) (by omega)⟩⟩
  unfold frI; rw [if_pos (by decide), if_pos rfl]
theorem RF_ln {n : Nat} {f b1 b2 b3 b4 b5 b6 b7 b9 : Nat → Int32} {lo li l2 : Int32} (h : RF n f b1 b2 b3 b4 b5 b6 b7 b9 lo li) (e : l2 = li + nI 1) : RF n (upd f 3 (f 3 + nI 1)) b1 b2 b3 b4 b5 b6 b7 b9 lo l2 := by
  obtain ⟨a0, a1, a2, a3, a4, a5, a6⟩ := h
  refine ⟨by rw [up_other (by decide)]; exact a0, by rw [up_other (by decide)]; exact a1, by rw [up_other (by decide)]; exact a2, by rw [up_same, a3, e], fun i hi => ?_, fun i hi => ?_, fun i hi => ?_⟩
  · rw [up_other (by omega), up_other (by omega), up_other (by omega), up_other (by omega), up_other (by omega), up_other (by omega), up_other (by omega)]; exact a4 i hi
  · rw [up_other (by omega)]; exact a5 i hi
  · rw [up_other (by omega), up_other (by omega)]; exact a6 i hi
theorem RF_bu {n : Nat} {f b1 b2 b3 b4 b5 b6 b7 b9 : Nat → Int32} {lo li x : Int32} (h : RF n f b1 b2 b3 b4 b5 b6 b7 b9 lo li) : RF n (upd f 2 x) b1 b2 b3 b4 b5 b6 b7 b9 x li := by
  obtain ⟨a0, a1, a2, a3, a4, a5, a6⟩ := h
  refine ⟨by rw [up_other (by decide)]; exact a0, by rw [up_other (by decide)]; exact a1, up_same, by rw [up_other (by decide)]; exact a3, fun i hi => ?_, fun i hi => ?_, fun i hi => ?_⟩
  · rw [up_other (by omega), up_other (by omega), up_other (by omega), up_other (by omega), up_other (by omega), up_other (by omega), up_other (by omega)]; exact a4 i hi
  · rw [up_other (by omega)]; exact a5 i hi
  · rw [up_other (by omega), up_other (by omega)]; exact a6 i hi
theorem RF_bl {n a b : Nat} {f b1 b2 b3 b4 b5 b6 b7 b9 : Nat → Int32} {lo li : Int32} (h : RF n f b1 b2 b3 b4 b5 b6 b7 b9 lo li) (hn : n ≤ 10) (ha : a < n) (hb : b < n) : RF n (upd f (84 + a) (nI (b + 1))) b1 b2 b3 b4 b5 b6 b7 (upd b9 a (nI b)) lo li := by
  obtain ⟨a0, a1, a2, a3, a4, a5, a6⟩ := h
  refine ⟨by rw [up_other (by omega)]; exact a0, by rw [up_other (by omega)]; exact a1, by rw [up_other (by omega)]; exact a2, by rw [up_other (by omega)]; exact a3, fun i hi => ?_, fun i hi => ?_, fun i hi => ?_⟩
  · rw [up_other (by omega), up_other (by omega), up_other (by omega), up_other (by omega), up_other (by omega), up_other (by omega), up_other (by omega)]; exact a4 i hi
  · by_cases c : i = a
    · subst c
      rw [up_same, up_same]
      exact Or.inr ⟨b, hb, rfl, rfl⟩
    · rw [up_other c, up_other (by omega)]; exact a5 i hi
  · rw [up_other (by omega), up_other (by omega)]; exact a6 i hi
theorem smU_at {t : Nat → Int32} {sz n : Nat} {p : PS} {f : Nat → Int32} (hn : n < 10) : (smU t sz n p f) 0 = nI (n + 1) ∧ (smU t sz n p f) (4 + n) = smBl t sz p ∧ (smU t sz n p f) (14 + n) = smCo t sz p ∧ (smU t sz n p f) (24 + n) = smHe t sz p ∧ (smU t sz n p f) (34 + n) = smLo t sz p ∧ (smU t sz n p f) (44 + n) = smHi t sz p ∧ (smU t sz n p f) (54 + n) = smPi t sz p ∧
    ∀ j, j ≠ 0 → j ≠ 4 + n → j ≠ 14 + n → j ≠ 24 + n → j ≠ 34 + n → j ≠ 44 + n → j ≠ 54 + n → (smU t sz n p f) j = f j := by
  unfold smU
  refine ⟨up_same, ?_, ?_, ?_, ?_, ?_, ?_, ?_⟩
  · rw [up_other (by omega), up_other (by omega), up_other (by omega), up_other (by omega), up_other (by omega), up_other (by omega), up_same]
  · rw [up_other (by omega), up_other (by omega), up_other (by omega), up_other (by omega), up_other (by omega), up_same]
  · rw [up_other (by omega), up_other (by omega), up_other (by omega), up_other (by omega), up_same]
  · rw [up_other (by omega), up_other (by omega), up_other (by omega), up_same]
  · rw [up_other (by omega), up_other (by omega), up_same]
  · rw [up_other (by omega), up_same]
  · intro j h0 h1 h2 h3 h4 h5 h6
    rw [up_other h0, up_other h6, up_other h5, up_other h4, up_other h3, up_other h2, up_other h1]
theorem RF_sm {t : Nat → Int32} {sz n : Nat} {p : PS} {f b1 b2 b3 b4 b5 b6 b7 b9 : Nat → Int32} {lo li : Int32} (h : RF n f b1 b2 b3 b4 b5 b6 b7 b9 lo li) (hn : n < 10) : RF (n + 1) (smU t sz n p f) (upd b1 n (smBl t sz p)) (upd b2 n (smCo t sz p)) (upd b3 n (smHe t sz p)) (upd b4 n (smLo t sz p)) (upd b5 n (smHi t sz p)) (upd b6 n (smPi t sz p)) (upd b7 n (nI 0)) b9 lo li := by
  obtain ⟨a0, a1, a2, a3, a4, a5, a6⟩ := h
  obtain ⟨u0, u1, u2, u3, u4, u5, u6, u7⟩ := smU_at (t := t) (sz := sz) (p := p) (f := f) hn
  refine ⟨u0, (u7 1 (by omega) (by omega) (by omega) (by omega) (by omega) (by omega) (by omega)).trans a1, (u7 2 (by omega) (by omega) (by omega) (by omega) (by omega) (by omega) (by omega)).trans a2, (u7 3 (by omega) (by omega) (by omega) (by omega) (by omega) (by omega) (by omega)).trans a3, fun i hi => ?_, fun i hi => ?_, fun i hi => ?_⟩
  · by_cases c : i = n
    · subst c
      rw [up_same, up_same, up_same, up_same, up_same, up_same, up_same, u1, u2, u3, u4, u5, u6, u7 (64 + i) (by omega) (by omega) (by omega) (by omega) (by omega) (by omega) (by omega), (a6 i hn).1]
      exact ⟨rfl, rfl, rfl, rfl, rfl, rfl, rfl⟩
    · rw [up_other c, up_other c, up_other c, up_other c, up_other c, up_other c, up_other c]
      rw [u7 (4 + i) (by omega) (by omega) (by omega) (by omega) (by omega) (by omega) (by omega), u7 (14 + i) (by omega) (by omega) (by omega) (by omega) (by omega) (by omega) (by omega), u7 (24 + i) (by omega) (by omega) (by omega) (by omega) (by omega) (by omega) (by omega), u7 (34 + i) (by omega) (by omega) (by omega) (by omega) (by omega) (by omega) (by omega), u7 (44 + i) (by omega) (by omega) (by omega) (by omega) (by omega) (by omega) (by omega), u7 (54 + i) (by omega) (by omega) (by omega) (by omega) (by omega) (by omega) (by omega), u7 (64 + i) (by omega) (by omega) (by omega) (by omega) (by omega) (by omega) (by omega)]
      exact a4 i (by omega)
  · rw [u7 (84 + i) (by omega) (by omega) (by omega) (by omega) (by omega) (by omega) (by omega)]
    exact (a5 i hi).imp id (fun ⟨j, q1, q2⟩ => ⟨j, by omega, q2⟩)
  · rw [u7 (64 + i) (by omega) (by omega) (by omega) (by omega) (by omega) (by omega) (by omega), u7 (74 + i) (by omega) (by omega) (by omega) (by omega) (by omega) (by omega) (by omega)]
    exact a6 i hi
/-- ropes that weren't told -/
def layV (n : Nat) (x : Int32) (i : Nat) : Int32 := if x = -1 then nI (if i + 1 < n then i + 1 else 0) else x
/-- a rope that was told; the street that was read -/
def BlE (t : Nat → Int32) (sz an : Nat) (p p2 : PS) (f9 g : Nat → Int32) : Prop := cF p2 = 0 → ∃ ja jb, ja < an ∧ jb < an ∧ (nxS t sz p).2.2.2.1 = nI ja ∧ (bl1 t sz an (nxS t sz p)).2.2.2.1 = nI jb ∧ g = upd f9 ja (nI jb)
def RsE (s : RLs) (n2 : Nat) (g1 g2 g3 g4 g5 g6 g7 g9 : Nat → Int32) (o3 l3 : Int32) : Prop := cF s.2.1 = 0 → n2 = s.1 ∧ n2 ≤ 10 ∧ ∃ c9, RF s.1 s.2.2 g1 g2 g3 g4 g5 g6 g7 c9 o3 l3 ∧ ∀ i, i < n2 → g9 i = layV n2 (c9 i) i
/-- the class stops reading -/
def cst (s : RLs) : Prop := ¬ cF s.2.1 = 0 ∨ s.2.1.2.2.1 = 11
theorem cst_of {s : RLs} (h : stp s) : cst s := h.imp (fun q r => q (cF_0.mp r).1) id
def FC (t : Nat → Int32) (sz : Nat) (s0 s : RLs) : Prop := ∃ K, s = itS t sz s0 K ∧ cst s ∧ ∀ j, j < K → ¬ cst (itS t sz s0 j)
theorem fc_fn {t : Nat → Int32} {sz : Nat} {s0 s : RLs} (h : FC t sz s0 s) : ∃ s2, FN t sz s0 s2 ∧ cF s.2.1 = s2.2.1.2.2.2.2.1 ∧ cP s.2.1 = stP s2 ∧ (cF s.2.1 = 0 → s2 = s) := by
  obtain ⟨K, e, hc, hj⟩ := h
  have hj2 : ∀ j, j < K → ¬ stp (itS t sz s0 j) := fun j q r => hj j q (cst_of r)
  by_cases hs : stp s
  · refine ⟨s, ⟨K, e, hs, hj2⟩, ?_, ?_, fun _ => rfl⟩
    · unfold cF
      by_cases c : s.2.1.2.2.2.2.1 = 0
      · rw [if_pos c, c]
        rcases hs with q | q
        · exact absurd c q
        · rw [if_neg (by omega)]
      · rw [if_neg c]
    · unfold cP stP
      by_cases c : s.2.1.2.2.2.2.1 = 0
      · rw [if_pos c, if_pos c]
        rcases hs with q | q
        · exact absurd c q
        · rw [if_neg (by omega)]
      · rw [if_neg c, if_neg c]
  · have hw : s.2.1.2.2.2.2.1 = 0 := Classical.byContradiction (fun q => hs (Or.inl q))
    have hk11 : ¬ s.2.1.2.2.1 = 11 := fun q => hs (Or.inr q)
    have hf : ¬ cF s.2.1 = 0 := hc.resolve_right hk11
    have h12 : s.2.1.2.2.1 = 12 := Classical.byContradiction (fun q => hf (cF_0.mpr ⟨hw, q⟩))
    have eA : lnA t sz s = (s.1, faS 2 s.2.1, s.2.2) := ln_no (n := s.1) (p := s.2.1) (f := s.2.2) (by omega) (by omega) (by omega)
    have eF := fa_12 (f := 2) hw h12
    have eS : (lnS t sz s).2.1 = faS 2 s.2.1 := by
      show edS t sz (lnA t sz s).2.1 = _
      rw [eA]
      show edS t sz (faS 2 s.2.1) = _
      rw [ed_n (fun q => fa_w (by decide) q.1), fa_n0 (fa_w (by decide))]
    have e1 : (lnS t sz s).2.1.2.2.2.2.1 = 1 := by rw [eS, eF]
    have e2 : (lnS t sz s).2.1.2.2.2.2.2 = nI s.2.1.1 := by rw [eS, eF]
    refine ⟨lnS t sz s, ⟨K + 1, by rw [e]; rfl, Or.inl (by rw [e1]; decide), fun j q => ?_⟩, ?_, ?_, fun q => absurd q hf⟩
    · by_cases c : j = K
      · rw [c, ← e]; exact hs
      · exact hj2 j (by omega)
    · rw [e1]; unfold cF; rw [if_pos hw, if_pos h12]
    · unfold cP stP; rw [if_pos hw, if_pos h12, if_neg (by rw [e1]; decide), e2]
theorem FN_one {t : Nat → Int32} {sz : Nat} {s0 s s2 : RLs} (h : FN t sz s0 s) (h2 : FN t sz s0 s2) : s = s2 := by
  obtain ⟨K, e, hs, hj⟩ := h
  obtain ⟨K2, e2, hs2, hj2⟩ := h2
  rcases Nat.lt_trichotomy K K2 with q | q | q
  · exact absurd (e ▸ hs) (hj2 K q)
  · rw [e, e2, q]
  · exact absurd (e2 ▸ hs2) (hj K2 q)
theorem lay_1 {n i : Nat} {x : Int32} (h : x = -1) (c : i + 1 < n) : nI (i + 1) = layV n x i := by unfold layV; rw [if_pos h, if_pos c]
theorem lay_2 {n i : Nat} {x : Int32} (h : x = -1) (c : ¬ i + 1 < n) : nI 0 = layV n x i := by unfold layV; rw [if_pos h, if_neg c]
theorem lay_3 {n i : Nat} {x : Int32} (h : ¬ x = -1) : x = layV n x i := by unfold layV; rw [if_neg h]
theorem m1_ne (j : Nat) (hj : j < 100) : ¬ nI j = -1 := by
  have H : ∀ j : Fin 100, ¬ nI j.1 = -1 := by decide +kernel
  exact H ⟨j, hj⟩
theorem lay_st {n i : Nat} {f : Nat → Int32} {x : Int32} (hi : i < n) (hn : n ≤ 10) (h : (x = -1 ∧ f (84 + i) = nI 0) ∨ ∃ j, j < n ∧ x = nI j ∧ f (84 + i) = nI (j + 1)) : layV n x i = stR n f i := by
  rcases h with ⟨h1, h2⟩ | ⟨j, h0, h1, h2⟩
  · rw [← stR_2 (n := n) h2 rfl]
    unfold layV; rw [if_pos h1]
    by_cases c : i + 1 < n
    · rw [if_pos c, Nat.mod_eq_of_lt c]
    · rw [if_neg c, show i + 1 = n by omega, Nat.mod_self]
  · rw [← stR_1 (n := n) h2 (by omega) (by omega), h1]
    unfold layV; rw [if_neg (m1_ne j (by omega))]
    rfl
/-- THE STREET as both have it -/
def SR (n : Nat) (m l o : Int32) (f1 f2 f3 f4 f5 f6 f7 f9 fa : Nat → Int32) : Prop := fa 0 = nI n ∧ fa 1 = m ∧ fa 2 = o ∧ fa 3 = l ∧ ∀ i, i < n → f1 i = fa (4 + i) ∧ f2 i = fa (14 + i) ∧ f3 i = fa (24 + i) ∧ f4 i = fa (34 + i) ∧ f5 i = fa (44 + i) ∧ f6 i = fa (54 + i) ∧ f7 i = fa (64 + i) ∧ f9 i = fa (84 + i)
theorem SR_st {s : RLs} {b1 b2 b3 b4 b5 b6 b7 b9 g9 fa : Nat → Int32} {lo li : Int32} (h : RF s.1 s.2.2 b1 b2 b3 b4 b5 b6 b7 b9 lo li) (hn : s.1 ≤ 10) (hw : s.2.1.2.2.2.2.1 = 0) (hg : ∀ i, i < s.1 → g9 i = layV s.1 (b9 i) i) : SR s.1 (nI 0) li lo b1 b2 b3 b4 b5 b6 b7 g9 (stG fa s) := by
  obtain ⟨a0, a1, a2, a3, a4, a5, a6⟩ := h
  have e : ∀ j, j < 84 → stG fa s j = s.2.2 j := fun j hj => by unfold stG; rw [if_pos ⟨hw, by omega⟩, if_neg (by omega)]
  refine ⟨(e 0 (by decide)).trans a0, (e 1 (by decide)).trans a1, (e 2 (by decide)).trans a2, (e 3 (by decide)).trans a3, fun i hi => ?_⟩
  obtain ⟨q1, q2, q3, q4, q5, q6, q7⟩ := a4 i hi
  refine ⟨q1.trans (e _ (by omega)).symm, q2.trans (e _ (by omega)).symm, q3.trans (e _ (by omega)).symm, q4.trans (e _ (by omega)).symm, q5.trans (e _ (by omega)).symm, q6.trans (e _ (by omega)).symm, q7.trans (e _ (by omega)).symm, ?_⟩
  rw [hg i hi, lay_st hi hn (a5 i (by omega))]
  unfold stG
  rw [if_pos ⟨hw, by omega⟩, if_pos (by omega), show 84 + i - 84 = i by omega]
theorem SR_cp {n : Nat} {m l o : Int32} {f1 f2 f3 f4 f5 f6 f7 f9 g1 g2 g3 g4 g5 g6 g7 g9 fa : Nat → Int32} (h : SR n m l o f1 f2 f3 f4 f5 f6 f7 f9 fa) (e1 : ∀ i, i < n → g1 i = f1 i) (e2 : ∀ i, i < n → g2 i = f2 i) (e3 : ∀ i, i < n → g3 i = f3 i) (e4 : ∀ i, i < n → g4 i = f4 i) (e5 : ∀ i, i < n → g5 i = f5 i) (e6 : ∀ i, i < n → g6 i = f6 i) (e7 : ∀ i, i < n → g7 i = f7 i) (e9 : ∀ i, i < n → g9 i = f9 i) : SR n m l o g1 g2 g3 g4 g5 g6 g7 g9 fa := by
  obtain ⟨a0, a1, a2, a3, a4⟩ := h
  refine ⟨a0, a1, a2, a3, fun i hi => ?_⟩
  rw [e1 i hi, e2 i hi, e3 i hi, e4 i hi, e5 i hi, e6 i hi, e7 i hi, e9 i hi]
  exact a4 i hi

theorem no_cst {t : Nat → Int32} {sz K n : Nat} {s0 : RLs} {p : PS} {f : Nat → Int32} (e : (n, p, f) = itS t sz s0 K) (h1 : cF p = 0) (h2 : ¬ p.2.2.1 = 11) (hj : ∀ j, j < K → ¬ cst (itS t sz s0 j)) : ∀ j, j < K + 1 → ¬ cst (itS t sz s0 j) := by
  intro j hjk
  by_cases c : j = K
  · rw [c, ← e]; exact fun q => q.elim (fun r => r h1) h2
  · exact hj j (by omega)
theorem cst_long {t : Nat → Int32} {sz K n n0 : Nat} {p p0 : PS} {f f0 : Nat → Int32} (_ : True) (hP0 : PI t sz p0) (e : (n, p, f) = itS t sz (n0, p0, f0) K) (hj : ∀ j, j < K → ¬ cst (itS t sz (n0, p0, f0) j)) (hK : sz < K) (hP : PI t sz p) : cst (n, p, f) := by
  have q := it_mv (s := (n0, p0, f0)) hP0 K (fun j h r => hj j h (cst_of r))
  rw [← e] at q
  rcases q with q | q
  · exact cst_of q
  · exfalso
    have h1 : p.2.1 ≤ sz := hP.2.1
    have h2 : p0.2.1 + K ≤ p.2.1 := q
    omega

theorem lv_s {n k : Nat} {f g : Nat → Int32} (h : ∀ i, i < k → g i = layV n (f i) i) (e : g k = f k) (c : ¬ g k = -1) : ∀ i, i < k + 1 → g i = layV n (f i) i := by
  intro i hi
  by_cases q : i = k
  · subst q; rw [← e]; exact lay_3 c
  · exact h i (by omega)
theorem lv_p {n k : Nat} {f g : Nat → Int32} {x : Int32} (h : ∀ i, i < k → g i = layV n (f i) i) (e : x = layV n (f k) k) : ∀ i, i < k + 1 → upd g k x i = layV n (f i) i := by
  intro i hi
  by_cases q : i = k
  · subst q; rw [up_same]; exact e
  · rw [up_other q]; exact h i (by omega)

def q_f_readSmith (T : Nat → ClassId) (ft : Nat → Int32) (ps : PS) (t0 : Nat) (a0 : Nat) (tf : Int32) (t1 : Nat) (sz : Nat) (tx : Nat → Int32) (an : Nat) (am : Int32) (al : Int32) (ao : Int32) (au : Int32) (a1 : Nat) (a2 : Nat) (a3 : Nat) (a4 : Nat) (a5 : Nat) (a6 : Nat) (a7 : Nat) (a8 : Nat) (a9 : Nat) (a10 : Nat) (af1 : Nat → Int32) (af2 : Nat → Int32) (af3 : Nat → Int32) (af4 : Nat → Int32) (af5 : Nat → Int32) (af6 : Nat → Int32) (af7 : Nat → Int32) (af8 : Nat → Int32) : Option Value → va_W → Prop := fun rr ww => (∃ (p2 : PS) (n2 : Nat) (g1 : Nat → Int32) (g2 : Nat → Int32) (g3 : Nat → Int32) (g4 : Nat → Int32) (g5 : Nat → Int32) (g6 : Nat → Int32) (g7 : Nat → Int32) (g8 : Nat → Int32), rr = none ∧ ww = [(t0, .inr (2, [.int tf, .int (nI (cF p2)), .int (cP p2), .ref t1, .int (nI sz), .int (nI (cK p2.2.2.1)), .int (nI p2.1), .int (nI p2.2.1)])), (t1, .inl (T 3, 900, .inl tx)), (a0, .inr (5, [.int (nI n2), .int am, .int al, .int ao, .int au, .ref a1, .ref a2, .ref a3, .ref a4, .ref a5, .ref a6, .ref a7, .ref a8, .ref a9, .ref a10])), (a1, .inl (T 0, 10, .inl g1)), (a2, .inl (T 0, 10, .inl g2)), (a3, .inl (T 0, 10, .inl g3)), (a4, .inl (T 0, 10, .inl g4)), (a5, .inl (T 0, 10, .inl g5)), (a6, .inl (T 0, 10, .inl g6)), (a7, .inl (T 0, 10, .inl g7)), (a8, .inl (T 0, 10, .inl g8))] ∧ p2 = smS ft sz an ps ∧ an ≤ n2 ∧ n2 ≤ 10 ∧ (cF p2 = 0 → an < 10) ∧ (cF p2 = 0 → n2 = an + 1) ∧ (cF p2 = 0 → g1 = upd af1 an (smBl ft sz ps)) ∧ (cF p2 = 0 → g2 = upd af2 an (smCo ft sz ps)) ∧ (cF p2 = 0 → g3 = upd af3 an (smHe ft sz ps)) ∧ (cF p2 = 0 → g4 = upd af4 an (smLo ft sz ps)) ∧ (cF p2 = 0 → g5 = upd af5 an (smHi ft sz ps)) ∧ (cF p2 = 0 → g6 = upd af6 an (smPi ft sz ps)) ∧ (cF p2 = 0 → g7 = upd af7 an (nI 0)) ∧ (cF p2 = 0 → g8 = upd af8 an (nI 0)))
set_option maxHeartbeats 4000000 in
set_option maxRecDepth 100000 in
theorem f_readSmith (l : Launch) (D : va_G) (T : Nat → ClassId) (ft : Nat → Int32) (ps : PS) (t0 : Nat) (a0 : Nat) (tf : Int32) (t1 : Nat) (sz : Nat) (tx : Nat → Int32) (an : Nat) (am : Int32) (al : Int32) (ao : Int32) (au : Int32) (a1 : Nat) (a2 : Nat) (a3 : Nat) (a4 : Nat) (a5 : Nat) (a6 : Nat) (a7 : Nat) (a8 : Nat) (a9 : Nat) (a10 : Nat) (af1 : Nat → Int32) (af2 : Nat → Int32) (af3 : Nat → Int32) (af4 : Nat → Int32) (af5 : Nat → Int32) (af6 : Nat → Int32) (af7 : Nat → Int32) (af8 : Nat → Int32) (h_sz : sz ≤ 900) (h_tx : TXT sz tx ft) (h_p : PI ft sz ps) (h_0 : cF ps = 0) (h_n : an ≤ 10) : Ct l yX2_readSmith cX2_readSmith 3 none 6 0 0 D T [.ref t0, .ref a0] [(t0, .inr (2, [.int tf, .int (nI (cF ps)), .int (cP ps), .ref t1, .int (nI sz), .int (nI (cK ps.2.2.1)), .int (nI ps.1), .int (nI ps.2.1)])), (t1, .inl (T 3, 900, .inl tx)), (a0, .inr (5, [.int (nI an), .int am, .int al, .int ao, .int au, .ref a1, .ref a2, .ref a3, .ref a4, .ref a5, .ref a6, .ref a7, .ref a8, .ref a9, .ref a10])), (a1, .inl (T 0, 10, .inl af1)), (a2, .inl (T 0, 10, .inl af2)), (a3, .inl (T 0, 10, .inl af3)), (a4, .inl (T 0, 10, .inl af4)), (a5, .inl (T 0, 10, .inl af5)), (a6, .inl (T 0, 10, .inl af6)), (a7, .inl (T 0, 10, .inl af7)), (a8, .inl (T 0, 10, .inl af8))] (q_f_readSmith T ft ps t0 a0 tf t1 sz tx an am al ao au a1 a2 a3 a4 a5 a6 a7 a8 a9 a10 af1 af2 af3 af4 af5 af6 af7 af8) := by
  refine Ct.of (cc := cX2_readSmith) (maxL := 3) (ret := none) (by decide) (Nat.le_of_ble_eq_true rfl) ?_
  intro p e s m args below meth c A ls hC hnm V hl
  obtain ⟨hx, hb, hr, hml, hown, hts, hlocks⟩ := id hC
  generalize hH : s.heap = H at V ⊢
  clear hH
  have hl : lv_has ls 3 [(0, .ref t0), (1, .ref a0)] := hl
  generalize hlo : ([] : List Loc) = locs at V ⊢
  clear hlo
  obtain ⟨_, _, _, _, -⟩ := id h_p
  have hcF := cF_le (p := ps) (by omega)
  have hcK := cK_le ps.2.2.1
  refine lv_aload_n hx hb dX2_readSmith_0 rfl (lv_at hl 1 rfl) ?_
  refine g_get hC V (ci := 5) uwX5 2 rfl rfl 0 (by decide) w_36 rfl rfl dX2_readSmith_1 ?_
  refine lv_istore_n (lv' := [(2, .int (nI an)), (0, .ref t0), (1, .ref a0)]) hx hb dX2_readSmith_4 rfl hl (by decide) rfl (fun ls hl => ?_)
  refine lv_iload_n hx hb dX2_readSmith_5 rfl (lv_at hl 0 rfl) ?_
  refine lv_bipush (v := (nI 10)) hx hb dX2_readSmith_6 (by decide +kernel) ?_
  refine lv_icmp_lt (tgt := 17) hx hb dX2_readSmith_8 (by decide) (fun c_1 => ?_) (fun c_1 => ?_)
  · skip
    have c_1 := b_lt (by omega) (by omega) c_1
    refine lv_aload_n hx hb dX2_readSmith_17 rfl (lv_at hl 1 rfl) ?_
    refine g_callVU (nA := 0) hC V hl.1 (f_nextToken l D T ft ps.2.2.2.1 ps.2.2.2.2.2 t0 tf (cF ps) (cP ps) t1 sz (nI (cK ps.2.2.1)) (nI ps.1) ps.2.1 tx (by first | assumption | omega) (by first | assumption | omega) (by omega) (by omega) (cP_0 (by omega))) w_309 w_311 w_s0 w_4 w_312 (by decide +kernel) rfl ⟨(Nat.le_of_ble_eq_true rfl), (Nat.le_of_ble_eq_true rfl)⟩ 0 (ci := 2) rfl rfl [0, 1] rfl rfl (Nat.le_of_ble_eq_true rfl) dX2_readSmith_18 ⟨(Nat.le_of_ble_eq_true rfl), (Nat.le_of_ble_eq_true rfl)⟩ rfl (fun r w1 H locs hQ V => ?_)
    obtain ⟨p2_2, rfl, rfl, f_3⟩ := hQ
    have V : gW D T A s [(t0, .inr (2, [.int tf, .int (nI (cF p2_2)), .int (cP p2_2), .ref t1, .int (nI sz), .int (nI (cK p2_2.2.2.1)), .int (nI p2_2.1), .int (nI p2_2.2.1)])), (t1, .inl (T 3, 900, .inl tx)), (a0, .inr (5, [.int (nI an), .int am, .int al, .int ao, .int au, .ref a1, .ref a2, .ref a3, .ref a4, .ref a5, .ref a6, .ref a7, .ref a8, .ref a9, .ref a10])), (a1, .inl (T 0, 10, .inl af1)), (a2, .inl (T 0, 10, .inl af2)), (a3, .inl (T 0, 10, .inl af3)), (a4, .inl (T 0, 10, .inl af4)), (a5, .inl (T 0, 10, .inl af5)), (a6, .inl (T 0, 10, .inl af6)), (a7, .inl (T 0, 10, .inl af7)), (a8, .inl (T 0, 10, .inl af8))] H locs := V _ [0, 0] rfl rfl rfl (by decide +kernel) rfl
    show W p l e _ s m args below meth c H locs _ _ _ (F0 m 21 ls [])
    have e0 : p2_2 = nxS ft sz ps := f_3.trans (nx_c0 (by omega))
    have hq0 : PI ft sz p2_2 := by rw [e0]; exact PI_nxI h_p
    obtain ⟨_, _, _, _, -⟩ := id hq0
    refine lv_aload_n hx hb dX2_readSmith_21 rfl (lv_at hl 2 rfl) ?_
    refine g_get hC V (ci := 5) uwX5 2 rfl rfl 5 (by decide) w_53 rfl rfl dX2_readSmith_22 ?_
    refine lv_iload_n hx hb dX2_readSmith_25 rfl (lv_at hl 0 rfl) ?_
    refine lv_aload_n hx hb dX2_readSmith_26 rfl (lv_at hl 1 rfl) ?_
    refine lv_iconst (v := (nI 0)) hx hb dX2_readSmith_27 (by decide +kernel) ?_
    refine lv_bipush (v := (nI 60)) hx hb dX2_readSmith_28 (by decide +kernel) ?_
    refine g_callVU (nA := 2) hC V hl.1 (f_takeNumber l D T ft p2_2 t0 (nI 0) (nI 60) tf t1 sz tx (by first | assumption | omega) (by first | assumption | omega) (by first | assumption | omega)) w_378 w_380 w_s5 w_4 w_381 (by decide +kernel) rfl ⟨(Nat.le_of_ble_eq_true rfl), (Nat.le_of_ble_eq_true rfl)⟩ 0 (ci := 2) rfl rfl [0, 1] rfl rfl (Nat.le_of_ble_eq_true rfl) dX2_readSmith_30 ⟨(Nat.le_of_ble_eq_true rfl), (Nat.le_of_ble_eq_true rfl)⟩ rfl (fun r w1 H locs hQ V => ?_)
    obtain ⟨z1, p1, rfl, rfl, f_4, f_5⟩ := hQ
    have V : gW D T A s [(t0, .inr (2, [.int tf, .int (nI (cF p1)), .int (cP p1), .ref t1, .int (nI sz), .int (nI (cK p1.2.2.1)), .int (nI p1.1), .int (nI p1.2.1)])), (t1, .inl (T 3, 900, .inl tx)), (a0, .inr (5, [.int (nI an), .int am, .int al, .int ao, .int au, .ref a1, .ref a2, .ref a3, .ref a4, .ref a5, .ref a6, .ref a7, .ref a8, .ref a9, .ref a10])), (a1, .inl (T 0, 10, .inl af1)), (a2, .inl (T 0, 10, .inl af2)), (a3, .inl (T 0, 10, .inl af3)), (a4, .inl (T 0, 10, .inl af4)), (a5, .inl (T 0, 10, .inl af5)), (a6, .inl (T 0, 10, .inl af6)), (a7, .inl (T 0, 10, .inl af7)), (a8, .inl (T 0, 10, .inl af8))] H locs := V _ [0, 0] rfl rfl rfl (by decide +kernel) rfl
    show W p l e _ s m args below meth c H locs _ _ _ (F0 m 33 ls [.int z1, .int (nI an), .ref a1])
    have v1 : cF p1 = 0 → z1 = smBl ft sz ps := fun h => by rw [f_5 h, e0]; rfl
    have e1 : p1 = sm1 ft sz ps := by rw [f_4, e0]; rfl
    have hq1 : PI ft sz p1 := by rw [f_4]; exact PI_tk hq0
    obtain ⟨_, _, _, _, -⟩ := id hq1
    have hcc1 := cF_le (p := p1) (by omega)
    refine g_iast hC V 3 rfl (vp_in_nI (by omega) (by omega)) (f' := (upd af1 an z1)) (by rw [nI_clamp (by omega)]) (ws' := [(t0, .inr (2, [.int tf, .int (nI (cF p1)), .int (cP p1), .ref t1, .int (nI sz), .int (nI (cK p1.2.2.1)), .int (nI p1.1), .int (nI p1.2.1)])), (t1, .inl (T 3, 900, .inl tx)), (a0, .inr (5, [.int (nI an), .int am, .int al, .int ao, .int au, .ref a1, .ref a2, .ref a3, .ref a4, .ref a5, .ref a6, .ref a7, .ref a8, .ref a9, .ref a10])), (a1, .inl (T 0, 10, .inl (upd af1 an z1))), (a2, .inl (T 0, 10, .inl af2)), (a3, .inl (T 0, 10, .inl af3)), (a4, .inl (T 0, 10, .inl af4)), (a5, .inl (T 0, 10, .inl af5)), (a6, .inl (T 0, 10, .inl af6)), (a7, .inl (T 0, 10, .inl af7)), (a8, .inl (T 0, 10, .inl af8))]) rfl dX2_readSmith_33 (fun H locs V => ?_)
    refine lv_aload_n hx hb dX2_readSmith_34 rfl (lv_at hl 2 rfl) ?_
    refine g_get hC V (ci := 5) uwX5 2 rfl rfl 6 (by decide) w_59 rfl rfl dX2_readSmith_35 ?_
    refine lv_iload_n hx hb dX2_readSmith_38 rfl (lv_at hl 0 rfl) ?_
    refine lv_aload_n hx hb dX2_readSmith_39 rfl (lv_at hl 1 rfl) ?_
    refine g_ldcS hC V 1 rfl dX2_readSmith_40 ?_
    refine lv_iconst (v := (nI 0)) hx hb dX2_readSmith_42 (by decide +kernel) ?_
    refine lv_bipush (v := (nI 30)) hx hb dX2_readSmith_43 (by decide +kernel) ?_
    refine lv_iconst (v := (nI 5)) hx hb dX2_readSmith_45 (by decide +kernel) ?_
    refine g_callVU (nA := 4) hC V hl.1 (f_takeOption l D T 1 ft p1 t0 (nI 0) (nI 30) (nI 5) tf t1 sz tx (by first | assumption | omega) (by first | assumption | omega) (by first | assumption | omega) (by first | assumption | omega)) w_384 w_386 w_s6 w_4 w_387 (by decide +kernel) rfl ⟨(Nat.le_of_ble_eq_true rfl), (Nat.le_of_ble_eq_true rfl)⟩ 0 (ci := 2) rfl rfl [0, 1] rfl rfl (Nat.le_of_ble_eq_true rfl) dX2_readSmith_46 ⟨(Nat.le_of_ble_eq_true rfl), (Nat.le_of_ble_eq_true rfl)⟩ rfl (fun r w1 H locs hQ V => ?_)
    obtain ⟨z2, p2_, rfl, rfl, f_6, f_7⟩ := hQ
    have V : gW D T A s [(t0, .inr (2, [.int tf, .int (nI (cF p2_)), .int (cP p2_), .ref t1, .int (nI sz), .int (nI (cK p2_.2.2.1)), .int (nI p2_.1), .int (nI p2_.2.1)])), (t1, .inl (T 3, 900, .inl tx)), (a0, .inr (5, [.int (nI an), .int am, .int al, .int ao, .int au, .ref a1, .ref a2, .ref a3, .ref a4, .ref a5, .ref a6, .ref a7, .ref a8, .ref a9, .ref a10])), (a1, .inl (T 0, 10, .inl (upd af1 an z1))), (a2, .inl (T 0, 10, .inl af2)), (a3, .inl (T 0, 10, .inl af3)), (a4, .inl (T 0, 10, .inl af4)), (a5, .inl (T 0, 10, .inl af5)), (a6, .inl (T 0, 10, .inl af6)), (a7, .inl (T 0, 10, .inl af7)), (a8, .inl (T 0, 10, .inl af8))] H locs := V _ [0, 0] rfl rfl rfl (by decide +kernel) rfl
    show W p l e _ s m args below meth c H locs _ _ _ (F0 m 49 ls [.int z2, .int (nI an), .ref a2])
    have v2 : cF p2_ = 0 → z2 = smCo ft sz ps := fun h => by rw [f_7 h, e1]; rfl
    have e2 : p2_ = sm2 ft sz ps := by rw [f_6, e1]; rfl
    have hq2 : PI ft sz p2_ := by rw [f_6]; exact PI_ti hq1
    obtain ⟨_, _, _, _, -⟩ := id hq2
    have hcc2 := cF_le (p := p2_) (by omega)
    refine g_iast hC V 4 rfl (vp_in_nI (by omega) (by omega)) (f' := (upd af2 an z2)) (by rw [nI_clamp (by omega)]) (ws' := [(t0, .inr (2, [.int tf, .int (nI (cF p2_)), .int (cP p2_), .ref t1, .int (nI sz), .int (nI (cK p2_.2.2.1)), .int (nI p2_.1), .int (nI p2_.2.1)])), (t1, .inl (T 3, 900, .inl tx)), (a0, .inr (5, [.int (nI an), .int am, .int al, .int ao, .int au, .ref a1, .ref a2, .ref a3, .ref a4, .ref a5, .ref a6, .ref a7, .ref a8, .ref a9, .ref a10])), (a1, .inl (T 0, 10, .inl (upd af1 an z1))), (a2, .inl (T 0, 10, .inl (upd af2 an z2))), (a3, .inl (T 0, 10, .inl af3)), (a4, .inl (T 0, 10, .inl af4)), (a5, .inl (T 0, 10, .inl af5)), (a6, .inl (T 0, 10, .inl af6)), (a7, .inl (T 0, 10, .inl af7)), (a8, .inl (T 0, 10, .inl af8))]) rfl dX2_readSmith_49 (fun H locs V => ?_)
    refine lv_aload_n hx hb dX2_readSmith_50 rfl (lv_at hl 2 rfl) ?_
    refine g_get hC V (ci := 5) uwX5 2 rfl rfl 7 (by decide) w_64 rfl rfl dX2_readSmith_51 ?_
    refine lv_iload_n hx hb dX2_readSmith_54 rfl (lv_at hl 0 rfl) ?_
    refine lv_aload_n hx hb dX2_readSmith_55 rfl (lv_at hl 1 rfl) ?_
    refine g_ldcS hC V 2 rfl dX2_readSmith_56 ?_
    refine lv_iconst (v := (nI 0)) hx hb dX2_readSmith_58 (by decide +kernel) ?_
    refine lv_sipush (v := (nI 200)) hx hb dX2_readSmith_59 (by decide +kernel) ?_
    refine lv_iconst (v := (nI 0)) hx hb dX2_readSmith_62 (by decide +kernel) ?_
    refine g_callVU (nA := 4) hC V hl.1 (f_takeOption l D T 2 ft p2_ t0 (nI 0) (nI 200) (nI 0) tf t1 sz tx (by first | assumption | omega) (by first | assumption | omega) (by first | assumption | omega) (by first | assumption | omega)) w_384 w_386 w_s6 w_4 w_387 (by decide +kernel) rfl ⟨(Nat.le_of_ble_eq_true rfl), (Nat.le_of_ble_eq_true rfl)⟩ 0 (ci := 2) rfl rfl [0, 1] rfl rfl (Nat.le_of_ble_eq_true rfl) dX2_readSmith_63 ⟨(Nat.le_of_ble_eq_true rfl), (Nat.le_of_ble_eq_true rfl)⟩ rfl (fun r w1 H locs hQ V => ?_)
    obtain ⟨z3, p3, rfl, rfl, f_8, f_9⟩ := hQ
    have V : gW D T A s [(t0, .inr (2, [.int tf, .int (nI (cF p3)), .int (cP p3), .ref t1, .int (nI sz), .int (nI (cK p3.2.2.1)), .int (nI p3.1), .int (nI p3.2.1)])), (t1, .inl (T 3, 900, .inl tx)), (a0, .inr (5, [.int (nI an), .int am, .int al, .int ao, .int au, .ref a1, .ref a2, .ref a3, .ref a4, .ref a5, .ref a6, .ref a7, .ref a8, .ref a9, .ref a10])), (a1, .inl (T 0, 10, .inl (upd af1 an z1))), (a2, .inl (T 0, 10, .inl (upd af2 an z2))), (a3, .inl (T 0, 10, .inl af3)), (a4, .inl (T 0, 10, .inl af4)), (a5, .inl (T 0, 10, .inl af5)), (a6, .inl (T 0, 10, .inl af6)), (a7, .inl (T 0, 10, .inl af7)), (a8, .inl (T 0, 10, .inl af8))] H locs := V _ [0, 0] rfl rfl rfl (by decide +kernel) rfl
    show W p l e _ s m args below meth c H locs _ _ _ (F0 m 66 ls [.int z3, .int (nI an), .ref a3])
    have v3 : cF p3 = 0 → z3 = smHe ft sz ps := fun h => by rw [f_9 h, e2]; rfl
    have e3 : p3 = sm3 ft sz ps := by rw [f_8, e2]; rfl
    have hq3 : PI ft sz p3 := by rw [f_8]; exact PI_ti hq2
    obtain ⟨_, _, _, _, -⟩ := id hq3
    have hcc3 := cF_le (p := p3) (by omega)
    refine g_iast hC V 5 rfl (vp_in_nI (by omega) (by omega)) (f' := (upd af3 an z3)) (by rw [nI_clamp (by omega)]) (ws' := [(t0, .inr (2, [.int tf, .int (nI (cF p3)), .int (cP p3), .ref t1, .int (nI sz), .int (nI (cK p3.2.2.1)), .int (nI p3.1), .int (nI p3.2.1)])), (t1, .inl (T 3, 900, .inl tx)), (a0, .inr (5, [.int (nI an), .int am, .int al, .int ao, .int au, .ref a1, .ref a2, .ref a3, .ref a4, .ref a5, .ref a6, .ref a7, .ref a8, .ref a9, .ref a10])), (a1, .inl (T 0, 10, .inl (upd af1 an z1))), (a2, .inl (T 0, 10, .inl (upd af2 an z2))), (a3, .inl (T 0, 10, .inl (upd af3 an z3))), (a4, .inl (T 0, 10, .inl af4)), (a5, .inl (T 0, 10, .inl af5)), (a6, .inl (T 0, 10, .inl af6)), (a7, .inl (T 0, 10, .inl af7)), (a8, .inl (T 0, 10, .inl af8))]) rfl dX2_readSmith_66 (fun H locs V => ?_)
    refine lv_aload_n hx hb dX2_readSmith_67 rfl (lv_at hl 2 rfl) ?_
    refine g_get hC V (ci := 5) uwX5 2 rfl rfl 8 (by decide) w_68 rfl rfl dX2_readSmith_68 ?_
    refine lv_iload_n hx hb dX2_readSmith_71 rfl (lv_at hl 0 rfl) ?_
    refine lv_aload_n hx hb dX2_readSmith_72 rfl (lv_at hl 1 rfl) ?_
    refine g_ldcS hC V 3 rfl dX2_readSmith_73 ?_
    refine lv_iconst (v := (nI 0)) hx hb dX2_readSmith_75 (by decide +kernel) ?_
    refine lv_sipush (v := (nI 200)) hx hb dX2_readSmith_76 (by decide +kernel) ?_
    refine lv_bipush (v := (nI 20)) hx hb dX2_readSmith_79 (by decide +kernel) ?_
    refine g_callVU (nA := 4) hC V hl.1 (f_takeOption l D T 3 ft p3 t0 (nI 0) (nI 200) (nI 20) tf t1 sz tx (by first | assumption | omega) (by first | assumption | omega) (by first | assumption | omega) (by first | assumption | omega)) w_384 w_386 w_s6 w_4 w_387 (by decide +kernel) rfl ⟨(Nat.le_of_ble_eq_true rfl), (Nat.le_of_ble_eq_true rfl)⟩ 0 (ci := 2) rfl rfl [0, 1] rfl rfl (Nat.le_of_ble_eq_true rfl) dX2_readSmith_81 ⟨(Nat.le_of_ble_eq_true rfl), (Nat.le_of_ble_eq_true rfl)⟩ rfl (fun r w1 H locs hQ V => ?_)
    obtain ⟨z4, p4, rfl, rfl, f_10, f_11⟩ := hQ
    have V : gW D T A s [(t0, .inr (2, [.int tf, .int (nI (cF p4)), .int (cP p4), .ref t1, .int (nI sz), .int (nI (cK p4.2.2.1)), .int (nI p4.1), .int (nI p4.2.1)])), (t1, .inl (T 3, 900, .inl tx)), (a0, .inr (5, [.int (nI an), .int am, .int al, .int ao, .int au, .ref a1, .ref a2, .ref a3, .ref a4, .ref a5, .ref a6, .ref a7, .ref a8, .ref a9, .ref a10])), (a1, .inl (T 0, 10, .inl (upd af1 an z1))), (a2, .inl (T 0, 10, .inl (upd af2 an z2))), (a3, .inl (T 0, 10, .inl (upd af3 an z3))), (a4, .inl (T 0, 10, .inl af4)), (a5, .inl (T 0, 10, .inl af5)), (a6, .inl (T 0, 10, .inl af6)), (a7, .inl (T 0, 10, .inl af7)), (a8, .inl (T 0, 10, .inl af8))] H locs := V _ [0, 0] rfl rfl rfl (by decide +kernel) rfl
    show W p l e _ s m args below meth c H locs _ _ _ (F0 m 84 ls [.int z4, .int (nI an), .ref a4])
    have v4 : cF p4 = 0 → z4 = smLo ft sz ps := fun h => by rw [f_11 h, e3]; rfl
    have e4 : p4 = sm4 ft sz ps := by rw [f_10, e3]; rfl
    have hq4 : PI ft sz p4 := by rw [f_10]; exact PI_ti hq3
    obtain ⟨_, _, _, _, -⟩ := id hq4
    have hcc4 := cF_le (p := p4) (by omega)
    refine g_iast hC V 6 rfl (vp_in_nI (by omega) (by omega)) (f' := (upd af4 an z4)) (by rw [nI_clamp (by omega)]) (ws' := [(t0, .inr (2, [.int tf, .int (nI (cF p4)), .int (cP p4), .ref t1, .int (nI sz), .int (nI (cK p4.2.2.1)), .int (nI p4.1), .int (nI p4.2.1)])), (t1, .inl (T 3, 900, .inl tx)), (a0, .inr (5, [.int (nI an), .int am, .int al, .int ao, .int au, .ref a1, .ref a2, .ref a3, .ref a4, .ref a5, .ref a6, .ref a7, .ref a8, .ref a9, .ref a10])), (a1, .inl (T 0, 10, .inl (upd af1 an z1))), (a2, .inl (T 0, 10, .inl (upd af2 an z2))), (a3, .inl (T 0, 10, .inl (upd af3 an z3))), (a4, .inl (T 0, 10, .inl (upd af4 an z4))), (a5, .inl (T 0, 10, .inl af5)), (a6, .inl (T 0, 10, .inl af6)), (a7, .inl (T 0, 10, .inl af7)), (a8, .inl (T 0, 10, .inl af8))]) rfl dX2_readSmith_84 (fun H locs V => ?_)
    refine lv_aload_n hx hb dX2_readSmith_85 rfl (lv_at hl 2 rfl) ?_
    refine g_get hC V (ci := 5) uwX5 2 rfl rfl 9 (by decide) w_71 rfl rfl dX2_readSmith_86 ?_
    refine lv_iload_n hx hb dX2_readSmith_89 rfl (lv_at hl 0 rfl) ?_
    refine lv_aload_n hx hb dX2_readSmith_90 rfl (lv_at hl 1 rfl) ?_
    refine g_ldcS hC V 4 rfl dX2_readSmith_91 ?_
    refine lv_aload_n hx hb dX2_readSmith_93 rfl (lv_at hl 2 rfl) ?_
    refine g_get hC V (ci := 5) uwX5 2 rfl rfl 8 (by decide) w_68 rfl rfl dX2_readSmith_94 ?_
    refine lv_iload_n hx hb dX2_readSmith_97 rfl (lv_at hl 0 rfl) ?_
    refine g_iald hC V 6 rfl (vp_in_nI (by omega) (by omega)) (v := z4) (by rw [nI_clamp (by omega), up_same]) dX2_readSmith_98 ?_
    refine lv_sipush (v := (nI 200)) hx hb dX2_readSmith_99 (by decide +kernel) ?_
    refine lv_bipush (v := (nI 100)) hx hb dX2_readSmith_102 (by decide +kernel) ?_
    refine lv_aload_n hx hb dX2_readSmith_104 rfl (lv_at hl 2 rfl) ?_
    refine g_get hC V (ci := 5) uwX5 2 rfl rfl 8 (by decide) w_68 rfl rfl dX2_readSmith_105 ?_
    refine lv_iload_n hx hb dX2_readSmith_108 rfl (lv_at hl 0 rfl) ?_
    refine g_iald hC V 6 rfl (vp_in_nI (by omega) (by omega)) (v := z4) (by rw [nI_clamp (by omega), up_same]) dX2_readSmith_109 ?_
    refine va_mmax hx hb (hml.trans hl.1.symm) hown (hts _ w_391) (hts _ w_392) (hts _ w_10) (hts _ w_393) (Nat.le_of_ble_eq_true rfl) (Nat.le_of_ble_eq_true rfl) (Nat.le_of_ble_eq_true rfl) (Nat.le_of_ble_eq_true rfl) dX2_readSmith_110 ?_
    refine g_callVU (nA := 4) hC V hl.1 (f_takeOption l D T 4 ft p4 t0 z4 (nI 200) (if (nI 100) < z4 then z4 else (nI 100)) tf t1 sz tx (by first | assumption | omega) (by first | assumption | omega) (by first | assumption | omega) (by first | assumption | omega)) w_384 w_386 w_s6 w_4 w_387 (by decide +kernel) rfl ⟨(Nat.le_of_ble_eq_true rfl), (Nat.le_of_ble_eq_true rfl)⟩ 0 (ci := 2) rfl rfl [0, 1] rfl rfl (Nat.le_of_ble_eq_true rfl) dX2_readSmith_113 ⟨(Nat.le_of_ble_eq_true rfl), (Nat.le_of_ble_eq_true rfl)⟩ rfl (fun r w1 H locs hQ V => ?_)
    obtain ⟨z5, p5, rfl, rfl, f_12, f_13⟩ := hQ
    have V : gW D T A s [(t0, .inr (2, [.int tf, .int (nI (cF p5)), .int (cP p5), .ref t1, .int (nI sz), .int (nI (cK p5.2.2.1)), .int (nI p5.1), .int (nI p5.2.1)])), (t1, .inl (T 3, 900, .inl tx)), (a0, .inr (5, [.int (nI an), .int am, .int al, .int ao, .int au, .ref a1, .ref a2, .ref a3, .ref a4, .ref a5, .ref a6, .ref a7, .ref a8, .ref a9, .ref a10])), (a1, .inl (T 0, 10, .inl (upd af1 an z1))), (a2, .inl (T 0, 10, .inl (upd af2 an z2))), (a3, .inl (T 0, 10, .inl (upd af3 an z3))), (a4, .inl (T 0, 10, .inl (upd af4 an z4))), (a5, .inl (T 0, 10, .inl af5)), (a6, .inl (T 0, 10, .inl af6)), (a7, .inl (T 0, 10, .inl af7)), (a8, .inl (T 0, 10, .inl af8))] H locs := V _ [0, 0] rfl rfl rfl (by decide +kernel) rfl
    show W p l e _ s m args below meth c H locs _ _ _ (F0 m 116 ls [.int z5, .int (nI an), .ref a5])
    have e5 : p5 = sm5 ft sz ps := f_12.trans (sm5_eq e4 v4)
    have v5 : cF p5 = 0 → z5 = smHi ft sz ps := fun h => by rw [f_13 h, v4 (ti_cF (by decide) (f_12 ▸ h)), e4]; rfl
    have hq5 : PI ft sz p5 := by rw [f_12]; exact PI_ti hq4
    obtain ⟨_, _, _, _, -⟩ := id hq5
    have hcc5 := cF_le (p := p5) (by omega)
    refine g_iast hC V 7 rfl (vp_in_nI (by omega) (by omega)) (f' := (upd af5 an z5)) (by rw [nI_clamp (by omega)]) (ws' := [(t0, .inr (2, [.int tf, .int (nI (cF p5)), .int (cP p5), .ref t1, .int (nI sz), .int (nI (cK p5.2.2.1)), .int (nI p5.1), .int (nI p5.2.1)])), (t1, .inl (T 3, 900, .inl tx)), (a0, .inr (5, [.int (nI an), .int am, .int al, .int ao, .int au, .ref a1, .ref a2, .ref a3, .ref a4, .ref a5, .ref a6, .ref a7, .ref a8, .ref a9, .ref a10])), (a1, .inl (T 0, 10, .inl (upd af1 an z1))), (a2, .inl (T 0, 10, .inl (upd af2 an z2))), (a3, .inl (T 0, 10, .inl (upd af3 an z3))), (a4, .inl (T 0, 10, .inl (upd af4 an z4))), (a5, .inl (T 0, 10, .inl (upd af5 an z5))), (a6, .inl (T 0, 10, .inl af6)), (a7, .inl (T 0, 10, .inl af7)), (a8, .inl (T 0, 10, .inl af8))]) rfl dX2_readSmith_116 (fun H locs V => ?_)
    refine lv_aload_n hx hb dX2_readSmith_117 rfl (lv_at hl 2 rfl) ?_
    refine lv_iload_n hx hb dX2_readSmith_118 rfl (lv_at hl 0 rfl) ?_
    refine lv_aload_n hx hb dX2_readSmith_119 rfl (lv_at hl 1 rfl) ?_
    refine g_ldcS hC V 5 rfl dX2_readSmith_120 ?_
    refine lv_iconst (v := (nI 0)) hx hb dX2_readSmith_122 (by decide +kernel) ?_
    refine lv_bipush (v := (nI 20)) hx hb dX2_readSmith_123 (by decide +kernel) ?_
    refine lv_iconst (v := (nI 3)) hx hb dX2_readSmith_125 (by decide +kernel) ?_
    refine g_callVU (nA := 4) hC V hl.1 (f_takeOption l D T 5 ft p5 t0 (nI 0) (nI 20) (nI 3) tf t1 sz tx (by first | assumption | omega) (by first | assumption | omega) (by first | assumption | omega) (by first | assumption | omega)) w_384 w_386 w_s6 w_4 w_387 (by decide +kernel) rfl ⟨(Nat.le_of_ble_eq_true rfl), (Nat.le_of_ble_eq_true rfl)⟩ 0 (ci := 2) rfl rfl [0, 1] rfl rfl (Nat.le_of_ble_eq_true rfl) dX2_readSmith_126 ⟨(Nat.le_of_ble_eq_true rfl), (Nat.le_of_ble_eq_true rfl)⟩ rfl (fun r w1 H locs hQ V => ?_)
    obtain ⟨z6, p6, rfl, rfl, f_14, f_15⟩ := hQ
    have V : gW D T A s [(t0, .inr (2, [.int tf, .int (nI (cF p6)), .int (cP p6), .ref t1, .int (nI sz), .int (nI (cK p6.2.2.1)), .int (nI p6.1), .int (nI p6.2.1)])), (t1, .inl (T 3, 900, .inl tx)), (a0, .inr (5, [.int (nI an), .int am, .int al, .int ao, .int au, .ref a1, .ref a2, .ref a3, .ref a4, .ref a5, .ref a6, .ref a7, .ref a8, .ref a9, .ref a10])), (a1, .inl (T 0, 10, .inl (upd af1 an z1))), (a2, .inl (T 0, 10, .inl (upd af2 an z2))), (a3, .inl (T 0, 10, .inl (upd af3 an z3))), (a4, .inl (T 0, 10, .inl (upd af4 an z4))), (a5, .inl (T 0, 10, .inl (upd af5 an z5))), (a6, .inl (T 0, 10, .inl af6)), (a7, .inl (T 0, 10, .inl af7)), (a8, .inl (T 0, 10, .inl af8))] H locs := V _ [0, 0] rfl rfl rfl (by decide +kernel) rfl
    show W p l e _ s m args below meth c H locs _ _ _ (F0 m 129 ls [.int z6, .int (nI an), .ref a0])
    have v6 : cF p6 = 0 → z6 = smPi ft sz ps := fun h => by rw [f_15 h, e5]; rfl
    have e6 : p6 = sm6 ft sz ps := by rw [f_14, e5]; rfl
    have hq6 : PI ft sz p6 := by rw [f_14]; exact PI_ti hq5
    obtain ⟨_, _, _, _, -⟩ := id hq6
    have hcc6 := cF_le (p := p6) (by omega)
    refine g_callVU (nA := 2) hC V hl.1 (s_beginPiece l D T a0 an z6 an am al ao au a1 a2 a3 a4 a5 a6 a7 a8 a9 a10 af6 af7 af8 (by first | assumption | omega)) w_395 w_396 w_397 w_3 w_398 (by decide +kernel) rfl ⟨(Nat.le_of_ble_eq_true rfl), (Nat.le_of_ble_eq_true rfl)⟩ 2 (ci := 5) rfl rfl [2, 8, 9, 10] rfl rfl (Nat.le_of_ble_eq_true rfl) dX2_readSmith_129 ⟨(Nat.le_of_ble_eq_true rfl), (Nat.le_of_ble_eq_true rfl)⟩ rfl (fun r w1 H locs hQ V => ?_)
    obtain ⟨g6_16, g7_17, g8_18, rfl, rfl, f_19, f_20, f_21⟩ := hQ
    have V : gW D T A s [(t0, .inr (2, [.int tf, .int (nI (cF p6)), .int (cP p6), .ref t1, .int (nI sz), .int (nI (cK p6.2.2.1)), .int (nI p6.1), .int (nI p6.2.1)])), (t1, .inl (T 3, 900, .inl tx)), (a0, .inr (5, [.int (nI an), .int am, .int al, .int ao, .int au, .ref a1, .ref a2, .ref a3, .ref a4, .ref a5, .ref a6, .ref a7, .ref a8, .ref a9, .ref a10])), (a1, .inl (T 0, 10, .inl (upd af1 an z1))), (a2, .inl (T 0, 10, .inl (upd af2 an z2))), (a3, .inl (T 0, 10, .inl (upd af3 an z3))), (a4, .inl (T 0, 10, .inl (upd af4 an z4))), (a5, .inl (T 0, 10, .inl (upd af5 an z5))), (a6, .inl (T 0, 10, .inl g6_16)), (a7, .inl (T 0, 10, .inl g7_17)), (a8, .inl (T 0, 10, .inl g8_18))] H locs := V _ [2, 5, 0, 0] rfl rfl rfl (by decide +kernel) rfl
    show W p l e _ s m args below meth c H locs _ _ _ (F0 m 132 ls [])
    refine lv_aload_n hx hb dX2_readSmith_132 rfl (lv_at hl 2 rfl) ?_
    refine lv_dup hx hb dX2_readSmith_133 rfl ?_
    refine g_get hC V (ci := 5) uwX5 2 rfl rfl 0 (by decide) w_36 rfl rfl dX2_readSmith_134 ?_
    refine lv_iconst (v := (nI 1)) hx hb dX2_readSmith_137 (by decide +kernel) ?_
    refine lv_iadd hx hb dX2_readSmith_138 ?_
    refine g_vi (y := (nI (an + 1))) (nI_add _ _) ?_
    refine g_put hC V (ci := 5) uwX5 tyX5 tyX5_ok nmX5 2 rfl rfl 0 (by decide) w_36 rfl rfl rfl rfl (Nat.le_of_ble_eq_true rfl) (ws' := [(t0, .inr (2, [.int tf, .int (nI (cF p6)), .int (cP p6), .ref t1, .int (nI sz), .int (nI (cK p6.2.2.1)), .int (nI p6.1), .int (nI p6.2.1)])), (t1, .inl (T 3, 900, .inl tx)), (a0, .inr (5, [.int (nI (an + 1)), .int am, .int al, .int ao, .int au, .ref a1, .ref a2, .ref a3, .ref a4, .ref a5, .ref a6, .ref a7, .ref a8, .ref a9, .ref a10])), (a1, .inl (T 0, 10, .inl (upd af1 an z1))), (a2, .inl (T 0, 10, .inl (upd af2 an z2))), (a3, .inl (T 0, 10, .inl (upd af3 an z3))), (a4, .inl (T 0, 10, .inl (upd af4 an z4))), (a5, .inl (T 0, 10, .inl (upd af5 an z5))), (a6, .inl (T 0, 10, .inl g6_16)), (a7, .inl (T 0, 10, .inl g7_17)), (a8, .inl (T 0, 10, .inl g8_18))]) rfl dX2_readSmith_139 (fun H locs V => ?_)
    exact g_vret (Qr := (q_f_readSmith T ft ps t0 a0 tf t1 sz tx an am al ao au a1 a2 a3 a4 a5 a6 a7 a8 a9 a10 af1 af2 af3 af4 af5 af6 af7 af8)) hC V ⟨(Nat.le_of_ble_eq_true rfl), (Nat.le_of_ble_eq_true rfl)⟩ ⟨p6, (an + 1), (upd af1 an z1), (upd af2 an z2), (upd af3 an z3), (upd af4 an z4), (upd af5 an z5), g6_16, g7_17, g8_18, rfl, rfl, (e6.trans (smS_n (by omega)).symm), (by omega), (by omega), (fun _ => by omega), (fun _ => rfl), (fun h => by rw [v1 (by rw [e1]; exact (sm_cF (e6 ▸ h)).2.2.2.2)]), (fun h => by rw [v2 (by rw [e2]; exact (sm_cF (e6 ▸ h)).2.2.2.1)]), (fun h => by rw [v3 (by rw [e3]; exact (sm_cF (e6 ▸ h)).2.2.1)]), (fun h => by rw [v4 (by rw [e4]; exact (sm_cF (e6 ▸ h)).2.1)]), (fun h => by rw [v5 (by rw [e5]; exact (sm_cF (e6 ▸ h)).1)]), (fun h => by rw [f_19, v6 h]), (fun _ => f_20), (fun _ => f_21)⟩ dX2_readSmith_142
  · skip
    have c_1 := b_nlt (by omega) (by omega) c_1
    refine lv_aload_n hx hb dX2_readSmith_11 rfl (lv_at hl 1 rfl) ?_
    refine lv_iconst (v := (nI 4)) hx hb dX2_readSmith_12 (by decide +kernel) ?_
    refine g_callVU (nA := 1) hC V hl.1 (f_fail l D T ps t0 4 tf t1 sz (by decide) hcF) w_317 w_319 w_s2 w_4 w_320 (by decide +kernel) rfl ⟨(Nat.le_of_ble_eq_true rfl), (Nat.le_of_ble_eq_true rfl)⟩ 0 (ci := 2) rfl rfl [0] rfl rfl (Nat.le_of_ble_eq_true rfl) dX2_readSmith_13 ⟨(Nat.le_of_ble_eq_true rfl), (Nat.le_of_ble_eq_true rfl)⟩ rfl (fun r w1 H locs hQ V => ?_)
    obtain ⟨p2_22, rfl, rfl, f_23⟩ := hQ
    have V : gW D T A s [(t0, .inr (2, [.int tf, .int (nI (cF p2_22)), .int (cP p2_22), .ref t1, .int (nI sz), .int (nI (cK p2_22.2.2.1)), .int (nI p2_22.1), .int (nI p2_22.2.1)])), (t1, .inl (T 3, 900, .inl tx)), (a0, .inr (5, [.int (nI an), .int am, .int al, .int ao, .int au, .ref a1, .ref a2, .ref a3, .ref a4, .ref a5, .ref a6, .ref a7, .ref a8, .ref a9, .ref a10])), (a1, .inl (T 0, 10, .inl af1)), (a2, .inl (T 0, 10, .inl af2)), (a3, .inl (T 0, 10, .inl af3)), (a4, .inl (T 0, 10, .inl af4)), (a5, .inl (T 0, 10, .inl af5)), (a6, .inl (T 0, 10, .inl af6)), (a7, .inl (T 0, 10, .inl af7)), (a8, .inl (T 0, 10, .inl af8))] H locs := V _ [0] rfl rfl rfl (by decide +kernel) rfl
    show W p l e _ s m args below meth c H locs _ _ _ (F0 m 16 ls [])
    have hwp2_22 : ¬ cF p2_22 = 0 := by rw [f_23]; exact fa_cF (by decide)
    have hPp2_22 : PI ft sz p2_22 := by rw [f_23]; exact PI_fa h_p (by decide)
    obtain ⟨_, _, _, _, -⟩ := id hPp2_22
    have hcp2_22 := cF_le (p := p2_22) (by omega)
    exact g_vret (Qr := (q_f_readSmith T ft ps t0 a0 tf t1 sz tx an am al ao au a1 a2 a3 a4 a5 a6 a7 a8 a9 a10 af1 af2 af3 af4 af5 af6 af7 af8)) hC V ⟨(Nat.le_of_ble_eq_true rfl), (Nat.le_of_ble_eq_true rfl)⟩ ⟨p2_22, an, af1, af2, af3, af4, af5, af6, af7, af8, rfl, rfl, (f_23.trans (smS_10 (by omega)).symm), (by omega), (by omega), (fun h => absurd h (by omega)), (fun h => absurd h (by omega)), (fun h => absurd h (by omega)), (fun h => absurd h (by omega)), (fun h => absurd h (by omega)), (fun h => absurd h (by omega)), (fun h => absurd h (by omega)), (fun h => absurd h (by omega)), (fun h => absurd h (by omega)), (fun h => absurd h (by omega))⟩ dX2_readSmith_16

def q_f_readBlows (T : Nat → ClassId) (ft : Nat → Int32) (ps : PS) (t0 : Nat) (a0 : Nat) (tf : Int32) (t1 : Nat) (sz : Nat) (tx : Nat → Int32) (an : Nat) (am : Int32) (al : Int32) (ao : Int32) (au : Int32) (a1 : Nat) (a2 : Nat) (a3 : Nat) (a4 : Nat) (a5 : Nat) (a6 : Nat) (a7 : Nat) (a8 : Nat) (a9 : Nat) (a10 : Nat) (af9 : Nat → Int32) : Option Value → va_W → Prop := fun rr ww => (∃ (p2 : PS) (g : Nat → Int32), rr = none ∧ ww = [(t0, .inr (2, [.int tf, .int (nI (cF p2)), .int (cP p2), .ref t1, .int (nI sz), .int (nI (cK p2.2.2.1)), .int (nI p2.1), .int (nI p2.2.1)])), (t1, .inl (T 3, 900, .inl tx)), (a0, .inr (5, [.int (nI an), .int am, .int al, .int ao, .int au, .ref a1, .ref a2, .ref a3, .ref a4, .ref a5, .ref a6, .ref a7, .ref a8, .ref a9, .ref a10])), (a9, .inl (T 0, 10, .inl g))] ∧ p2 = blS ft sz an (nxS ft sz ps) ∧ (∀ i, i < 10 → (bd (g i) an ∨ g i = -1)) ∧ BlE ft sz an ps p2 af9 g)
set_option maxHeartbeats 4000000 in
set_option maxRecDepth 100000 in
theorem f_readBlows (l : Launch) (D : va_G) (T : Nat → ClassId) (ft : Nat → Int32) (ps : PS) (t0 : Nat) (a0 : Nat) (tf : Int32) (t1 : Nat) (sz : Nat) (tx : Nat → Int32) (an : Nat) (am : Int32) (al : Int32) (ao : Int32) (au : Int32) (a1 : Nat) (a2 : Nat) (a3 : Nat) (a4 : Nat) (a5 : Nat) (a6 : Nat) (a7 : Nat) (a8 : Nat) (a9 : Nat) (a10 : Nat) (af9 : Nat → Int32) (h_sz : sz ≤ 900) (h_tx : TXT sz tx ft) (h_p : PI ft sz ps) (h_0 : cF ps = 0) (h_n : an ≤ 10) (h_t : ∀ i, i < 10 → (bd (af9 i) an ∨ af9 i = -1)) : Ct l yX2_readBlows cX2_readBlows 4 none 3 0 0 D T [.ref t0, .ref a0] [(t0, .inr (2, [.int tf, .int (nI (cF ps)), .int (cP ps), .ref t1, .int (nI sz), .int (nI (cK ps.2.2.1)), .int (nI ps.1), .int (nI ps.2.1)])), (t1, .inl (T 3, 900, .inl tx)), (a0, .inr (5, [.int (nI an), .int am, .int al, .int ao, .int au, .ref a1, .ref a2, .ref a3, .ref a4, .ref a5, .ref a6, .ref a7, .ref a8, .ref a9, .ref a10])), (a9, .inl (T 0, 10, .inl af9))] (q_f_readBlows T ft ps t0 a0 tf t1 sz tx an am al ao au a1 a2 a3 a4 a5 a6 a7 a8 a9 a10 af9) := by
  refine Ct.of (cc := cX2_readBlows) (maxL := 4) (ret := none) (by decide) (Nat.le_of_ble_eq_true rfl) ?_
  intro p e s m args below meth c A ls hC hnm V hl
  obtain ⟨hx, hb, hr, hml, hown, hts, hlocks⟩ := id hC
  generalize hH : s.heap = H at V ⊢
  clear hH
  have hl : lv_has ls 4 [(0, .ref t0), (1, .ref a0)] := hl
  generalize hlo : ([] : List Loc) = locs at V ⊢
  clear hlo
  obtain ⟨_, _, _, _, -⟩ := id h_p
  have hcF := cF_le (p := ps) (by omega)
  have hcK := cK_le ps.2.2.1
  refine lv_aload_n hx hb dX2_readBlows_0 rfl (lv_at hl 0 rfl) ?_
  refine g_callVU (nA := 0) hC V hl.1 (f_nextToken l D T ft ps.2.2.2.1 ps.2.2.2.2.2 t0 tf (cF ps) (cP ps) t1 sz (nI (cK ps.2.2.1)) (nI ps.1) ps.2.1 tx (by first | assumption | omega) (by first | assumption | omega) (by omega) (by omega) (cP_0 (by omega))) w_309 w_311 w_s0 w_4 w_312 (by decide +kernel) rfl ⟨(Nat.le_of_ble_eq_true rfl), (Nat.le_of_ble_eq_true rfl)⟩ 0 (ci := 2) rfl rfl [0, 1] rfl rfl (Nat.le_of_ble_eq_true rfl) dX2_readBlows_1 ⟨(Nat.le_of_ble_eq_true rfl), (Nat.le_of_ble_eq_true rfl)⟩ rfl (fun r w1 H locs hQ V => ?_)
  obtain ⟨p2_1, rfl, rfl, f_2⟩ := hQ
  have V : gW D T A s [(t0, .inr (2, [.int tf, .int (nI (cF p2_1)), .int (cP p2_1), .ref t1, .int (nI sz), .int (nI (cK p2_1.2.2.1)), .int (nI p2_1.1), .int (nI p2_1.2.1)])), (t1, .inl (T 3, 900, .inl tx)), (a0, .inr (5, [.int (nI an), .int am, .int al, .int ao, .int au, .ref a1, .ref a2, .ref a3, .ref a4, .ref a5, .ref a6, .ref a7, .ref a8, .ref a9, .ref a10])), (a9, .inl (T 0, 10, .inl af9))] H locs := V _ [0, 0] rfl rfl rfl (by decide +kernel) rfl
  show W p l e _ s m args below meth c H locs _ _ _ (F0 m 4 ls [])
  have e0 : p2_1 = nxS ft sz ps := f_2.trans (nx_c0 (by omega))
  have hq0 : PI ft sz p2_1 := by rw [e0]; exact PI_nxI h_p
  obtain ⟨_, _, _, _, -⟩ := id hq0
  refine lv_aload_n hx hb dX2_readBlows_4 rfl (lv_at hl 0 rfl) ?_
  refine lv_iconst (v := (nI 0)) hx hb dX2_readBlows_5 (by decide +kernel) ?_
  refine lv_aload_n hx hb dX2_readBlows_6 rfl (lv_at hl 1 rfl) ?_
  refine g_get hC V (ci := 5) uwX5 2 rfl rfl 0 (by decide) w_36 rfl rfl dX2_readBlows_7 ?_
  refine lv_iconst (v := (nI 1)) hx hb dX2_readBlows_10 (by decide +kernel) ?_
  refine lv_isub hx hb dX2_readBlows_11 ?_
  refine g_callVU (nA := 2) hC V hl.1 (f_takeNumber l D T ft p2_1 t0 (nI 0) ((nI an) - (nI 1)) tf t1 sz tx (by first | assumption | omega) (by first | assumption | omega) (by first | assumption | omega)) w_378 w_380 w_s5 w_4 w_381 (by decide +kernel) rfl ⟨(Nat.le_of_ble_eq_true rfl), (Nat.le_of_ble_eq_true rfl)⟩ 0 (ci := 2) rfl rfl [0, 1] rfl rfl (Nat.le_of_ble_eq_true rfl) dX2_readBlows_12 ⟨(Nat.le_of_ble_eq_true rfl), (Nat.le_of_ble_eq_true rfl)⟩ rfl (fun r w1 H locs hQ V => ?_)
  obtain ⟨z_3, p2_4, rfl, rfl, f_5, f_6⟩ := hQ
  have V : gW D T A s [(t0, .inr (2, [.int tf, .int (nI (cF p2_4)), .int (cP p2_4), .ref t1, .int (nI sz), .int (nI (cK p2_4.2.2.1)), .int (nI p2_4.1), .int (nI p2_4.2.1)])), (t1, .inl (T 3, 900, .inl tx)), (a0, .inr (5, [.int (nI an), .int am, .int al, .int ao, .int au, .ref a1, .ref a2, .ref a3, .ref a4, .ref a5, .ref a6, .ref a7, .ref a8, .ref a9, .ref a10])), (a9, .inl (T 0, 10, .inl af9))] H locs := V _ [0, 0] rfl rfl rfl (by decide +kernel) rfl
  show W p l e _ s m args below meth c H locs _ _ _ (F0 m 15 ls [.int z_3])
  have e1 : p2_4 = bl1 ft sz an (nxS ft sz ps) := by rw [f_5, e0]; rfl
  have hq1 : PI ft sz p2_4 := by rw [f_5]; exact PI_tk hq0
  obtain ⟨_, _, _, _, -⟩ := id hq1
  have hcc1 := cF_le (p := p2_4) (by omega)
  refine lv_istore_n (lv' := [(2, .int z_3), (0, .ref t0), (1, .ref a0)]) hx hb dX2_readBlows_15 rfl hl (by decide) rfl (fun ls hl => ?_)
  refine lv_aload_n hx hb dX2_readBlows_16 rfl (lv_at hl 1 rfl) ?_
  refine lv_iconst (v := (nI 0)) hx hb dX2_readBlows_17 (by decide +kernel) ?_
  refine lv_aload_n hx hb dX2_readBlows_18 rfl (lv_at hl 2 rfl) ?_
  refine g_get hC V (ci := 5) uwX5 2 rfl rfl 0 (by decide) w_36 rfl rfl dX2_readBlows_19 ?_
  refine lv_iconst (v := (nI 1)) hx hb dX2_readBlows_22 (by decide +kernel) ?_
  refine lv_isub hx hb dX2_readBlows_23 ?_
  refine g_callVU (nA := 2) hC V hl.1 (f_takeNumber l D T ft p2_4 t0 (nI 0) ((nI an) - (nI 1)) tf t1 sz tx (by first | assumption | omega) (by first | assumption | omega) (by first | assumption | omega)) w_378 w_380 w_s5 w_4 w_381 (by decide +kernel) rfl ⟨(Nat.le_of_ble_eq_true rfl), (Nat.le_of_ble_eq_true rfl)⟩ 0 (ci := 2) rfl rfl [0, 1] rfl rfl (Nat.le_of_ble_eq_true rfl) dX2_readBlows_24 ⟨(Nat.le_of_ble_eq_true rfl), (Nat.le_of_ble_eq_true rfl)⟩ rfl (fun r w1 H locs hQ V => ?_)
  obtain ⟨z_7, p2_8, rfl, rfl, f_9, f_10⟩ := hQ
  have V : gW D T A s [(t0, .inr (2, [.int tf, .int (nI (cF p2_8)), .int (cP p2_8), .ref t1, .int (nI sz), .int (nI (cK p2_8.2.2.1)), .int (nI p2_8.1), .int (nI p2_8.2.1)])), (t1, .inl (T 3, 900, .inl tx)), (a0, .inr (5, [.int (nI an), .int am, .int al, .int ao, .int au, .ref a1, .ref a2, .ref a3, .ref a4, .ref a5, .ref a6, .ref a7, .ref a8, .ref a9, .ref a10])), (a9, .inl (T 0, 10, .inl af9))] H locs := V _ [0, 0] rfl rfl rfl (by decide +kernel) rfl
  show W p l e _ s m args below meth c H locs _ _ _ (F0 m 27 ls [.int z_7])
  have e2 : p2_8 = blS ft sz an (nxS ft sz ps) := by rw [f_9, e1]; rfl
  have hq2 : PI ft sz p2_8 := by rw [f_9]; exact PI_tk hq1
  obtain ⟨_, _, _, _, -⟩ := id hq2
  have hcc2 := cF_le (p := p2_8) (by omega)
  refine lv_istore_n (lv' := [(3, .int z_7), (2, .int z_3), (0, .ref t0), (1, .ref a0)]) hx hb dX2_readBlows_27 rfl hl (by decide) rfl (fun ls hl => ?_)
  refine lv_aload_n hx hb dX2_readBlows_28 rfl (lv_at hl 2 rfl) ?_
  refine g_get hC V (ci := 2) uwX2 0 rfl rfl 1 (by decide) w_130 rfl rfl dX2_readBlows_29 ?_
  refine lv_if_ne (tgt := 42) hx hb dX2_readBlows_32 (by decide) (fun c_11 => ?_) (fun c_11 => ?_)
  · skip
    rw [show (0 : Int32) = nI 0 from rfl] at c_11
    have c_11 := b_ne (by omega) (by omega) c_11
    exact g_vret (Qr := (q_f_readBlows T ft ps t0 a0 tf t1 sz tx an am al ao au a1 a2 a3 a4 a5 a6 a7 a8 a9 a10 af9)) hC V ⟨(Nat.le_of_ble_eq_true rfl), (Nat.le_of_ble_eq_true rfl)⟩ ⟨p2_8, af9, rfl, rfl, e2, h_t, (fun h => absurd h (by omega))⟩ dX2_readBlows_42
  · skip
    rw [show (0 : Int32) = nI 0 from rfl] at c_11
    have c_11 := b_eq (by omega) (by omega) c_11
    have r2 := tk_rng (cF_0.mp (Eq.trans (congrArg cF f_9.symm) c_11)).1
    have hc1 := (tk_cF (Eq.trans (congrArg cF f_9.symm) c_11)).1
    have r1 := tk_rng (cF_0.mp (Eq.trans (congrArg cF f_5.symm) hc1)).1
    obtain ⟨jw, hjw, ejw⟩ := pred_bd h_n r1.1 r1.2.1
    obtain ⟨jv, hjv, ejv⟩ := pred_bd h_n r2.1 r2.2.1
    have ew := (f_6 hc1).trans ejw
    have ev := (f_10 c_11).trans ejv
    rw [ew, ev] at hl
    refine lv_aload_n hx hb dX2_readBlows_35 rfl (lv_at hl 3 rfl) ?_
    refine g_get hC V (ci := 5) uwX5 2 rfl rfl 13 (by decide) w_83 rfl rfl dX2_readBlows_36 ?_
    refine lv_iload_n hx hb dX2_readBlows_39 rfl (lv_at hl 1 rfl) ?_
    refine lv_iload_n hx hb dX2_readBlows_40 rfl (lv_at hl 0 rfl) ?_
    refine g_iast hC V 3 rfl (vp_in_nI (by omega) (by omega)) (f' := (upd af9 jw (nI jv))) (by rw [nI_clamp (by omega)]) (ws' := [(t0, .inr (2, [.int tf, .int (nI (cF p2_8)), .int (cP p2_8), .ref t1, .int (nI sz), .int (nI (cK p2_8.2.2.1)), .int (nI p2_8.1), .int (nI p2_8.2.1)])), (t1, .inl (T 3, 900, .inl tx)), (a0, .inr (5, [.int (nI an), .int am, .int al, .int ao, .int au, .ref a1, .ref a2, .ref a3, .ref a4, .ref a5, .ref a6, .ref a7, .ref a8, .ref a9, .ref a10])), (a9, .inl (T 0, 10, .inl (upd af9 jw (nI jv))))]) rfl dX2_readBlows_41 (fun H locs V => ?_)
    exact g_vret (Qr := (q_f_readBlows T ft ps t0 a0 tf t1 sz tx an am al ao au a1 a2 a3 a4 a5 a6 a7 a8 a9 a10 af9)) hC V ⟨(Nat.le_of_ble_eq_true rfl), (Nat.le_of_ble_eq_true rfl)⟩ ⟨p2_8, (upd af9 jw (nI jv)), rfl, rfl, e2, (up_all (p := fun x => bd x an ∨ x = -1) h_t (fun _ => Or.inl (bd_nI hjv))), (fun _ => ⟨jw, jv, hjw, hjv, by rw [← e0]; exact ejw, by rw [← e1]; exact ejv, rfl⟩)⟩ dX2_readBlows_42

def q_s_lay_f (T : Nat → ClassId) (a0 : Nat) (an : Nat) (am : Int32) (al : Int32) (ao : Int32) (au : Int32) (a1 : Nat) (a2 : Nat) (a3 : Nat) (a4 : Nat) (a5 : Nat) (a6 : Nat) (a7 : Nat) (a8 : Nat) (a9 : Nat) (a10 : Nat) (af9 : Nat → Int32) : Option Value → va_W → Prop := fun rr ww => (∃ (g : Nat → Int32), rr = none ∧ ww = [(a0, .inr (5, [.int (nI an), .int am, .int al, .int ao, .int au, .ref a1, .ref a2, .ref a3, .ref a4, .ref a5, .ref a6, .ref a7, .ref a8, .ref a9, .ref a10])), (a9, .inl (T 0, 10, .inl g))] ∧ (∀ i, i < an → bd (g i) an) ∧ (∀ i, i < an → g i = layV an (af9 i) i))
set_option maxHeartbeats 4000000 in
set_option maxRecDepth 100000 in
theorem s_lay_f (l : Launch) (D : va_G) (T : Nat → ClassId) (a0 : Nat) (an : Nat) (am : Int32) (al : Int32) (ao : Int32) (au : Int32) (a1 : Nat) (a2 : Nat) (a3 : Nat) (a4 : Nat) (a5 : Nat) (a6 : Nat) (a7 : Nat) (a8 : Nat) (a9 : Nat) (a10 : Nat) (af9 : Nat → Int32) (h_n : an ≤ 10) (h_o : ∀ i, i < an → (bd (af9 i) an ∨ af9 i = -1)) : Ct l yX5_layUntoldRopes cX5_layUntoldRopes 2 none 0 0 0 D T [.ref a0] [(a0, .inr (5, [.int (nI an), .int am, .int al, .int ao, .int au, .ref a1, .ref a2, .ref a3, .ref a4, .ref a5, .ref a6, .ref a7, .ref a8, .ref a9, .ref a10])), (a9, .inl (T 0, 10, .inl af9))] (q_s_lay_f T a0 an am al ao au a1 a2 a3 a4 a5 a6 a7 a8 a9 a10 af9) := by
  refine Ct.of (cc := cX5_layUntoldRopes) (maxL := 2) (ret := none) (by decide) (Nat.le_of_ble_eq_true rfl) ?_
  intro p e s m args below meth c A ls hC hnm V hl
  obtain ⟨hx, hb, hr, hml, hown, hts, hlocks⟩ := id hC
  generalize hH : s.heap = H at V ⊢
  clear hH
  have hl : lv_has ls 2 [(0, .ref a0)] := hl
  generalize hlo : ([] : List Loc) = locs at V ⊢
  clear hlo
  refine lv_iconst (v := (nI 0)) hx hb dX5_layUntoldRopes_0 (by decide +kernel) ?_
  refine lv_istore_n (lv' := [(1, .int (nI 0)), (0, .ref a0)]) hx hb dX5_layUntoldRopes_1 rfl hl (by decide) rfl (fun ls hl => ?_)
  have L_1 : ∀ (fu : Nat) (k : Nat) (g : Nat → Int32), k ≤ an → (∀ i, i < an → (bd (g i) an ∨ (g i = -1 ∧ k ≤ i))) → (∀ i, i < k → g i = layV an (af9 i) i) → (∀ i, k ≤ i → g i = af9 i) → an - k < fu → ∀ (H : Heap) (locs : List Loc) (ls : Array Slot), gW D T A s [(a0, .inr (5, [.int (nI an), .int am, .int al, .int ao, .int au, .ref a1, .ref a2, .ref a3, .ref a4, .ref a5, .ref a6, .ref a7, .ref a8, .ref a9, .ref a10])), (a9, .inl (T 0, 10, .inl g))] H locs → lv_has ls 2 [(1, .int (nI k)), (0, .ref a0)] → W p l e (rmD 0 0 0) s m args below meth c H locs 0 0 (MQ below (gQ D A (q_s_lay_f T a0 an am al ao au a1 a2 a3 a4 a5 a6 a7 a8 a9 a10 af9)) args s 0 0 A) (F0 m 2 ls []) := by
    intro fu_2
    induction fu_2 with
    | zero => intro k g hk hg hv hu hmu; exact absurd hmu (Nat.not_lt_zero _)
    | succ fu_2 ih_2 =>
      intro k g hk hg hv hu hmu_2 H locs ls V hl
      refine lv_iload_n hx hb dX5_layUntoldRopes_2 rfl (lv_at hl 0 rfl) ?_
      refine lv_aload_n hx hb dX5_layUntoldRopes_3 rfl (lv_at hl 1 rfl) ?_
      refine g_get hC V (ci := 5) uwX5 0 rfl rfl 0 (by decide) w_33 rfl rfl dX5_layUntoldRopes_4 ?_
      refine lv_icmp_ge (tgt := 49) hx hb dX5_layUntoldRopes_7 (by decide) (fun c_2 => ?_) (fun c_2 => ?_)
      · skip
        have c_2 := b_le (by omega) (by omega) c_2
        exact g_vret (Qr := (q_s_lay_f T a0 an am al ao au a1 a2 a3 a4 a5 a6 a7 a8 a9 a10 af9)) hC V ⟨(Nat.le_of_ble_eq_true rfl), (Nat.le_of_ble_eq_true rfl)⟩ ⟨g, rfl, rfl, (fun i h => (hg i h).elim id (fun e => absurd e.2 (by omega))), (fun i h => hv i (by omega))⟩ dX5_layUntoldRopes_49
      · skip
        have c_2 := b_nle (by omega) (by omega) c_2
        refine lv_aload_n hx hb dX5_layUntoldRopes_10 rfl (lv_at hl 1 rfl) ?_
        refine g_get hC V (ci := 5) uwX5 0 rfl rfl 13 (by decide) w_82 rfl rfl dX5_layUntoldRopes_11 ?_
        refine lv_iload_n hx hb dX5_layUntoldRopes_14 rfl (lv_at hl 0 rfl) ?_
        refine g_iald hC V 1 rfl (vp_in_nI (by omega) (by omega)) (v := (g k)) (congrArg _ (nI_clamp (by omega))) dX5_layUntoldRopes_15 ?_
        refine lv_iconst (v := (-1)) hx hb dX5_layUntoldRopes_16 (by decide +kernel) ?_
        refine lv_icmp_ne (tgt := 43) hx hb dX5_layUntoldRopes_17 (by decide) (fun c_3 => ?_) (fun c_3 => ?_)
        · skip
          have hs := lay_skip hg c_3
          refine lv_iinc (v := (nI (k + 1))) (lv' := [(1, .int (nI (k + 1))), (0, .ref a0)]) hx hb dX5_layUntoldRopes_43 hl (k := 0) rfl (nI_1 _) (by decide) rfl (fun ls hl => ?_)
          refine lv_goto (tgt := 2) hx hb dX5_layUntoldRopes_46 (by decide) ?_
          exact ih_2 (k + 1) g (by omega) hs (lv_s hv (hu k (Nat.le_refl _)) c_3) (fun i hi => hu i (by omega)) (by omega) _ _ _ V (lv_sub hl [0, 1] rfl)
        · skip
          refine lv_aload_n hx hb dX5_layUntoldRopes_20 rfl (lv_at hl 1 rfl) ?_
          refine g_get hC V (ci := 5) uwX5 0 rfl rfl 13 (by decide) w_82 rfl rfl dX5_layUntoldRopes_21 ?_
          refine lv_iload_n hx hb dX5_layUntoldRopes_24 rfl (lv_at hl 0 rfl) ?_
          refine lv_iload_n hx hb dX5_layUntoldRopes_25 rfl (lv_at hl 0 rfl) ?_
          refine lv_iconst (v := (nI 1)) hx hb dX5_layUntoldRopes_26 (by decide +kernel) ?_
          refine lv_iadd hx hb dX5_layUntoldRopes_27 ?_
          refine g_vi (y := (nI (k + 1))) (nI_add _ _) ?_
          refine lv_aload_n hx hb dX5_layUntoldRopes_28 rfl (lv_at hl 1 rfl) ?_
          refine g_get hC V (ci := 5) uwX5 0 rfl rfl 0 (by decide) w_33 rfl rfl dX5_layUntoldRopes_29 ?_
          refine lv_icmp_ge (tgt := 41) hx hb dX5_layUntoldRopes_32 (by decide) (fun c_4 => ?_) (fun c_4 => ?_)
          · skip
            have c_4 := b_le (by omega) (by omega) c_4
            have hs := lay_put hg (bd_nI (j := 0) (b := an) (by omega))
            refine lv_iconst (v := (nI 0)) hx hb dX5_layUntoldRopes_41 (by decide +kernel) ?_
            refine g_iast hC V 1 rfl (vp_in_nI (by omega) (by omega)) (f' := (upd g k (nI 0))) (by rw [nI_clamp (by omega)]) (ws' := [(a0, .inr (5, [.int (nI an), .int am, .int al, .int ao, .int au, .ref a1, .ref a2, .ref a3, .ref a4, .ref a5, .ref a6, .ref a7, .ref a8, .ref a9, .ref a10])), (a9, .inl (T 0, 10, .inl (upd g k (nI 0))))]) rfl dX5_layUntoldRopes_42 (fun H locs V => ?_)
            refine lv_iinc (v := (nI (k + 1))) (lv' := [(1, .int (nI (k + 1))), (0, .ref a0)]) hx hb dX5_layUntoldRopes_43 hl (k := 0) rfl (nI_1 _) (by decide) rfl (fun ls hl => ?_)
            refine lv_goto (tgt := 2) hx hb dX5_layUntoldRopes_46 (by decide) ?_
            exact ih_2 (k + 1) (upd g k (nI 0)) (by omega) hs (lv_p hv (lay_2 ((hu k (Nat.le_refl _)).symm.trans c_3) (by omega))) (fun i hi => (up_other (by omega)).trans (hu i (by omega))) (by omega) _ _ _ V (lv_sub hl [0, 1] rfl)
          · skip
            have c_4 := b_nle (by omega) (by omega) c_4
            have hs := lay_put hg (bd_nI (j := k + 1) (b := an) (by omega))
            refine lv_iload_n hx hb dX5_layUntoldRopes_35 rfl (lv_at hl 0 rfl) ?_
            refine lv_iconst (v := (nI 1)) hx hb dX5_layUntoldRopes_36 (by decide +kernel) ?_
            refine lv_iadd hx hb dX5_layUntoldRopes_37 ?_
            refine g_vi (y := (nI (k + 1))) (nI_add _ _) ?_
            refine lv_goto (tgt := 42) hx hb dX5_layUntoldRopes_38 (by decide) ?_
            refine g_iast hC V 1 rfl (vp_in_nI (by omega) (by omega)) (f' := (upd g k (nI (k + 1)))) (by rw [nI_clamp (by omega)]) (ws' := [(a0, .inr (5, [.int (nI an), .int am, .int al, .int ao, .int au, .ref a1, .ref a2, .ref a3, .ref a4, .ref a5, .ref a6, .ref a7, .ref a8, .ref a9, .ref a10])), (a9, .inl (T 0, 10, .inl (upd g k (nI (k + 1)))))]) rfl dX5_layUntoldRopes_42 (fun H locs V => ?_)
            refine lv_iinc (v := (nI (k + 1))) (lv' := [(1, .int (nI (k + 1))), (0, .ref a0)]) hx hb dX5_layUntoldRopes_43 hl (k := 0) rfl (nI_1 _) (by decide) rfl (fun ls hl => ?_)
            refine lv_goto (tgt := 2) hx hb dX5_layUntoldRopes_46 (by decide) ?_
            exact ih_2 (k + 1) (upd g k (nI (k + 1))) (by omega) hs (lv_p hv (lay_1 ((hu k (Nat.le_refl _)).symm.trans c_3) (by omega))) (fun i hi => (up_other (by omega)).trans (hu i (by omega))) (by omega) _ _ _ V (lv_sub hl [0, 1] rfl)
  exact L_1 _ 0 af9 (by omega) (fun i h => (h_o i h).elim Or.inl (fun e => Or.inr ⟨e, Nat.zero_le _⟩)) (fun i h => absurd h (Nat.not_lt_zero _)) (fun _ _ => rfl) (Nat.lt_succ_self _) _ _ _ V (lv_sub hl [0, 1] rfl)

def q_f_readStreet (T : Nat → ClassId) (ft : Nat → Int32) (ff : Nat → Int32) (nu0 : Int32) (wa0 : Int32) (t0 : Nat) (n : Nat) (a0 : Nat) (tf : Nat) (tu : Int32) (tl : Int32) (t1 : Nat) (te : Int32) (tk : Int32) (tr : Int32) (tb : Int32) (tx : Nat → Int32) (an : Int32) (am : Int32) (al : Int32) (ao : Int32) (au : Int32) (a1 : Nat) (a2 : Nat) (a3 : Nat) (a4 : Nat) (a5 : Nat) (a6 : Nat) (a7 : Nat) (a8 : Nat) (a9 : Nat) (a10 : Nat) (af1 : Nat → Int32) (af2 : Nat → Int32) (af3 : Nat → Int32) (af4 : Nat → Int32) (af5 : Nat → Int32) (af6 : Nat → Int32) (af7 : Nat → Int32) (af8 : Nat → Int32) (af9 : Nat → Int32) : Option Value → va_W → Prop := fun rr ww => (∃ (s_ : RLs) (n2 : Nat) (l3 : Int32) (o3 : Int32) (g1 : Nat → Int32) (g2 : Nat → Int32) (g3 : Nat → Int32) (g4 : Nat → Int32) (g5 : Nat → Int32) (g6 : Nat → Int32) (g7 : Nat → Int32) (g8 : Nat → Int32) (g9 : Nat → Int32), rr = none ∧ ww = [(t0, .inr (2, [.int (nI 0), .int (nI (cF s_.2.1)), .int (cP s_.2.1), .ref t1, .int (nI n), .int (nI (cK s_.2.1.2.2.1)), .int (nI s_.2.1.1), .int (nI s_.2.1.2.1)])), (t1, .inl (T 3, 900, .inl tx)), (a0, .inr (5, [.int (nI n2), .int (nI 0), .int l3, .int o3, .int (nI 0), .ref a1, .ref a2, .ref a3, .ref a4, .ref a5, .ref a6, .ref a7, .ref a8, .ref a9, .ref a10])), (a1, .inl (T 0, 10, .inl g1)), (a2, .inl (T 0, 10, .inl g2)), (a3, .inl (T 0, 10, .inl g3)), (a4, .inl (T 0, 10, .inl g4)), (a5, .inl (T 0, 10, .inl g5)), (a6, .inl (T 0, 10, .inl g6)), (a7, .inl (T 0, 10, .inl g7)), (a8, .inl (T 0, 10, .inl g8)), (a9, .inl (T 0, 10, .inl g9))] ∧ n2 ≤ 10 ∧ (∀ i, i < n2 → bd (g9 i) n2) ∧ FC ft n (0, nxS ft n (0, 0, 0, nu0, 0, wa0), frI ff) s_ ∧ RsE s_ n2 g1 g2 g3 g4 g5 g6 g7 g9 o3 l3)
set_option maxHeartbeats 4000000 in
set_option maxRecDepth 100000 in
theorem f_readStreet (l : Launch) (D : va_G) (T : Nat → ClassId) (ft : Nat → Int32) (ff : Nat → Int32) (nu0 : Int32) (wa0 : Int32) (t0 : Nat) (n : Nat) (a0 : Nat) (tf : Nat) (tu : Int32) (tl : Int32) (t1 : Nat) (te : Int32) (tk : Int32) (tr : Int32) (tb : Int32) (tx : Nat → Int32) (an : Int32) (am : Int32) (al : Int32) (ao : Int32) (au : Int32) (a1 : Nat) (a2 : Nat) (a3 : Nat) (a4 : Nat) (a5 : Nat) (a6 : Nat) (a7 : Nat) (a8 : Nat) (a9 : Nat) (a10 : Nat) (af1 : Nat → Int32) (af2 : Nat → Int32) (af3 : Nat → Int32) (af4 : Nat → Int32) (af5 : Nat → Int32) (af6 : Nat → Int32) (af7 : Nat → Int32) (af8 : Nat → Int32) (af9 : Nat → Int32) (h_nf : n ≤ tf) (h_tf : tf ≤ 900) (h_tx : TXT n tx ft) : Ct l yX2_readStreet cX2_readStreet 4 none 7 0 0 D T [.ref t0, .int (nI n), .ref a0] [(t0, .inr (2, [.int (nI tf), .int tu, .int tl, .ref t1, .int te, .int tk, .int tr, .int tb])), (t1, .inl (T 3, 900, .inl tx)), (a0, .inr (5, [.int an, .int am, .int al, .int ao, .int au, .ref a1, .ref a2, .ref a3, .ref a4, .ref a5, .ref a6, .ref a7, .ref a8, .ref a9, .ref a10])), (a1, .inl (T 0, 10, .inl af1)), (a2, .inl (T 0, 10, .inl af2)), (a3, .inl (T 0, 10, .inl af3)), (a4, .inl (T 0, 10, .inl af4)), (a5, .inl (T 0, 10, .inl af5)), (a6, .inl (T 0, 10, .inl af6)), (a7, .inl (T 0, 10, .inl af7)), (a8, .inl (T 0, 10, .inl af8)), (a9, .inl (T 0, 10, .inl af9))] (q_f_readStreet T ft ff nu0 wa0 t0 n a0 tf tu tl t1 te tk tr tb tx an am al ao au a1 a2 a3 a4 a5 a6 a7 a8 a9 a10 af1 af2 af3 af4 af5 af6 af7 af8 af9) := by
  refine Ct.of (cc := cX2_readStreet) (maxL := 4) (ret := none) (by decide) (Nat.le_of_ble_eq_true rfl) ?_
  intro p e s m args below meth c A ls hC hnm V hl
  obtain ⟨hx, hb, hr, hml, hown, hts, hlocks⟩ := id hC
  generalize hH : s.heap = H at V ⊢
  clear hH
  have hl : lv_has ls 4 [(0, .ref t0), (1, .int (nI n)), (2, .ref a0)] := hl
  generalize hlo : ([] : List Loc) = locs at V ⊢
  clear hlo
  have hP0s : PI ft n (nxS ft n (0, 0, 0, nu0, 0, wa0)) := PI_nx (Nat.zero_le _) (Nat.zero_le _)
  refine lv_aload_n hx hb dX2_readStreet_0 rfl (lv_at hl 0 rfl) ?_
  refine lv_iload_n hx hb dX2_readStreet_1 rfl (lv_at hl 1 rfl) ?_
  refine lv_aload_n hx hb dX2_readStreet_2 rfl (lv_at hl 0 rfl) ?_
  refine g_get hC V (ci := 2) uwX2 0 rfl rfl 0 (by decide) w_129 rfl rfl dX2_readStreet_3 ?_
  refine va_mmin hx hb (hml.trans hl.1.symm) hown (hts _ w_299) (hts _ w_300) (hts _ w_10) (hts _ w_301) (Nat.le_of_ble_eq_true rfl) (Nat.le_of_ble_eq_true rfl) (Nat.le_of_ble_eq_true rfl) (Nat.le_of_ble_eq_true rfl) dX2_readStreet_6 ?_
  refine g_vi (y := (nI n)) (by rw [min_nI (by omega) (by omega), Nat.min_eq_left (by omega)]) ?_
  refine g_put hC V (ci := 2) uwX2 tyX2 tyX2_ok nmX2 0 rfl rfl 4 (by decide) w_135 rfl rfl rfl rfl (Nat.le_of_ble_eq_true rfl) (ws' := [(t0, .inr (2, [.int (nI tf), .int tu, .int tl, .ref t1, .int (nI n), .int tk, .int tr, .int tb])), (t1, .inl (T 3, 900, .inl tx)), (a0, .inr (5, [.int an, .int am, .int al, .int ao, .int au, .ref a1, .ref a2, .ref a3, .ref a4, .ref a5, .ref a6, .ref a7, .ref a8, .ref a9, .ref a10])), (a1, .inl (T 0, 10, .inl af1)), (a2, .inl (T 0, 10, .inl af2)), (a3, .inl (T 0, 10, .inl af3)), (a4, .inl (T 0, 10, .inl af4)), (a5, .inl (T 0, 10, .inl af5)), (a6, .inl (T 0, 10, .inl af6)), (a7, .inl (T 0, 10, .inl af7)), (a8, .inl (T 0, 10, .inl af8)), (a9, .inl (T 0, 10, .inl af9))]) rfl dX2_readStreet_9 (fun H locs V => ?_)
  refine lv_aload_n hx hb dX2_readStreet_12 rfl (lv_at hl 0 rfl) ?_
  refine lv_iconst (v := (nI 0)) hx hb dX2_readStreet_13 (by decide +kernel) ?_
  refine g_put hC V (ci := 2) uwX2 tyX2 tyX2_ok nmX2 0 rfl rfl 0 (by decide) w_129 rfl rfl rfl rfl (Nat.le_of_ble_eq_true rfl) (ws' := [(t0, .inr (2, [.int (nI 0), .int tu, .int tl, .ref t1, .int (nI n), .int tk, .int tr, .int tb])), (t1, .inl (T 3, 900, .inl tx)), (a0, .inr (5, [.int an, .int am, .int al, .int ao, .int au, .ref a1, .ref a2, .ref a3, .ref a4, .ref a5, .ref a6, .ref a7, .ref a8, .ref a9, .ref a10])), (a1, .inl (T 0, 10, .inl af1)), (a2, .inl (T 0, 10, .inl af2)), (a3, .inl (T 0, 10, .inl af3)), (a4, .inl (T 0, 10, .inl af4)), (a5, .inl (T 0, 10, .inl af5)), (a6, .inl (T 0, 10, .inl af6)), (a7, .inl (T 0, 10, .inl af7)), (a8, .inl (T 0, 10, .inl af8)), (a9, .inl (T 0, 10, .inl af9))]) rfl dX2_readStreet_14 (fun H locs V => ?_)
  refine lv_aload_n hx hb dX2_readStreet_17 rfl (lv_at hl 0 rfl) ?_
  refine lv_iconst (v := (nI 0)) hx hb dX2_readStreet_18 (by decide +kernel) ?_
  refine g_put hC V (ci := 2) uwX2 tyX2 tyX2_ok nmX2 0 rfl rfl 7 (by decide) w_138 rfl rfl rfl rfl (Nat.le_of_ble_eq_true rfl) (ws' := [(t0, .inr (2, [.int (nI 0), .int tu, .int tl, .ref t1, .int (nI n), .int tk, .int tr, .int (nI 0)])), (t1, .inl (T 3, 900, .inl tx)), (a0, .inr (5, [.int an, .int am, .int al, .int ao, .int au, .ref a1, .ref a2, .ref a3, .ref a4, .ref a5, .ref a6, .ref a7, .ref a8, .ref a9, .ref a10])), (a1, .inl (T 0, 10, .inl af1)), (a2, .inl (T 0, 10, .inl af2)), (a3, .inl (T 0, 10, .inl af3)), (a4, .inl (T 0, 10, .inl af4)), (a5, .inl (T 0, 10, .inl af5)), (a6, .inl (T 0, 10, .inl af6)), (a7, .inl (T 0, 10, .inl af7)), (a8, .inl (T 0, 10, .inl af8)), (a9, .inl (T 0, 10, .inl af9))]) rfl dX2_readStreet_19 (fun H locs V => ?_)
  refine lv_aload_n hx hb dX2_readStreet_22 rfl (lv_at hl 0 rfl) ?_
  refine lv_iconst (v := (nI 0)) hx hb dX2_readStreet_23 (by decide +kernel) ?_
  refine g_put hC V (ci := 2) uwX2 tyX2 tyX2_ok nmX2 0 rfl rfl 1 (by decide) w_130 rfl rfl rfl rfl (Nat.le_of_ble_eq_true rfl) (ws' := [(t0, .inr (2, [.int (nI 0), .int (nI 0), .int tl, .ref t1, .int (nI n), .int tk, .int tr, .int (nI 0)])), (t1, .inl (T 3, 900, .inl tx)), (a0, .inr (5, [.int an, .int am, .int al, .int ao, .int au, .ref a1, .ref a2, .ref a3, .ref a4, .ref a5, .ref a6, .ref a7, .ref a8, .ref a9, .ref a10])), (a1, .inl (T 0, 10, .inl af1)), (a2, .inl (T 0, 10, .inl af2)), (a3, .inl (T 0, 10, .inl af3)), (a4, .inl (T 0, 10, .inl af4)), (a5, .inl (T 0, 10, .inl af5)), (a6, .inl (T 0, 10, .inl af6)), (a7, .inl (T 0, 10, .inl af7)), (a8, .inl (T 0, 10, .inl af8)), (a9, .inl (T 0, 10, .inl af9))]) rfl dX2_readStreet_24 (fun H locs V => ?_)
  refine lv_aload_n hx hb dX2_readStreet_27 rfl (lv_at hl 0 rfl) ?_
  refine lv_iconst (v := (-1)) hx hb dX2_readStreet_28 (by decide +kernel) ?_
  refine g_put hC V (ci := 2) uwX2 tyX2 tyX2_ok nmX2 0 rfl rfl 2 (by decide) w_132 rfl rfl rfl rfl (Nat.le_of_ble_eq_true rfl) (ws' := [(t0, .inr (2, [.int (nI 0), .int (nI 0), .int (-1), .ref t1, .int (nI n), .int tk, .int tr, .int (nI 0)])), (t1, .inl (T 3, 900, .inl tx)), (a0, .inr (5, [.int an, .int am, .int al, .int ao, .int au, .ref a1, .ref a2, .ref a3, .ref a4, .ref a5, .ref a6, .ref a7, .ref a8, .ref a9, .ref a10])), (a1, .inl (T 0, 10, .inl af1)), (a2, .inl (T 0, 10, .inl af2)), (a3, .inl (T 0, 10, .inl af3)), (a4, .inl (T 0, 10, .inl af4)), (a5, .inl (T 0, 10, .inl af5)), (a6, .inl (T 0, 10, .inl af6)), (a7, .inl (T 0, 10, .inl af7)), (a8, .inl (T 0, 10, .inl af8)), (a9, .inl (T 0, 10, .inl af9))]) rfl dX2_readStreet_29 (fun H locs V => ?_)
  refine lv_aload_n hx hb dX2_readStreet_32 rfl (lv_at hl 2 rfl) ?_
  refine g_callVU (nA := 0) hC V hl.1 (s_clear l D T a0 an am al ao au a1 a2 a3 a4 a5 a6 a7 a8 a9 a10) w_302 w_303 w_304 w_3 w_305 (by decide +kernel) rfl ⟨(Nat.le_of_ble_eq_true rfl), (Nat.le_of_ble_eq_true rfl)⟩ 2 (ci := 5) rfl rfl [2] rfl rfl (Nat.le_of_ble_eq_true rfl) dX2_readStreet_33 ⟨(Nat.le_of_ble_eq_true rfl), (Nat.le_of_ble_eq_true rfl)⟩ rfl (fun r w1 H locs hQ V => ?_)
  obtain ⟨rfl, rfl⟩ := hQ
  have V : gW D T A s [(t0, .inr (2, [.int (nI 0), .int (nI 0), .int (-1), .ref t1, .int (nI n), .int tk, .int tr, .int (nI 0)])), (t1, .inl (T 3, 900, .inl tx)), (a0, .inr (5, [.int (nI 0), .int (nI 0), .int (nI 0), .int (nI 20), .int (nI 0), .ref a1, .ref a2, .ref a3, .ref a4, .ref a5, .ref a6, .ref a7, .ref a8, .ref a9, .ref a10])), (a1, .inl (T 0, 10, .inl af1)), (a2, .inl (T 0, 10, .inl af2)), (a3, .inl (T 0, 10, .inl af3)), (a4, .inl (T 0, 10, .inl af4)), (a5, .inl (T 0, 10, .inl af5)), (a6, .inl (T 0, 10, .inl af6)), (a7, .inl (T 0, 10, .inl af7)), (a8, .inl (T 0, 10, .inl af8)), (a9, .inl (T 0, 10, .inl af9))] H locs := V _ [2] rfl rfl rfl (by decide +kernel) rfl
  show W p l e _ s m args below meth c H locs _ _ _ (F0 m 36 ls [])
  refine lv_aload_n hx hb dX2_readStreet_36 rfl (lv_at hl 2 rfl) ?_
  refine g_get hC V (ci := 5) uwX5 2 rfl rfl 13 (by decide) w_83 rfl rfl dX2_readStreet_37 ?_
  refine lv_iconst (v := (-1)) hx hb dX2_readStreet_40 (by decide +kernel) ?_
  refine g_callSU (nA := 2) hC V hl.1 (c_fill10 l D T a9 (-1) af9) w_306 w_307 w_11 w_308 (by decide +kernel) rfl ⟨(Nat.le_of_ble_eq_true rfl), (Nat.le_of_ble_eq_true rfl)⟩ [11] rfl rfl (Nat.le_of_ble_eq_true rfl) dX2_readStreet_41 ⟨(Nat.le_of_ble_eq_true rfl), (Nat.le_of_ble_eq_true rfl)⟩ rfl (fun r w1 H locs hQ V => ?_)
  obtain ⟨gf, rfl, rfl, f_1⟩ := hQ
  have V : gW D T A s [(t0, .inr (2, [.int (nI 0), .int (nI 0), .int (-1), .ref t1, .int (nI n), .int tk, .int tr, .int (nI 0)])), (t1, .inl (T 3, 900, .inl tx)), (a0, .inr (5, [.int (nI 0), .int (nI 0), .int (nI 0), .int (nI 20), .int (nI 0), .ref a1, .ref a2, .ref a3, .ref a4, .ref a5, .ref a6, .ref a7, .ref a8, .ref a9, .ref a10])), (a1, .inl (T 0, 10, .inl af1)), (a2, .inl (T 0, 10, .inl af2)), (a3, .inl (T 0, 10, .inl af3)), (a4, .inl (T 0, 10, .inl af4)), (a5, .inl (T 0, 10, .inl af5)), (a6, .inl (T 0, 10, .inl af6)), (a7, .inl (T 0, 10, .inl af7)), (a8, .inl (T 0, 10, .inl af8)), (a9, .inl (T 0, 10, .inl gf))] H locs := V _ [11] rfl rfl rfl (by decide +kernel) rfl
  show W p l e _ s m args below meth c H locs _ _ _ (F0 m 44 ls [])
  have hft : ∀ i, i < 10 → (bd (gf i) 0 ∨ gf i = -1) := fun i h => Or.inr (f_1 i h)
  have hgf := f_1
  refine lv_aload_n hx hb dX2_readStreet_44 rfl (lv_at hl 0 rfl) ?_
  refine g_callVU (nA := 0) hC V hl.1 (f_nextToken l D T ft nu0 wa0 t0 (nI 0) 0 (-1) t1 n tk tr 0 tx (by first | assumption | omega) (by first | assumption | omega) (by omega) (by omega) rfl) w_309 w_311 w_s0 w_4 w_312 (by decide +kernel) rfl ⟨(Nat.le_of_ble_eq_true rfl), (Nat.le_of_ble_eq_true rfl)⟩ 0 (ci := 2) rfl rfl [0, 1] rfl rfl (Nat.le_of_ble_eq_true rfl) dX2_readStreet_45 ⟨(Nat.le_of_ble_eq_true rfl), (Nat.le_of_ble_eq_true rfl)⟩ rfl (fun r w1 H locs hQ V => ?_)
  obtain ⟨p2_2, rfl, rfl, f_3⟩ := hQ
  have V : gW D T A s [(t0, .inr (2, [.int (nI 0), .int (nI (cF p2_2)), .int (cP p2_2), .ref t1, .int (nI n), .int (nI (cK p2_2.2.2.1)), .int (nI p2_2.1), .int (nI p2_2.2.1)])), (t1, .inl (T 3, 900, .inl tx)), (a0, .inr (5, [.int (nI 0), .int (nI 0), .int (nI 0), .int (nI 20), .int (nI 0), .ref a1, .ref a2, .ref a3, .ref a4, .ref a5, .ref a6, .ref a7, .ref a8, .ref a9, .ref a10])), (a1, .inl (T 0, 10, .inl af1)), (a2, .inl (T 0, 10, .inl af2)), (a3, .inl (T 0, 10, .inl af3)), (a4, .inl (T 0, 10, .inl af4)), (a5, .inl (T 0, 10, .inl af5)), (a6, .inl (T 0, 10, .inl af6)), (a7, .inl (T 0, 10, .inl af7)), (a8, .inl (T 0, 10, .inl af8)), (a9, .inl (T 0, 10, .inl gf))] H locs := V _ [0, 0] rfl rfl rfl (by decide +kernel) rfl
  show W p l e _ s m args below meth c H locs _ _ _ (F0 m 48 ls [])
  have hP0 : PI ft n p2_2 := by rw [f_3]; exact PI_nx (Nat.zero_le _) (Nat.zero_le _)
  obtain ⟨_, _, _, _, -⟩ := id hP0
  have hi0 : (0, p2_2, frI ff) = itS ft n (0, nxS ft n (0, 0, 0, nu0, 0, wa0), frI ff) 0 := by rw [f_3]; rfl
  refine lv_iconst (v := (nI 0)) hx hb dX2_readStreet_48 (by decide +kernel) ?_
  refine lv_istore_n (lv' := [(3, .int (nI 0)), (0, .ref t0), (1, .int (nI n)), (2, .ref a0)]) hx hb dX2_readStreet_49 rfl hl (by decide) rfl (fun ls hl => ?_)
  have L_4 : ∀ (fu : Nat) (k : Nat) (nv : Nat) (liv : Int32) (lov : Int32) (b1 : Nat → Int32) (b2_ : Nat → Int32) (b3 : Nat → Int32) (b4 : Nat → Int32) (b5 : Nat → Int32) (b6 : Nat → Int32) (b7 : Nat → Int32) (b8 : Nat → Int32) (b9 : Nat → Int32) (pq : PS) (nq : Nat) (fq : Nat → Int32), k ≤ n + 1 → nv ≤ 10 → (∀ i, i < 10 → (bd (b9 i) nv ∨ b9 i = -1)) → (nq, pq, fq) = itS ft n (0, nxS ft n (0, 0, 0, nu0, 0, wa0), frI ff) k → (∀ j, j < k → ¬ cst (itS ft n (0, nxS ft n (0, 0, 0, nu0, 0, wa0), frI ff) j)) → PI ft n pq → (cF pq = 0 → nv = nq ∧ RF nq fq b1 b2_ b3 b4 b5 b6 b7 b9 lov liv) → n + 1 - k < fu → ∀ (H : Heap) (locs : List Loc) (ls : Array Slot), gW D T A s [(t0, .inr (2, [.int (nI 0), .int (nI (cF pq)), .int (cP pq), .ref t1, .int (nI n), .int (nI (cK pq.2.2.1)), .int (nI pq.1), .int (nI pq.2.1)])), (t1, .inl (T 3, 900, .inl tx)), (a0, .inr (5, [.int (nI nv), .int (nI 0), .int liv, .int lov, .int (nI 0), .ref a1, .ref a2, .ref a3, .ref a4, .ref a5, .ref a6, .ref a7, .ref a8, .ref a9, .ref a10])), (a1, .inl (T 0, 10, .inl b1)), (a2, .inl (T 0, 10, .inl b2_)), (a3, .inl (T 0, 10, .inl b3)), (a4, .inl (T 0, 10, .inl b4)), (a5, .inl (T 0, 10, .inl b5)), (a6, .inl (T 0, 10, .inl b6)), (a7, .inl (T 0, 10, .inl b7)), (a8, .inl (T 0, 10, .inl b8)), (a9, .inl (T 0, 10, .inl b9))] H locs → lv_has ls 4 [(3, .int (nI k)), (0, .ref t0), (1, .int (nI n)), (2, .ref a0)] → W p l e (rmD 7 0 0) s m args below meth c H locs 0 0 (MQ below (gQ D A (q_f_readStreet T ft ff nu0 wa0 t0 n a0 tf tu tl t1 te tk tr tb tx an am al ao au a1 a2 a3 a4 a5 a6 a7 a8 a9 a10 af1 af2 af3 af4 af5 af6 af7 af8 af9)) args s 0 0 A) (F0 m 50 ls []) := by
    intro fu_50
    induction fu_50 with
    | zero => intro k nv liv lov b1 b2_ b3 b4 b5 b6 b7 b8 b9 pq nq fq hk hnv hto hit hns hP hRF hmu; exact absurd hmu (Nat.not_lt_zero _)
    | succ fu_50 ih_50 =>
      intro k nv liv lov b1 b2_ b3 b4 b5 b6 b7 b8 b9 pq nq fq hk hnv hto hit hns hP hRF hmu_50 H locs ls V hl
      obtain ⟨_, _, _, _, -⟩ := id hP
      have hcf1 := cF_le (p := pq) (by omega)
      have hck1 := cK_le pq.2.2.1
      refine lv_iload_n hx hb dX2_readStreet_50 rfl (lv_at hl 0 rfl) ?_
      refine lv_aload_n hx hb dX2_readStreet_51 rfl (lv_at hl 1 rfl) ?_
      refine g_get hC V (ci := 2) uwX2 0 rfl rfl 4 (by decide) w_135 rfl rfl dX2_readStreet_52 ?_
      refine lv_icmp_gt (tgt := 150) hx hb dX2_readStreet_55 (by decide) (fun c_5 => ?_) (fun c_5 => ?_)
      · skip
        have c_5 := b_lt (by omega) (by omega) c_5
        refine lv_aload_n hx hb dX2_readStreet_150 rfl (lv_at hl 3 rfl) ?_
        refine g_callVU (nA := 0) hC V hl.1 (s_lay_f l D T a0 nv (nI 0) liv lov (nI 0) a1 a2 a3 a4 a5 a6 a7 a8 a9 a10 b9 hnv (fun i h => hto i (by omega))) w_409 w_410 w_411 w_3 w_412 (by decide +kernel) rfl ⟨(Nat.le_of_ble_eq_true rfl), (Nat.le_of_ble_eq_true rfl)⟩ 2 (ci := 5) rfl rfl [2, 11] rfl rfl (Nat.le_of_ble_eq_true rfl) dX2_readStreet_151 ⟨(Nat.le_of_ble_eq_true rfl), (Nat.le_of_ble_eq_true rfl)⟩ rfl (fun r w1 H locs hQ V => ?_)
        obtain ⟨g_6, rfl, rfl, f_7, f_8⟩ := hQ
        have V : gW D T A s [(t0, .inr (2, [.int (nI 0), .int (nI (cF pq)), .int (cP pq), .ref t1, .int (nI n), .int (nI (cK pq.2.2.1)), .int (nI pq.1), .int (nI pq.2.1)])), (t1, .inl (T 3, 900, .inl tx)), (a0, .inr (5, [.int (nI nv), .int (nI 0), .int liv, .int lov, .int (nI 0), .ref a1, .ref a2, .ref a3, .ref a4, .ref a5, .ref a6, .ref a7, .ref a8, .ref a9, .ref a10])), (a1, .inl (T 0, 10, .inl b1)), (a2, .inl (T 0, 10, .inl b2_)), (a3, .inl (T 0, 10, .inl b3)), (a4, .inl (T 0, 10, .inl b4)), (a5, .inl (T 0, 10, .inl b5)), (a6, .inl (T 0, 10, .inl b6)), (a7, .inl (T 0, 10, .inl b7)), (a8, .inl (T 0, 10, .inl b8)), (a9, .inl (T 0, 10, .inl g_6))] H locs := V _ [2, 8] rfl rfl rfl (by decide +kernel) rfl
        show W p l e _ s m args below meth c H locs _ _ _ (F0 m 154 ls [])
        exact g_vret (Qr := (q_f_readStreet T ft ff nu0 wa0 t0 n a0 tf tu tl t1 te tk tr tb tx an am al ao au a1 a2 a3 a4 a5 a6 a7 a8 a9 a10 af1 af2 af3 af4 af5 af6 af7 af8 af9)) hC V ⟨(Nat.le_of_ble_eq_true rfl), (Nat.le_of_ble_eq_true rfl)⟩ ⟨(nq, pq, fq), nv, liv, lov, b1, b2_, b3, b4, b5, b6, b7, b8, g_6, rfl, rfl, hnv, (by assumption), ⟨k, hit, (cst_long trivial hP0s hit hns (by omega) hP), hns⟩, (fun h => by obtain ⟨q1, q2⟩ := hRF h; exact ⟨q1, hnv, b9, q2, by assumption⟩)⟩ dX2_readStreet_154
      · skip
        have c_5 := b_nlt (by omega) (by omega) c_5
        refine lv_aload_n hx hb dX2_readStreet_58 rfl (lv_at hl 1 rfl) ?_
        refine g_get hC V (ci := 2) uwX2 0 rfl rfl 1 (by decide) w_130 rfl rfl dX2_readStreet_59 ?_
        refine lv_if_ne (tgt := 150) hx hb dX2_readStreet_62 (by decide) (fun c_9 => ?_) (fun c_9 => ?_)
        · skip
          rw [show (0 : Int32) = nI 0 from rfl] at c_9
          have c_9 := b_ne (by omega) (by omega) c_9
          refine lv_aload_n hx hb dX2_readStreet_150 rfl (lv_at hl 3 rfl) ?_
          refine g_callVU (nA := 0) hC V hl.1 (s_lay_f l D T a0 nv (nI 0) liv lov (nI 0) a1 a2 a3 a4 a5 a6 a7 a8 a9 a10 b9 hnv (fun i h => hto i (by omega))) w_409 w_410 w_411 w_3 w_412 (by decide +kernel) rfl ⟨(Nat.le_of_ble_eq_true rfl), (Nat.le_of_ble_eq_true rfl)⟩ 2 (ci := 5) rfl rfl [2, 11] rfl rfl (Nat.le_of_ble_eq_true rfl) dX2_readStreet_151 ⟨(Nat.le_of_ble_eq_true rfl), (Nat.le_of_ble_eq_true rfl)⟩ rfl (fun r w1 H locs hQ V => ?_)
          obtain ⟨g_10, rfl, rfl, f_11, f_12⟩ := hQ
          have V : gW D T A s [(t0, .inr (2, [.int (nI 0), .int (nI (cF pq)), .int (cP pq), .ref t1, .int (nI n), .int (nI (cK pq.2.2.1)), .int (nI pq.1), .int (nI pq.2.1)])), (t1, .inl (T 3, 900, .inl tx)), (a0, .inr (5, [.int (nI nv), .int (nI 0), .int liv, .int lov, .int (nI 0), .ref a1, .ref a2, .ref a3, .ref a4, .ref a5, .ref a6, .ref a7, .ref a8, .ref a9, .ref a10])), (a1, .inl (T 0, 10, .inl b1)), (a2, .inl (T 0, 10, .inl b2_)), (a3, .inl (T 0, 10, .inl b3)), (a4, .inl (T 0, 10, .inl b4)), (a5, .inl (T 0, 10, .inl b5)), (a6, .inl (T 0, 10, .inl b6)), (a7, .inl (T 0, 10, .inl b7)), (a8, .inl (T 0, 10, .inl b8)), (a9, .inl (T 0, 10, .inl g_10))] H locs := V _ [2, 8] rfl rfl rfl (by decide +kernel) rfl
          show W p l e _ s m args below meth c H locs _ _ _ (F0 m 154 ls [])
          exact g_vret (Qr := (q_f_readStreet T ft ff nu0 wa0 t0 n a0 tf tu tl t1 te tk tr tb tx an am al ao au a1 a2 a3 a4 a5 a6 a7 a8 a9 a10 af1 af2 af3 af4 af5 af6 af7 af8 af9)) hC V ⟨(Nat.le_of_ble_eq_true rfl), (Nat.le_of_ble_eq_true rfl)⟩ ⟨(nq, pq, fq), nv, liv, lov, b1, b2_, b3, b4, b5, b6, b7, b8, g_10, rfl, rfl, hnv, (by assumption), ⟨k, hit, (Or.inl (by show ¬ cF pq = 0; omega)), hns⟩, (fun h => by obtain ⟨q1, q2⟩ := hRF h; exact ⟨q1, hnv, b9, q2, by assumption⟩)⟩ dX2_readStreet_154
        · skip
          rw [show (0 : Int32) = nI 0 from rfl] at c_9
          have c_9 := b_eq (by omega) (by omega) c_9
          have hc0 := c_9
          obtain ⟨env, hR⟩ := hRF hc0
          subst env
          refine lv_aload_n hx hb dX2_readStreet_65 rfl (lv_at hl 1 rfl) ?_
          refine g_get hC V (ci := 2) uwX2 0 rfl rfl 5 (by decide) w_136 rfl rfl dX2_readStreet_66 ?_
          refine lv_iconst (v := (nI 5)) hx hb dX2_readStreet_69 (by decide +kernel) ?_
          refine lv_icmp_eq (tgt := 150) hx hb dX2_readStreet_70 (by decide) (fun c_13 => ?_) (fun c_13 => ?_)
          · skip
            have c_13 := b_eq (by omega) (by omega) c_13
            refine lv_aload_n hx hb dX2_readStreet_150 rfl (lv_at hl 3 rfl) ?_
            refine g_callVU (nA := 0) hC V hl.1 (s_lay_f l D T a0 nv (nI 0) liv lov (nI 0) a1 a2 a3 a4 a5 a6 a7 a8 a9 a10 b9 hnv (fun i h => hto i (by omega))) w_409 w_410 w_411 w_3 w_412 (by decide +kernel) rfl ⟨(Nat.le_of_ble_eq_true rfl), (Nat.le_of_ble_eq_true rfl)⟩ 2 (ci := 5) rfl rfl [2, 11] rfl rfl (Nat.le_of_ble_eq_true rfl) dX2_readStreet_151 ⟨(Nat.le_of_ble_eq_true rfl), (Nat.le_of_ble_eq_true rfl)⟩ rfl (fun r w1 H locs hQ V => ?_)
            obtain ⟨g_14, rfl, rfl, f_15, f_16⟩ := hQ
            have V : gW D T A s [(t0, .inr (2, [.int (nI 0), .int (nI (cF pq)), .int (cP pq), .ref t1, .int (nI n), .int (nI (cK pq.2.2.1)), .int (nI pq.1), .int (nI pq.2.1)])), (t1, .inl (T 3, 900, .inl tx)), (a0, .inr (5, [.int (nI nv), .int (nI 0), .int liv, .int lov, .int (nI 0), .ref a1, .ref a2, .ref a3, .ref a4, .ref a5, .ref a6, .ref a7, .ref a8, .ref a9, .ref a10])), (a1, .inl (T 0, 10, .inl b1)), (a2, .inl (T 0, 10, .inl b2_)), (a3, .inl (T 0, 10, .inl b3)), (a4, .inl (T 0, 10, .inl b4)), (a5, .inl (T 0, 10, .inl b5)), (a6, .inl (T 0, 10, .inl b6)), (a7, .inl (T 0, 10, .inl b7)), (a8, .inl (T 0, 10, .inl b8)), (a9, .inl (T 0, 10, .inl g_14))] H locs := V _ [2, 8] rfl rfl rfl (by decide +kernel) rfl
            show W p l e _ s m args below meth c H locs _ _ _ (F0 m 154 ls [])
            exact g_vret (Qr := (q_f_readStreet T ft ff nu0 wa0 t0 n a0 tf tu tl t1 te tk tr tb tx an am al ao au a1 a2 a3 a4 a5 a6 a7 a8 a9 a10 af1 af2 af3 af4 af5 af6 af7 af8 af9)) hC V ⟨(Nat.le_of_ble_eq_true rfl), (Nat.le_of_ble_eq_true rfl)⟩ ⟨(nv, pq, fq), nv, liv, lov, b1, b2_, b3, b4, b5, b6, b7, b8, g_14, rfl, rfl, hnv, (by assumption), ⟨k, hit, (Or.inr (by show pq.2.2.1 = 11; exact cK_5.mp (by omega))), hns⟩, (fun h => by obtain ⟨q1, q2⟩ := hRF h; exact ⟨q1, hnv, b9, q2, by assumption⟩)⟩ dX2_readStreet_154
          · skip
            have c_13 := b_ne (by omega) (by omega) c_13
            have hk11 : ¬ pq.2.2.1 = 11 := fun q => c_13 (cK_5.mpr q)
            refine lv_aload_n hx hb dX2_readStreet_73 rfl (lv_at hl 1 rfl) ?_
            refine g_ldcS hC V 0 rfl dX2_readStreet_74 ?_
            refine g_callVU (nA := 1) hC V hl.1 (f_isWord l D T 0 ft pq t0 (nI 0) t1 n tx (by first | assumption | omega) (by first | assumption | omega) (by first | assumption | omega) (by decide)) w_322 w_324 w_s3 w_4 w_325 (by decide +kernel) rfl ⟨(Nat.le_of_ble_eq_true rfl), (Nat.le_of_ble_eq_true rfl)⟩ 0 (ci := 2) rfl rfl [0, 1] rfl rfl (Nat.le_of_ble_eq_true rfl) dX2_readStreet_76 ⟨(Nat.le_of_ble_eq_true rfl), (Nat.le_of_ble_eq_true rfl)⟩ rfl (fun r w1 H locs hQ V => ?_)
            rcases hQ with ⟨rfl, rfl, f_17⟩ | ⟨rfl, rfl, f_18⟩
            · have V : gW D T A s [(t0, .inr (2, [.int (nI 0), .int (nI (cF pq)), .int (cP pq), .ref t1, .int (nI n), .int (nI (cK pq.2.2.1)), .int (nI pq.1), .int (nI pq.2.1)])), (t1, .inl (T 3, 900, .inl tx)), (a0, .inr (5, [.int (nI nv), .int (nI 0), .int liv, .int lov, .int (nI 0), .ref a1, .ref a2, .ref a3, .ref a4, .ref a5, .ref a6, .ref a7, .ref a8, .ref a9, .ref a10])), (a1, .inl (T 0, 10, .inl b1)), (a2, .inl (T 0, 10, .inl b2_)), (a3, .inl (T 0, 10, .inl b3)), (a4, .inl (T 0, 10, .inl b4)), (a5, .inl (T 0, 10, .inl b5)), (a6, .inl (T 0, 10, .inl b6)), (a7, .inl (T 0, 10, .inl b7)), (a8, .inl (T 0, 10, .inl b8)), (a9, .inl (T 0, 10, .inl b9))] H locs := V _ [0, 0] rfl rfl rfl (by decide +kernel) rfl
              show W p l e _ s m args below meth c H locs _ _ _ (F0 m 79 ls [.int (nI 1)])
              have hk0 := f_17
              refine lv_if_eq (tgt := 90) hx hb dX2_readStreet_79 (by decide) (fun c => absurd (show (nI 1) = 0 from c) (by decide +kernel)) (fun _ => ?_)
              refine lv_aload_n hx hb dX2_readStreet_82 rfl (lv_at hl 1 rfl) ?_
              refine lv_aload_n hx hb dX2_readStreet_83 rfl (lv_at hl 3 rfl) ?_
              refine g_callVU (nA := 1) hC V hl.1 (f_readSmith l D T ft pq t0 a0 (nI 0) t1 n tx nv (nI 0) liv lov (nI 0) a1 a2 a3 a4 a5 a6 a7 a8 a9 a10 b1 b2_ b3 b4 b5 b6 b7 b8 (by first | assumption | omega) (by first | assumption | omega) hP hc0 (by omega)) w_374 w_376 w_s4 w_4 w_377 (by decide +kernel) rfl ⟨(Nat.le_of_ble_eq_true rfl), (Nat.le_of_ble_eq_true rfl)⟩ 0 (ci := 2) rfl rfl [0, 1, 2, 3, 4, 5, 6, 7, 8, 9, 10] rfl rfl (Nat.le_of_ble_eq_true rfl) dX2_readStreet_84 ⟨(Nat.le_of_ble_eq_true rfl), (Nat.le_of_ble_eq_true rfl)⟩ rfl (fun r w1 H locs hQ V => ?_)
              obtain ⟨p2_19, n2_20, g1_21, g2_22, g3_23, g4_24, g5_25, g6_26, g7_27, g8_28, rfl, rfl, f_29, f_30, f_31, f_32, f_33, f_34, f_35, f_36, f_37, f_38, f_39, f_40, f_41⟩ := hQ
              have V : gW D T A s [(t0, .inr (2, [.int (nI 0), .int (nI (cF p2_19)), .int (cP p2_19), .ref t1, .int (nI n), .int (nI (cK p2_19.2.2.1)), .int (nI p2_19.1), .int (nI p2_19.2.1)])), (t1, .inl (T 3, 900, .inl tx)), (a0, .inr (5, [.int (nI n2_20), .int (nI 0), .int liv, .int lov, .int (nI 0), .ref a1, .ref a2, .ref a3, .ref a4, .ref a5, .ref a6, .ref a7, .ref a8, .ref a9, .ref a10])), (a1, .inl (T 0, 10, .inl g1_21)), (a2, .inl (T 0, 10, .inl g2_22)), (a3, .inl (T 0, 10, .inl g3_23)), (a4, .inl (T 0, 10, .inl g4_24)), (a5, .inl (T 0, 10, .inl g5_25)), (a6, .inl (T 0, 10, .inl g6_26)), (a7, .inl (T 0, 10, .inl g7_27)), (a8, .inl (T 0, 10, .inl g8_28)), (a9, .inl (T 0, 10, .inl b9))] H locs := V _ [0, 0, 0, 0, 0, 0, 0, 0, 0, 0, 0] rfl rfl rfl (by decide +kernel) rfl
              show W p l e _ s m args below meth c H locs _ _ _ (F0 m 87 ls [])
              replace f_32 := hid f_32
              replace f_33 := hid f_33
              replace f_34 := hid f_34
              replace f_35 := hid f_35
              replace f_36 := hid f_36
              replace f_37 := hid f_37
              replace f_38 := hid f_38
              replace f_39 := hid f_39
              replace f_40 := hid f_40
              replace f_41 := hid f_41
              have hPl : PI ft n p2_19 := by rw [f_29]; exact PI_sm hP
              obtain ⟨_, _, _, _, -⟩ := id hPl
              have hcfl := cF_le (p := p2_19) (by omega)
              refine lv_goto (tgt := 139) hx hb dX2_readStreet_87 (by decide) ?_
              refine lv_aload_n hx hb dX2_readStreet_139 rfl (lv_at hl 1 rfl) ?_
              refine lv_aload_n hx hb dX2_readStreet_140 rfl (lv_at hl 3 rfl) ?_
              refine g_callVU (nA := 1) hC V hl.1 (f_endLine l D T ft p2_19 t0 a0 (nI 0) t1 n tx (nI n2_20) (nI 0) liv lov (nI 0) a1 a2 a3 a4 a5 a6 a7 a8 a9 a10 (by first | assumption | omega) (by first | assumption | omega) hPl) w_405 w_407 w_s8 w_4 w_408 (by decide +kernel) rfl ⟨(Nat.le_of_ble_eq_true rfl), (Nat.le_of_ble_eq_true rfl)⟩ 0 (ci := 2) rfl rfl [0, 1, 2] rfl rfl (Nat.le_of_ble_eq_true rfl) dX2_readStreet_141 ⟨(Nat.le_of_ble_eq_true rfl), (Nat.le_of_ble_eq_true rfl)⟩ rfl (fun r w1 H locs hQ V => ?_)
              obtain ⟨p2_42, ll_43, rfl, rfl, f_44, f_45⟩ := hQ
              have V : gW D T A s [(t0, .inr (2, [.int (nI 0), .int (nI (cF p2_42)), .int (cP p2_42), .ref t1, .int (nI n), .int (nI (cK p2_42.2.2.1)), .int (nI p2_42.1), .int (nI p2_42.2.1)])), (t1, .inl (T 3, 900, .inl tx)), (a0, .inr (5, [.int (nI n2_20), .int (nI 0), .int ll_43, .int lov, .int (nI 0), .ref a1, .ref a2, .ref a3, .ref a4, .ref a5, .ref a6, .ref a7, .ref a8, .ref a9, .ref a10])), (a1, .inl (T 0, 10, .inl g1_21)), (a2, .inl (T 0, 10, .inl g2_22)), (a3, .inl (T 0, 10, .inl g3_23)), (a4, .inl (T 0, 10, .inl g4_24)), (a5, .inl (T 0, 10, .inl g5_25)), (a6, .inl (T 0, 10, .inl g6_26)), (a7, .inl (T 0, 10, .inl g7_27)), (a8, .inl (T 0, 10, .inl g8_28)), (a9, .inl (T 0, 10, .inl b9))] H locs := V _ [0, 0, 0] rfl rfl rfl (by decide +kernel) rfl
              show W p l e _ s m args below meth c H locs _ _ _ (F0 m 144 ls [])
              have hl1 : lnA ft n (nv, pq, fq) = ((smN ft n nv pq), p2_19, (smF ft n nv pq fq)) := (by rw [ln_sm hk0, ← f_29])
              have hl2 : p2_42 = edS ft n p2_19 := f_44
              have hln2 : ((smN ft n nv pq), p2_42, upd (smF ft n nv pq fq) 3 ((smF ft n nv pq fq) 3 + nI 1)) = lnS ft n (nv, pq, fq) := by unfold lnS; rw [hl1, ← hl2]
              have hln : ((smN ft n nv pq), p2_42, upd (smF ft n nv pq fq) 3 ((smF ft n nv pq fq) 3 + nI 1)) = itS ft n (0, nxS ft n (0, 0, 0, nu0, 0, wa0), frI ff) (k + 1) := by show _ = lnS ft n (itS ft n (0, nxS ft n (0, 0, 0, nu0, 0, wa0), frI ff) k); rw [← hit]; exact hln2
              have hP2 : PI ft n p2_42 := by rw [f_44]; exact PI_ed hPl
              obtain ⟨_, _, _, _, -⟩ := id hP2
              have hcf2 := cF_le (p := p2_42) (by omega)
              have hck2 := cK_le p2_42.2.2.1
              have hcm : cF p2_42 = 0 → cF p2_19 = 0 := fun h => ed_cF (Eq.trans (congrArg cF f_44.symm) h)
              refine lv_iinc (v := (nI (k + 1))) (lv' := [(3, .int (nI (k + 1))), (0, .ref t0), (1, .int (nI n)), (2, .ref a0)]) hx hb dX2_readStreet_144 hl (k := 0) rfl (nI_1 _) (by decide) rfl (fun ls hl => ?_)
              refine lv_goto (tgt := 50) hx hb dX2_readStreet_147 (by decide) ?_
              exact ih_50 (k + 1) n2_20 ll_43 lov g1_21 g2_22 g3_23 g4_24 g5_25 g6_26 g7_27 g8_28 b9 p2_42 (smN ft n nv pq) (upd (smF ft n nv pq fq) 3 ((smF ft n nv pq fq) 3 + nI 1)) (by omega) (by omega) (by first | assumption | exact fun i h => (hto i h).elim (fun q => Or.inl (bd_le q (by omega))) Or.inr) hln (no_cst hit hc0 hk11 hns) hP2 (fun h => ⟨((unh f_33) (hcm h)).trans (smN_0 (by have := (unh f_32) (hcm h); omega) (by have q := (cF_0.mp (hcm h)).1; rw [f_29, smS_n (by have := (unh f_32) (hcm h); omega)] at q; exact q)).symm, by rw [smN_0 (by have := (unh f_32) (hcm h); omega) (by have q := (cF_0.mp (hcm h)).1; rw [f_29, smS_n (by have := (unh f_32) (hcm h); omega)] at q; exact q), smF_0 (by have := (unh f_32) (hcm h); omega) (by have q := (cF_0.mp (hcm h)).1; rw [f_29, smS_n (by have := (unh f_32) (hcm h); omega)] at q; exact q)]; exact RF_ln (by rw [(unh f_34) (hcm h), (unh f_35) (hcm h), (unh f_36) (hcm h), (unh f_37) (hcm h), (unh f_38) (hcm h), (unh f_39) (hcm h), (unh f_40) (hcm h)]; exact RF_sm hR ((unh f_32) (hcm h))) (f_45 h)⟩) (by omega) _ _ _ V (lv_sub hl [0, 1, 2, 3] rfl)
            · have V : gW D T A s [(t0, .inr (2, [.int (nI 0), .int (nI (cF pq)), .int (cP pq), .ref t1, .int (nI n), .int (nI (cK pq.2.2.1)), .int (nI pq.1), .int (nI pq.2.1)])), (t1, .inl (T 3, 900, .inl tx)), (a0, .inr (5, [.int (nI nv), .int (nI 0), .int liv, .int lov, .int (nI 0), .ref a1, .ref a2, .ref a3, .ref a4, .ref a5, .ref a6, .ref a7, .ref a8, .ref a9, .ref a10])), (a1, .inl (T 0, 10, .inl b1)), (a2, .inl (T 0, 10, .inl b2_)), (a3, .inl (T 0, 10, .inl b3)), (a4, .inl (T 0, 10, .inl b4)), (a5, .inl (T 0, 10, .inl b5)), (a6, .inl (T 0, 10, .inl b6)), (a7, .inl (T 0, 10, .inl b7)), (a8, .inl (T 0, 10, .inl b8)), (a9, .inl (T 0, 10, .inl b9))] H locs := V _ [0, 0] rfl rfl rfl (by decide +kernel) rfl
              show W p l e _ s m args below meth c H locs _ _ _ (F0 m 79 ls [.int (nI 0)])
              have hk0 := f_18
              refine lv_if_eq (tgt := 90) hx hb dX2_readStreet_79 (by decide) (fun _ => ?_) (fun c => absurd (show (nI 0) = 0 by decide +kernel) c)
              refine lv_aload_n hx hb dX2_readStreet_90 rfl (lv_at hl 1 rfl) ?_
              refine g_ldcS hC V 6 rfl dX2_readStreet_91 ?_
              refine g_callVU (nA := 1) hC V hl.1 (f_isWord l D T 6 ft pq t0 (nI 0) t1 n tx (by first | assumption | omega) (by first | assumption | omega) (by first | assumption | omega) (by decide)) w_322 w_324 w_s3 w_4 w_325 (by decide +kernel) rfl ⟨(Nat.le_of_ble_eq_true rfl), (Nat.le_of_ble_eq_true rfl)⟩ 0 (ci := 2) rfl rfl [0, 1] rfl rfl (Nat.le_of_ble_eq_true rfl) dX2_readStreet_93 ⟨(Nat.le_of_ble_eq_true rfl), (Nat.le_of_ble_eq_true rfl)⟩ rfl (fun r w1 H locs hQ V => ?_)
              rcases hQ with ⟨rfl, rfl, f_46⟩ | ⟨rfl, rfl, f_47⟩
              · have V : gW D T A s [(t0, .inr (2, [.int (nI 0), .int (nI (cF pq)), .int (cP pq), .ref t1, .int (nI n), .int (nI (cK pq.2.2.1)), .int (nI pq.1), .int (nI pq.2.1)])), (t1, .inl (T 3, 900, .inl tx)), (a0, .inr (5, [.int (nI nv), .int (nI 0), .int liv, .int lov, .int (nI 0), .ref a1, .ref a2, .ref a3, .ref a4, .ref a5, .ref a6, .ref a7, .ref a8, .ref a9, .ref a10])), (a1, .inl (T 0, 10, .inl b1)), (a2, .inl (T 0, 10, .inl b2_)), (a3, .inl (T 0, 10, .inl b3)), (a4, .inl (T 0, 10, .inl b4)), (a5, .inl (T 0, 10, .inl b5)), (a6, .inl (T 0, 10, .inl b6)), (a7, .inl (T 0, 10, .inl b7)), (a8, .inl (T 0, 10, .inl b8)), (a9, .inl (T 0, 10, .inl b9))] H locs := V _ [0, 0] rfl rfl rfl (by decide +kernel) rfl
                show W p l e _ s m args below meth c H locs _ _ _ (F0 m 96 ls [.int (nI 1)])
                have hk6 := f_46
                refine lv_if_eq (tgt := 107) hx hb dX2_readStreet_96 (by decide) (fun c => absurd (show (nI 1) = 0 from c) (by decide +kernel)) (fun _ => ?_)
                refine lv_aload_n hx hb dX2_readStreet_99 rfl (lv_at hl 1 rfl) ?_
                refine lv_aload_n hx hb dX2_readStreet_100 rfl (lv_at hl 3 rfl) ?_
                refine g_callVU (nA := 1) hC V hl.1 (f_readBlows l D T ft pq t0 a0 (nI 0) t1 n tx nv (nI 0) liv lov (nI 0) a1 a2 a3 a4 a5 a6 a7 a8 a9 a10 b9 (by first | assumption | omega) (by first | assumption | omega) hP hc0 (by omega) hto) w_400 w_402 w_s7 w_4 w_403 (by decide +kernel) rfl ⟨(Nat.le_of_ble_eq_true rfl), (Nat.le_of_ble_eq_true rfl)⟩ 0 (ci := 2) rfl rfl [0, 1, 2, 11] rfl rfl (Nat.le_of_ble_eq_true rfl) dX2_readStreet_101 ⟨(Nat.le_of_ble_eq_true rfl), (Nat.le_of_ble_eq_true rfl)⟩ rfl (fun r w1 H locs hQ V => ?_)
                obtain ⟨p2_48, g_49, rfl, rfl, f_50, f_51, f_52⟩ := hQ
                have V : gW D T A s [(t0, .inr (2, [.int (nI 0), .int (nI (cF p2_48)), .int (cP p2_48), .ref t1, .int (nI n), .int (nI (cK p2_48.2.2.1)), .int (nI p2_48.1), .int (nI p2_48.2.1)])), (t1, .inl (T 3, 900, .inl tx)), (a0, .inr (5, [.int (nI nv), .int (nI 0), .int liv, .int lov, .int (nI 0), .ref a1, .ref a2, .ref a3, .ref a4, .ref a5, .ref a6, .ref a7, .ref a8, .ref a9, .ref a10])), (a1, .inl (T 0, 10, .inl b1)), (a2, .inl (T 0, 10, .inl b2_)), (a3, .inl (T 0, 10, .inl b3)), (a4, .inl (T 0, 10, .inl b4)), (a5, .inl (T 0, 10, .inl b5)), (a6, .inl (T 0, 10, .inl b6)), (a7, .inl (T 0, 10, .inl b7)), (a8, .inl (T 0, 10, .inl b8)), (a9, .inl (T 0, 10, .inl g_49))] H locs := V _ [0, 0, 0, 8] rfl rfl rfl (by decide +kernel) rfl
                show W p l e _ s m args below meth c H locs _ _ _ (F0 m 104 ls [])
                have hPl : PI ft n p2_48 := by rw [f_50]; exact PI_bl (PI_nxI hP)
                obtain ⟨_, _, _, _, -⟩ := id hPl
                have hcfl := cF_le (p := p2_48) (by omega)
                refine lv_goto (tgt := 139) hx hb dX2_readStreet_104 (by decide) ?_
                refine lv_aload_n hx hb dX2_readStreet_139 rfl (lv_at hl 1 rfl) ?_
                refine lv_aload_n hx hb dX2_readStreet_140 rfl (lv_at hl 3 rfl) ?_
                refine g_callVU (nA := 1) hC V hl.1 (f_endLine l D T ft p2_48 t0 a0 (nI 0) t1 n tx (nI nv) (nI 0) liv lov (nI 0) a1 a2 a3 a4 a5 a6 a7 a8 a9 a10 (by first | assumption | omega) (by first | assumption | omega) hPl) w_405 w_407 w_s8 w_4 w_408 (by decide +kernel) rfl ⟨(Nat.le_of_ble_eq_true rfl), (Nat.le_of_ble_eq_true rfl)⟩ 0 (ci := 2) rfl rfl [0, 1, 2] rfl rfl (Nat.le_of_ble_eq_true rfl) dX2_readStreet_141 ⟨(Nat.le_of_ble_eq_true rfl), (Nat.le_of_ble_eq_true rfl)⟩ rfl (fun r w1 H locs hQ V => ?_)
                obtain ⟨p2_53, ll_54, rfl, rfl, f_55, f_56⟩ := hQ
                have V : gW D T A s [(t0, .inr (2, [.int (nI 0), .int (nI (cF p2_53)), .int (cP p2_53), .ref t1, .int (nI n), .int (nI (cK p2_53.2.2.1)), .int (nI p2_53.1), .int (nI p2_53.2.1)])), (t1, .inl (T 3, 900, .inl tx)), (a0, .inr (5, [.int (nI nv), .int (nI 0), .int ll_54, .int lov, .int (nI 0), .ref a1, .ref a2, .ref a3, .ref a4, .ref a5, .ref a6, .ref a7, .ref a8, .ref a9, .ref a10])), (a1, .inl (T 0, 10, .inl b1)), (a2, .inl (T 0, 10, .inl b2_)), (a3, .inl (T 0, 10, .inl b3)), (a4, .inl (T 0, 10, .inl b4)), (a5, .inl (T 0, 10, .inl b5)), (a6, .inl (T 0, 10, .inl b6)), (a7, .inl (T 0, 10, .inl b7)), (a8, .inl (T 0, 10, .inl b8)), (a9, .inl (T 0, 10, .inl g_49))] H locs := V _ [0, 0, 0] rfl rfl rfl (by decide +kernel) rfl
                show W p l e _ s m args below meth c H locs _ _ _ (F0 m 144 ls [])
                have hl1 : lnA ft n (nv, pq, fq) = (nv, p2_48, (blF ft n nv (nxS ft n pq) fq)) := (by rw [ln_bl hk6, ← f_50])
                have hl2 : p2_53 = edS ft n p2_48 := f_55
                have hln2 : (nv, p2_53, upd (blF ft n nv (nxS ft n pq) fq) 3 ((blF ft n nv (nxS ft n pq) fq) 3 + nI 1)) = lnS ft n (nv, pq, fq) := by unfold lnS; rw [hl1, ← hl2]
                have hln : (nv, p2_53, upd (blF ft n nv (nxS ft n pq) fq) 3 ((blF ft n nv (nxS ft n pq) fq) 3 + nI 1)) = itS ft n (0, nxS ft n (0, 0, 0, nu0, 0, wa0), frI ff) (k + 1) := by show _ = lnS ft n (itS ft n (0, nxS ft n (0, 0, 0, nu0, 0, wa0), frI ff) k); rw [← hit]; exact hln2
                have hP2 : PI ft n p2_53 := by rw [f_55]; exact PI_ed hPl
                obtain ⟨_, _, _, _, -⟩ := id hP2
                have hcf2 := cF_le (p := p2_53) (by omega)
                have hck2 := cK_le p2_53.2.2.1
                have hcm : cF p2_53 = 0 → cF p2_48 = 0 := fun h => ed_cF (Eq.trans (congrArg cF f_55.symm) h)
                refine lv_iinc (v := (nI (k + 1))) (lv' := [(3, .int (nI (k + 1))), (0, .ref t0), (1, .int (nI n)), (2, .ref a0)]) hx hb dX2_readStreet_144 hl (k := 0) rfl (nI_1 _) (by decide) rfl (fun ls hl => ?_)
                refine lv_goto (tgt := 50) hx hb dX2_readStreet_147 (by decide) ?_
                exact ih_50 (k + 1) nv ll_54 lov b1 b2_ b3 b4 b5 b6 b7 b8 g_49 p2_53 nv (upd (blF ft n nv (nxS ft n pq) fq) 3 ((blF ft n nv (nxS ft n pq) fq) 3 + nI 1)) (by omega) (by omega) (by first | assumption | exact fun i h => (hto i h).elim (fun q => Or.inl (bd_le q (by omega))) Or.inr) hln (no_cst hit hc0 hk11 hns) hP2 (fun h => ⟨rfl, by obtain ⟨ja, jb, q1, q2, q3, q4, q5⟩ := f_52 (hcm h); rw [bl_0 (by have q := (cF_0.mp (hcm h)).1; rw [f_50] at q; exact q) q3 q4 (by omega), q5]; exact RF_ln (RF_bl hR (by omega) q1 q2) (f_56 h)⟩) (by omega) _ _ _ V (lv_sub hl [0, 1, 2, 3] rfl)
              · have V : gW D T A s [(t0, .inr (2, [.int (nI 0), .int (nI (cF pq)), .int (cP pq), .ref t1, .int (nI n), .int (nI (cK pq.2.2.1)), .int (nI pq.1), .int (nI pq.2.1)])), (t1, .inl (T 3, 900, .inl tx)), (a0, .inr (5, [.int (nI nv), .int (nI 0), .int liv, .int lov, .int (nI 0), .ref a1, .ref a2, .ref a3, .ref a4, .ref a5, .ref a6, .ref a7, .ref a8, .ref a9, .ref a10])), (a1, .inl (T 0, 10, .inl b1)), (a2, .inl (T 0, 10, .inl b2_)), (a3, .inl (T 0, 10, .inl b3)), (a4, .inl (T 0, 10, .inl b4)), (a5, .inl (T 0, 10, .inl b5)), (a6, .inl (T 0, 10, .inl b6)), (a7, .inl (T 0, 10, .inl b7)), (a8, .inl (T 0, 10, .inl b8)), (a9, .inl (T 0, 10, .inl b9))] H locs := V _ [0, 0] rfl rfl rfl (by decide +kernel) rfl
                show W p l e _ s m args below meth c H locs _ _ _ (F0 m 96 ls [.int (nI 0)])
                have hk6 := f_47
                refine lv_if_eq (tgt := 107) hx hb dX2_readStreet_96 (by decide) (fun _ => ?_) (fun c => absurd (show (nI 0) = 0 by decide +kernel) c)
                refine lv_aload_n hx hb dX2_readStreet_107 rfl (lv_at hl 1 rfl) ?_
                refine g_ldcS hC V 7 rfl dX2_readStreet_108 ?_
                refine g_callVU (nA := 1) hC V hl.1 (f_isWord l D T 7 ft pq t0 (nI 0) t1 n tx (by first | assumption | omega) (by first | assumption | omega) (by first | assumption | omega) (by decide)) w_322 w_324 w_s3 w_4 w_325 (by decide +kernel) rfl ⟨(Nat.le_of_ble_eq_true rfl), (Nat.le_of_ble_eq_true rfl)⟩ 0 (ci := 2) rfl rfl [0, 1] rfl rfl (Nat.le_of_ble_eq_true rfl) dX2_readStreet_110 ⟨(Nat.le_of_ble_eq_true rfl), (Nat.le_of_ble_eq_true rfl)⟩ rfl (fun r w1 H locs hQ V => ?_)
                rcases hQ with ⟨rfl, rfl, f_57⟩ | ⟨rfl, rfl, f_58⟩
                · have V : gW D T A s [(t0, .inr (2, [.int (nI 0), .int (nI (cF pq)), .int (cP pq), .ref t1, .int (nI n), .int (nI (cK pq.2.2.1)), .int (nI pq.1), .int (nI pq.2.1)])), (t1, .inl (T 3, 900, .inl tx)), (a0, .inr (5, [.int (nI nv), .int (nI 0), .int liv, .int lov, .int (nI 0), .ref a1, .ref a2, .ref a3, .ref a4, .ref a5, .ref a6, .ref a7, .ref a8, .ref a9, .ref a10])), (a1, .inl (T 0, 10, .inl b1)), (a2, .inl (T 0, 10, .inl b2_)), (a3, .inl (T 0, 10, .inl b3)), (a4, .inl (T 0, 10, .inl b4)), (a5, .inl (T 0, 10, .inl b5)), (a6, .inl (T 0, 10, .inl b6)), (a7, .inl (T 0, 10, .inl b7)), (a8, .inl (T 0, 10, .inl b8)), (a9, .inl (T 0, 10, .inl b9))] H locs := V _ [0, 0] rfl rfl rfl (by decide +kernel) rfl
                  show W p l e _ s m args below meth c H locs _ _ _ (F0 m 113 ls [.int (nI 1)])
                  have hk7 := f_57
                  refine lv_if_eq (tgt := 134) hx hb dX2_readStreet_113 (by decide) (fun c => absurd (show (nI 1) = 0 from c) (by decide +kernel)) (fun _ => ?_)
                  refine lv_aload_n hx hb dX2_readStreet_116 rfl (lv_at hl 1 rfl) ?_
                  refine g_callVU (nA := 0) hC V hl.1 (f_nextToken l D T ft pq.2.2.2.1 pq.2.2.2.2.2 t0 (nI 0) (cF pq) (cP pq) t1 n (nI (cK pq.2.2.1)) (nI pq.1) pq.2.1 tx (by first | assumption | omega) (by first | assumption | omega) (by omega) hc0 (cP_0 hc0)) w_309 w_311 w_s0 w_4 w_312 (by decide +kernel) rfl ⟨(Nat.le_of_ble_eq_true rfl), (Nat.le_of_ble_eq_true rfl)⟩ 0 (ci := 2) rfl rfl [0, 1] rfl rfl (Nat.le_of_ble_eq_true rfl) dX2_readStreet_117 ⟨(Nat.le_of_ble_eq_true rfl), (Nat.le_of_ble_eq_true rfl)⟩ rfl (fun r w1 H locs hQ V => ?_)
                  obtain ⟨p2_59, rfl, rfl, f_60⟩ := hQ
                  have V : gW D T A s [(t0, .inr (2, [.int (nI 0), .int (nI (cF p2_59)), .int (cP p2_59), .ref t1, .int (nI n), .int (nI (cK p2_59.2.2.1)), .int (nI p2_59.1), .int (nI p2_59.2.1)])), (t1, .inl (T 3, 900, .inl tx)), (a0, .inr (5, [.int (nI nv), .int (nI 0), .int liv, .int lov, .int (nI 0), .ref a1, .ref a2, .ref a3, .ref a4, .ref a5, .ref a6, .ref a7, .ref a8, .ref a9, .ref a10])), (a1, .inl (T 0, 10, .inl b1)), (a2, .inl (T 0, 10, .inl b2_)), (a3, .inl (T 0, 10, .inl b3)), (a4, .inl (T 0, 10, .inl b4)), (a5, .inl (T 0, 10, .inl b5)), (a6, .inl (T 0, 10, .inl b6)), (a7, .inl (T 0, 10, .inl b7)), (a8, .inl (T 0, 10, .inl b8)), (a9, .inl (T 0, 10, .inl b9))] H locs := V _ [0, 0] rfl rfl rfl (by decide +kernel) rfl
                  show W p l e _ s m args below meth c H locs _ _ _ (F0 m 120 ls [])
                  have hpe : p2_59 = nxS ft n pq := f_60.trans (nx_c0 hc0)
                  have hPe : PI ft n p2_59 := by rw [hpe]; exact PI_nxI hP
                  obtain ⟨_, _, _, _, -⟩ := id hPe
                  refine lv_aload_n hx hb dX2_readStreet_120 rfl (lv_at hl 3 rfl) ?_
                  refine lv_aload_n hx hb dX2_readStreet_121 rfl (lv_at hl 1 rfl) ?_
                  refine lv_iconst (v := (nI 0)) hx hb dX2_readStreet_122 (by decide +kernel) ?_
                  refine lv_bipush (v := (nI 20)) hx hb dX2_readStreet_123 (by decide +kernel) ?_
                  refine g_callVU (nA := 2) hC V hl.1 (f_takeNumber l D T ft p2_59 t0 (nI 0) (nI 20) (nI 0) t1 n tx (by first | assumption | omega) (by first | assumption | omega) hPe) w_378 w_380 w_s5 w_4 w_381 (by decide +kernel) rfl ⟨(Nat.le_of_ble_eq_true rfl), (Nat.le_of_ble_eq_true rfl)⟩ 0 (ci := 2) rfl rfl [0, 1] rfl rfl (Nat.le_of_ble_eq_true rfl) dX2_readStreet_125 ⟨(Nat.le_of_ble_eq_true rfl), (Nat.le_of_ble_eq_true rfl)⟩ rfl (fun r w1 H locs hQ V => ?_)
                  obtain ⟨z_61, p2_62, rfl, rfl, f_63, f_64⟩ := hQ
                  have V : gW D T A s [(t0, .inr (2, [.int (nI 0), .int (nI (cF p2_62)), .int (cP p2_62), .ref t1, .int (nI n), .int (nI (cK p2_62.2.2.1)), .int (nI p2_62.1), .int (nI p2_62.2.1)])), (t1, .inl (T 3, 900, .inl tx)), (a0, .inr (5, [.int (nI nv), .int (nI 0), .int liv, .int lov, .int (nI 0), .ref a1, .ref a2, .ref a3, .ref a4, .ref a5, .ref a6, .ref a7, .ref a8, .ref a9, .ref a10])), (a1, .inl (T 0, 10, .inl b1)), (a2, .inl (T 0, 10, .inl b2_)), (a3, .inl (T 0, 10, .inl b3)), (a4, .inl (T 0, 10, .inl b4)), (a5, .inl (T 0, 10, .inl b5)), (a6, .inl (T 0, 10, .inl b6)), (a7, .inl (T 0, 10, .inl b7)), (a8, .inl (T 0, 10, .inl b8)), (a9, .inl (T 0, 10, .inl b9))] H locs := V _ [0, 0] rfl rfl rfl (by decide +kernel) rfl
                  show W p l e _ s m args below meth c H locs _ _ _ (F0 m 128 ls [.int z_61, .ref a0])
                  have hPl : PI ft n p2_62 := by rw [f_63]; exact PI_tk hPe
                  obtain ⟨_, _, _, _, -⟩ := id hPl
                  have hcfl := cF_le (p := p2_62) (by omega)
                  refine g_put hC V (ci := 5) uwX5 tyX5 tyX5_ok nmX5 2 rfl rfl 3 (by decide) w_46 rfl rfl rfl rfl (Nat.le_of_ble_eq_true rfl) (ws' := [(t0, .inr (2, [.int (nI 0), .int (nI (cF p2_62)), .int (cP p2_62), .ref t1, .int (nI n), .int (nI (cK p2_62.2.2.1)), .int (nI p2_62.1), .int (nI p2_62.2.1)])), (t1, .inl (T 3, 900, .inl tx)), (a0, .inr (5, [.int (nI nv), .int (nI 0), .int liv, .int z_61, .int (nI 0), .ref a1, .ref a2, .ref a3, .ref a4, .ref a5, .ref a6, .ref a7, .ref a8, .ref a9, .ref a10])), (a1, .inl (T 0, 10, .inl b1)), (a2, .inl (T 0, 10, .inl b2_)), (a3, .inl (T 0, 10, .inl b3)), (a4, .inl (T 0, 10, .inl b4)), (a5, .inl (T 0, 10, .inl b5)), (a6, .inl (T 0, 10, .inl b6)), (a7, .inl (T 0, 10, .inl b7)), (a8, .inl (T 0, 10, .inl b8)), (a9, .inl (T 0, 10, .inl b9))]) rfl dX2_readStreet_128 (fun H locs V => ?_)
                  refine lv_goto (tgt := 139) hx hb dX2_readStreet_131 (by decide) ?_
                  refine lv_aload_n hx hb dX2_readStreet_139 rfl (lv_at hl 1 rfl) ?_
                  refine lv_aload_n hx hb dX2_readStreet_140 rfl (lv_at hl 3 rfl) ?_
                  refine g_callVU (nA := 1) hC V hl.1 (f_endLine l D T ft p2_62 t0 a0 (nI 0) t1 n tx (nI nv) (nI 0) liv z_61 (nI 0) a1 a2 a3 a4 a5 a6 a7 a8 a9 a10 (by first | assumption | omega) (by first | assumption | omega) hPl) w_405 w_407 w_s8 w_4 w_408 (by decide +kernel) rfl ⟨(Nat.le_of_ble_eq_true rfl), (Nat.le_of_ble_eq_true rfl)⟩ 0 (ci := 2) rfl rfl [0, 1, 2] rfl rfl (Nat.le_of_ble_eq_true rfl) dX2_readStreet_141 ⟨(Nat.le_of_ble_eq_true rfl), (Nat.le_of_ble_eq_true rfl)⟩ rfl (fun r w1 H locs hQ V => ?_)
                  obtain ⟨p2_65, ll_66, rfl, rfl, f_67, f_68⟩ := hQ
                  have V : gW D T A s [(t0, .inr (2, [.int (nI 0), .int (nI (cF p2_65)), .int (cP p2_65), .ref t1, .int (nI n), .int (nI (cK p2_65.2.2.1)), .int (nI p2_65.1), .int (nI p2_65.2.1)])), (t1, .inl (T 3, 900, .inl tx)), (a0, .inr (5, [.int (nI nv), .int (nI 0), .int ll_66, .int z_61, .int (nI 0), .ref a1, .ref a2, .ref a3, .ref a4, .ref a5, .ref a6, .ref a7, .ref a8, .ref a9, .ref a10])), (a1, .inl (T 0, 10, .inl b1)), (a2, .inl (T 0, 10, .inl b2_)), (a3, .inl (T 0, 10, .inl b3)), (a4, .inl (T 0, 10, .inl b4)), (a5, .inl (T 0, 10, .inl b5)), (a6, .inl (T 0, 10, .inl b6)), (a7, .inl (T 0, 10, .inl b7)), (a8, .inl (T 0, 10, .inl b8)), (a9, .inl (T 0, 10, .inl b9))] H locs := V _ [0, 0, 0] rfl rfl rfl (by decide +kernel) rfl
                  show W p l e _ s m args below meth c H locs _ _ _ (F0 m 144 ls [])
                  have hl1 : lnA ft n (nv, pq, fq) = (nv, p2_62, (upd fq 2 (nxS ft n pq).2.2.2.1)) := (by rw [ln_bu hk7, ← hpe, ← f_63])
                  have hl2 : p2_65 = edS ft n p2_62 := f_67
                  have hln2 : (nv, p2_65, upd (upd fq 2 (nxS ft n pq).2.2.2.1) 3 ((upd fq 2 (nxS ft n pq).2.2.2.1) 3 + nI 1)) = lnS ft n (nv, pq, fq) := by unfold lnS; rw [hl1, ← hl2]
                  have hln : (nv, p2_65, upd (upd fq 2 (nxS ft n pq).2.2.2.1) 3 ((upd fq 2 (nxS ft n pq).2.2.2.1) 3 + nI 1)) = itS ft n (0, nxS ft n (0, 0, 0, nu0, 0, wa0), frI ff) (k + 1) := by show _ = lnS ft n (itS ft n (0, nxS ft n (0, 0, 0, nu0, 0, wa0), frI ff) k); rw [← hit]; exact hln2
                  have hP2 : PI ft n p2_65 := by rw [f_67]; exact PI_ed hPl
                  obtain ⟨_, _, _, _, -⟩ := id hP2
                  have hcf2 := cF_le (p := p2_65) (by omega)
                  have hck2 := cK_le p2_65.2.2.1
                  have hcm : cF p2_65 = 0 → cF p2_62 = 0 := fun h => ed_cF (Eq.trans (congrArg cF f_67.symm) h)
                  refine lv_iinc (v := (nI (k + 1))) (lv' := [(3, .int (nI (k + 1))), (0, .ref t0), (1, .int (nI n)), (2, .ref a0)]) hx hb dX2_readStreet_144 hl (k := 0) rfl (nI_1 _) (by decide) rfl (fun ls hl => ?_)
                  refine lv_goto (tgt := 50) hx hb dX2_readStreet_147 (by decide) ?_
                  exact ih_50 (k + 1) nv ll_66 z_61 b1 b2_ b3 b4 b5 b6 b7 b8 b9 p2_65 nv (upd (upd fq 2 (nxS ft n pq).2.2.2.1) 3 ((upd fq 2 (nxS ft n pq).2.2.2.1) 3 + nI 1)) (by omega) (by omega) (by first | assumption | exact fun i h => (hto i h).elim (fun q => Or.inl (bd_le q (by omega))) Or.inr) hln (no_cst hit hc0 hk11 hns) hP2 (fun h => ⟨rfl, by rw [f_64 (hcm h), hpe]; exact RF_ln (RF_bu hR) (f_68 h)⟩) (by omega) _ _ _ V (lv_sub hl [0, 1, 2, 3] rfl)
                · have V : gW D T A s [(t0, .inr (2, [.int (nI 0), .int (nI (cF pq)), .int (cP pq), .ref t1, .int (nI n), .int (nI (cK pq.2.2.1)), .int (nI pq.1), .int (nI pq.2.1)])), (t1, .inl (T 3, 900, .inl tx)), (a0, .inr (5, [.int (nI nv), .int (nI 0), .int liv, .int lov, .int (nI 0), .ref a1, .ref a2, .ref a3, .ref a4, .ref a5, .ref a6, .ref a7, .ref a8, .ref a9, .ref a10])), (a1, .inl (T 0, 10, .inl b1)), (a2, .inl (T 0, 10, .inl b2_)), (a3, .inl (T 0, 10, .inl b3)), (a4, .inl (T 0, 10, .inl b4)), (a5, .inl (T 0, 10, .inl b5)), (a6, .inl (T 0, 10, .inl b6)), (a7, .inl (T 0, 10, .inl b7)), (a8, .inl (T 0, 10, .inl b8)), (a9, .inl (T 0, 10, .inl b9))] H locs := V _ [0, 0] rfl rfl rfl (by decide +kernel) rfl
                  show W p l e _ s m args below meth c H locs _ _ _ (F0 m 113 ls [.int (nI 0)])
                  have hk7 := f_58
                  refine lv_if_eq (tgt := 134) hx hb dX2_readStreet_113 (by decide) (fun _ => ?_) (fun c => absurd (show (nI 0) = 0 by decide +kernel) c)
                  refine lv_aload_n hx hb dX2_readStreet_134 rfl (lv_at hl 1 rfl) ?_
                  refine lv_iconst (v := (nI 2)) hx hb dX2_readStreet_135 (by decide +kernel) ?_
                  refine g_callVU (nA := 1) hC V hl.1 (f_fail l D T pq t0 2 (nI 0) t1 n (by decide) (by omega)) w_317 w_319 w_s2 w_4 w_320 (by decide +kernel) rfl ⟨(Nat.le_of_ble_eq_true rfl), (Nat.le_of_ble_eq_true rfl)⟩ 0 (ci := 2) rfl rfl [0] rfl rfl (Nat.le_of_ble_eq_true rfl) dX2_readStreet_136 ⟨(Nat.le_of_ble_eq_true rfl), (Nat.le_of_ble_eq_true rfl)⟩ rfl (fun r w1 H locs hQ V => ?_)
                  obtain ⟨p2_69, rfl, rfl, f_70⟩ := hQ
                  have V : gW D T A s [(t0, .inr (2, [.int (nI 0), .int (nI (cF p2_69)), .int (cP p2_69), .ref t1, .int (nI n), .int (nI (cK p2_69.2.2.1)), .int (nI p2_69.1), .int (nI p2_69.2.1)])), (t1, .inl (T 3, 900, .inl tx)), (a0, .inr (5, [.int (nI nv), .int (nI 0), .int liv, .int lov, .int (nI 0), .ref a1, .ref a2, .ref a3, .ref a4, .ref a5, .ref a6, .ref a7, .ref a8, .ref a9, .ref a10])), (a1, .inl (T 0, 10, .inl b1)), (a2, .inl (T 0, 10, .inl b2_)), (a3, .inl (T 0, 10, .inl b3)), (a4, .inl (T 0, 10, .inl b4)), (a5, .inl (T 0, 10, .inl b5)), (a6, .inl (T 0, 10, .inl b6)), (a7, .inl (T 0, 10, .inl b7)), (a8, .inl (T 0, 10, .inl b8)), (a9, .inl (T 0, 10, .inl b9))] H locs := V _ [0] rfl rfl rfl (by decide +kernel) rfl
                  show W p l e _ s m args below meth c H locs _ _ _ (F0 m 139 ls [])
                  have hPl : PI ft n p2_69 := by rw [f_70]; exact PI_fa hP (by decide)
                  obtain ⟨_, _, _, _, -⟩ := id hPl
                  have hcfl := cF_le (p := p2_69) (by omega)
                  refine lv_aload_n hx hb dX2_readStreet_139 rfl (lv_at hl 1 rfl) ?_
                  refine lv_aload_n hx hb dX2_readStreet_140 rfl (lv_at hl 3 rfl) ?_
                  refine g_callVU (nA := 1) hC V hl.1 (f_endLine l D T ft p2_69 t0 a0 (nI 0) t1 n tx (nI nv) (nI 0) liv lov (nI 0) a1 a2 a3 a4 a5 a6 a7 a8 a9 a10 (by first | assumption | omega) (by first | assumption | omega) hPl) w_405 w_407 w_s8 w_4 w_408 (by decide +kernel) rfl ⟨(Nat.le_of_ble_eq_true rfl), (Nat.le_of_ble_eq_true rfl)⟩ 0 (ci := 2) rfl rfl [0, 1, 2] rfl rfl (Nat.le_of_ble_eq_true rfl) dX2_readStreet_141 ⟨(Nat.le_of_ble_eq_true rfl), (Nat.le_of_ble_eq_true rfl)⟩ rfl (fun r w1 H locs hQ V => ?_)
                  obtain ⟨p2_71, ll_72, rfl, rfl, f_73, f_74⟩ := hQ
                  have V : gW D T A s [(t0, .inr (2, [.int (nI 0), .int (nI (cF p2_71)), .int (cP p2_71), .ref t1, .int (nI n), .int (nI (cK p2_71.2.2.1)), .int (nI p2_71.1), .int (nI p2_71.2.1)])), (t1, .inl (T 3, 900, .inl tx)), (a0, .inr (5, [.int (nI nv), .int (nI 0), .int ll_72, .int lov, .int (nI 0), .ref a1, .ref a2, .ref a3, .ref a4, .ref a5, .ref a6, .ref a7, .ref a8, .ref a9, .ref a10])), (a1, .inl (T 0, 10, .inl b1)), (a2, .inl (T 0, 10, .inl b2_)), (a3, .inl (T 0, 10, .inl b3)), (a4, .inl (T 0, 10, .inl b4)), (a5, .inl (T 0, 10, .inl b5)), (a6, .inl (T 0, 10, .inl b6)), (a7, .inl (T 0, 10, .inl b7)), (a8, .inl (T 0, 10, .inl b8)), (a9, .inl (T 0, 10, .inl b9))] H locs := V _ [0, 0, 0] rfl rfl rfl (by decide +kernel) rfl
                  show W p l e _ s m args below meth c H locs _ _ _ (F0 m 144 ls [])
                  have hl1 : lnA ft n (nv, pq, fq) = (nv, p2_69, fq) := (by rw [ln_no (p := pq) hk0 hk6 hk7, ← f_70])
                  have hl2 : p2_71 = edS ft n p2_69 := f_73
                  have hln2 : (nv, p2_71, upd fq 3 (fq 3 + nI 1)) = lnS ft n (nv, pq, fq) := by unfold lnS; rw [hl1, ← hl2]
                  have hln : (nv, p2_71, upd fq 3 (fq 3 + nI 1)) = itS ft n (0, nxS ft n (0, 0, 0, nu0, 0, wa0), frI ff) (k + 1) := by show _ = lnS ft n (itS ft n (0, nxS ft n (0, 0, 0, nu0, 0, wa0), frI ff) k); rw [← hit]; exact hln2
                  have hP2 : PI ft n p2_71 := by rw [f_73]; exact PI_ed hPl
                  obtain ⟨_, _, _, _, -⟩ := id hP2
                  have hcf2 := cF_le (p := p2_71) (by omega)
                  have hck2 := cK_le p2_71.2.2.1
                  have hcm : cF p2_71 = 0 → cF p2_69 = 0 := fun h => ed_cF (Eq.trans (congrArg cF f_73.symm) h)
                  refine lv_iinc (v := (nI (k + 1))) (lv' := [(3, .int (nI (k + 1))), (0, .ref t0), (1, .int (nI n)), (2, .ref a0)]) hx hb dX2_readStreet_144 hl (k := 0) rfl (nI_1 _) (by decide) rfl (fun ls hl => ?_)
                  refine lv_goto (tgt := 50) hx hb dX2_readStreet_147 (by decide) ?_
                  exact ih_50 (k + 1) nv ll_72 lov b1 b2_ b3 b4 b5 b6 b7 b8 b9 p2_71 nv (upd fq 3 (fq 3 + nI 1)) (by omega) (by omega) (by first | assumption | exact fun i h => (hto i h).elim (fun q => Or.inl (bd_le q (by omega))) Or.inr) hln (no_cst hit hc0 hk11 hns) hP2 (fun h => absurd (hcm h) (by rw [f_70]; exact fa_cF (by decide))) (by omega) _ _ _ V (lv_sub hl [0, 1, 2, 3] rfl)
  exact L_4 _ 0 0 (nI 0) (nI 20) af1 af2 af3 af4 af5 af6 af7 af8 gf p2_2 0 (frI ff) (by omega) (by omega) hft hi0 (fun i h => absurd h (Nat.not_lt_zero _)) hP0 (fun _ => ⟨rfl, RF_new hgf⟩) (Nat.lt_succ_self _) _ _ _ V (lv_sub hl [0, 1, 2, 3] rfl)
