/-! the class's view of the reading -/
def cK (k : Nat) : Nat := if k ≤ 8 then 1 else if k = 9 then 2 else if k = 10 then 3 else if k = 11 then 5 else 6
def cF (p : PS) : Nat := if p.2.2.2.2.1 = 0 then (if p.2.2.1 = 12 then 1 else 0) else p.2.2.2.2.1
def cP (p : PS) : Int32 := if p.2.2.2.2.1 = 0 then (if p.2.2.1 = 12 then nI p.1 else -1) else p.2.2.2.2.2
theorem cK_le (k : Nat) : cK k ≤ 6 := by unfold cK; split <;> (try split) <;> (try split) <;> (try split) <;> omega
theorem cK_1 {k : Nat} : cK k = 1 ↔ k ≤ 8 := by unfold cK; split <;> (try split) <;> (try split) <;> (try split) <;> omega
theorem cK_2 {k : Nat} : cK k = 2 ↔ k = 9 := by unfold cK; split <;> (try split) <;> (try split) <;> (try split) <;> omega
theorem cK_3 {k : Nat} : cK k = 3 ↔ k = 10 := by unfold cK; split <;> (try split) <;> (try split) <;> (try split) <;> omega
theorem cK_5 {k : Nat} : cK k = 5 ↔ k = 11 := by unfold cK; split <;> (try split) <;> (try split) <;> (try split) <;> omega
theorem cF_0 {p : PS} : cF p = 0 ↔ (p.2.2.2.2.1 = 0 ∧ ¬ p.2.2.1 = 12) := by
  unfold cF
  split
  · split <;> omega
  · omega
theorem cF_le {p : PS} (h : p.2.2.2.2.1 ≤ 4) : cF p ≤ 4 := by unfold cF; split <;> (try split) <;> omega
theorem cP_0 {p : PS} (h : cF p = 0) : cP p = -1 := by
  obtain ⟨h1, h2⟩ := cF_0.mp h
  unfold cP; rw [if_pos h1, if_neg h2]
/-- a FAULT is told: if there is none yet -/
theorem fa_v0 {f : Nat} {p : PS} (h : cF p = 0) (hf : ¬ f = 0) : faS f p = (p.1, p.2.1, p.2.2.1, p.2.2.2.1, f, nI p.1) ∧ cF (faS f p) = f ∧ cP (faS f p) = nI p.1 := by
  obtain ⟨h1, h2⟩ := cF_0.mp h
  rw [fa_0 h1 h2]
  refine ⟨rfl, ?_, ?_⟩
  · unfold cF; rw [if_neg hf]
  · unfold cP; rw [if_neg hf]
theorem fa_v1 {f : Nat} {p : PS} (h : ¬ cF p = 0) : (faS f p).1 = p.1 ∧ (faS f p).2.1 = p.2.1 ∧ (faS f p).2.2.1 = p.2.2.1 ∧ cF (faS f p) = cF p ∧ cP (faS f p) = cP p := by
  by_cases h1 : p.2.2.2.2.1 = 0
  · by_cases h2 : p.2.2.1 = 12
    · rw [fa_12 h1 h2]
      refine ⟨rfl, rfl, rfl, ?_, ?_⟩
      · show (1 : Nat) = cF p
        unfold cF; rw [if_pos h1, if_pos h2]
      · show nI p.1 = cP p
        unfold cP; rw [if_pos h1, if_pos h2]
    · exact absurd (cF_0.mpr ⟨h1, h2⟩) h
  · rw [fa_n0 h1]; exact ⟨rfl, rfl, rfl, rfl, rfl⟩
theorem fa_cF {f : Nat} {p : PS} (hf : ¬ f = 0) : ¬ cF (faS f p) = 0 := fun h => fa_w hf (cF_0.mp h).1
theorem tk_cF {t : Nat → Int32} {sz : Nat} {lo hi : Int32} {p : PS} (h : cF (tkS t sz lo hi p) = 0) : cF p = 0 ∧ p.2.2.1 = 9 := by
  by_cases c : p.2.2.2.2.1 = 0 ∧ p.2.2.1 = 9
  · exact ⟨cF_0.mpr ⟨c.1, by omega⟩, c.2⟩
  · rw [tk_2 c] at h; exact absurd h (fa_cF (by decide))
theorem ti_cF {t : Nat → Int32} {sz k : Nat} {lo hi : Int32} {p : PS} (hk : k < 9) (h : cF (tiS t sz k lo hi p) = 0) : cF p = 0 := by
  by_cases c : p.2.2.2.2.1 = 0 ∧ p.2.2.1 = k
  · exact cF_0.mpr ⟨c.1, by omega⟩
  · rw [ti_n c] at h; exact h
theorem ti_ff {t : Nat → Int32} {sz k : Nat} {lo hi : Int32} {p : PS} (hk : k < 9) (h : ¬ cF p = 0) : tiS t sz k lo hi p = p := by
  refine ti_n (fun c => h (cF_0.mpr ⟨c.1, by omega⟩))
/-- a byte with its sign -/
def sB (x : Int32) : Int32 := x.toInt8.toInt32
/-- the class's kinds of a byte -/
def ckS (x : Int32) : Nat := if x < nI 97 ∨ nI 122 < x then (if x < nI 48 ∨ nI 57 < x then (if x = nI 10 ∨ x = nI 32 then 4 else if x = nI 59 then 3 else 6) else 2) else 1
def ckA (t : Nat → Int32) (sz j : Nat) : Nat := if j < sz then ckS (t j) else 5
theorem ckS_1 {x : Int32} (h : ¬ x < nI 97) (h2 : ¬ nI 122 < x) : ckS x = 1 := by unfold ckS; rw [if_neg (fun q => q.elim h h2)]
theorem ckS_2 {x : Int32} (h0 : x < nI 97 ∨ nI 122 < x) (h : ¬ x < nI 48) (h2 : ¬ nI 57 < x) : ckS x = 2 := by unfold ckS; rw [if_pos h0, if_neg (fun q => q.elim h h2)]
theorem ckS_4 {x : Int32} (h0 : x < nI 97 ∨ nI 122 < x) (h : x < nI 48 ∨ nI 57 < x) (h2 : x = nI 10 ∨ x = nI 32) : ckS x = 4 := by unfold ckS; rw [if_pos h0, if_pos h, if_pos h2]
theorem ckS_3 {x : Int32} (h0 : x < nI 97 ∨ nI 122 < x) (h : x < nI 48 ∨ nI 57 < x) (h2 : ¬ x = nI 10) (h3 : ¬ x = nI 32) (h4 : x = nI 59) : ckS x = 3 := by unfold ckS; rw [if_pos h0, if_pos h, if_neg (fun q => q.elim h2 h3), if_pos h4]
theorem ckS_6 {x : Int32} (h0 : x < nI 97 ∨ nI 122 < x) (h : x < nI 48 ∨ nI 57 < x) (h2 : ¬ x = nI 10) (h3 : ¬ x = nI 32) (h4 : ¬ x = nI 59) : ckS x = 6 := by unfold ckS; rw [if_pos h0, if_pos h, if_neg (fun q => q.elim h2 h3), if_neg h4]
theorem ck_sB {x : Int32} (h : bd x 256) : ckS (sB x) = ckS x := by
  obtain ⟨j, hj, rfl⟩ := h
  have H : ∀ j : Fin 256, ckS (sB (nI j.1)) = ckS (nI j.1) := by decide +kernel
  exact H ⟨j, hj⟩
theorem ck256 {x : Int32} (h : bd x 256) : (ckS x = 1 ↔ smB x = true) ∧ (ckS x = 2 ↔ dgB x = true) ∧ (ckS x = 4 ↔ blkB x = true) ∧ (ckS x = 3 ↔ x = nI 59) ∧ 1 ≤ ckS x ∧ ckS x ≤ 6 ∧ ¬ ckS x = 5 := by
  obtain ⟨j, hj, rfl⟩ := h
  have H : ∀ j : Fin 256, (ckS (nI j.1) = 1 ↔ smB (nI j.1) = true) ∧ (ckS (nI j.1) = 2 ↔ dgB (nI j.1) = true) ∧ (ckS (nI j.1) = 4 ↔ blkB (nI j.1) = true) ∧ (ckS (nI j.1) = 3 ↔ nI j.1 = nI 59) ∧ 1 ≤ ckS (nI j.1) ∧ ckS (nI j.1) ≤ 6 ∧ ¬ ckS (nI j.1) = 5 := by decide +kernel
  exact H ⟨j, hj⟩
theorem sB_sm {x : Int32} (h : bd x 256) (hs : smB x = true) : sB x = x := by
  obtain ⟨j, hj, rfl⟩ := h
  have H : ∀ j : Fin 256, smB (nI j.1) = true → sB (nI j.1) = nI j.1 := by decide +kernel
  exact H ⟨j, hj⟩ hs
theorem sB_dg {x : Int32} (h : bd x 256) (hs : dgB x = true) : sB x = x := by
  obtain ⟨j, hj, rfl⟩ := h
  have H : ∀ j : Fin 256, dgB (nI j.1) = true → sB (nI j.1) = nI j.1 := by decide +kernel
  exact H ⟨j, hj⟩ hs
/-- the text as both have it -/
def TXT (sz : Nat) (tx t : Nat → Int32) : Prop := ∀ i, i < sz → bd (t i) 256 ∧ tx i = sB (t i)
theorem ck_mk {tx t : Nat → Int32} {sz j k : Nat} (h : TXT sz tx t) (hj : j < sz) (e : ckS (tx j) = k) : k = ckA t sz j := by
  unfold ckA; rw [if_pos hj, ← e, (h j hj).2, ck_sB (h j hj).1]
theorem ck_5 {t : Nat → Int32} {sz j : Nat} (hj : sz ≤ j) : 5 = ckA t sz j := by unfold ckA; rw [if_neg (by omega)]
theorem ckA_le {tx t : Nat → Int32} {sz : Nat} (h : TXT sz tx t) (j : Nat) : 1 ≤ ckA t sz j ∧ ckA t sz j ≤ 6 := by
  unfold ckA
  split
  · rename_i hj; have := ck256 (h j hj).1; exact ⟨this.2.2.2.2.1, this.2.2.2.2.2.1⟩
  · omega
theorem ckA_bl {tx t : Nat → Int32} {sz j z : Nat} (h : TXT sz tx t) (hj : j < sz) (e : z = ckA t sz j) : z = 4 ↔ blkB (t j) = true := by
  unfold ckA at e; rw [if_pos hj] at e; rw [e]; exact (ck256 (h j hj).1).2.2.1
theorem ckA_sm {tx t : Nat → Int32} {sz j z : Nat} (h : TXT sz tx t) (hj : j < sz) (e : z = ckA t sz j) : z = 1 ↔ smB (t j) = true := by
  unfold ckA at e; rw [if_pos hj] at e; rw [e]; exact (ck256 (h j hj).1).1
theorem ckA_dg {tx t : Nat → Int32} {sz j z : Nat} (h : TXT sz tx t) (hj : j < sz) (e : z = ckA t sz j) : z = 2 ↔ dgB (t j) = true := by
  unfold ckA at e; rw [if_pos hj] at e; rw [e]; exact (ck256 (h j hj).1).2.1
theorem ckA_sg {tx t : Nat → Int32} {sz j z : Nat} (h : TXT sz tx t) (hj : j < sz) (e : z = ckA t sz j) : z = 3 ↔ t j = nI 59 := by
  unfold ckA at e; rw [if_pos hj] at e; rw [e]; exact (ck256 (h j hj).1).2.2.2.1
theorem ckA_end {tx t : Nat → Int32} {sz j z : Nat} (h : TXT sz tx t) (e : z = ckA t sz j) : z = 5 ↔ sz ≤ j := by
  unfold ckA at e
  by_cases hj : j < sz
  · rw [if_pos hj] at e
    have := (ck256 (h j hj).1).2.2.2.2.2.2
    omega
  · rw [if_neg hj] at e
    omega
/-- where the TOKEN ends, by the class -/
theorem nt_B {tx t : Nat → Int32} {sz a b z : Nat} (h : TXT sz tx t) (ha : a ≤ sz) (hb : b ≤ sz) (e : z = ckA t sz a) (h1 : z = 1 → rn smB t sz b = rn smB t sz a) (h2 : z = 2 → rn dgB t sz b = rn dgB t sz a) (h3 : ¬ z = 1 → ¬ z = 2 → b = min (a + 1) sz)
    (hx : sz ≤ b ∨ (¬ z = 1 ∧ ¬ z = 2) ∨ (b < sz ∧ ¬ ckA t sz b = z)) : b = tkB t sz a := by
  by_cases ca : a < sz
  · by_cases c1 : z = 1
    · rw [tkB_w ca ((ckA_sm h ca e).mp c1)]
      refine rn_st (h1 c1) ?_
      rcases hx with q | q | ⟨q, q2⟩
      · exact rn_end q
      · exact absurd c1 q.1
      · exact rn_no (fun r => q2 (((ckA_sm h q rfl).mpr r).trans c1.symm))
    · by_cases c2 : z = 2
      · have hd := (ckA_dg h ca e).mp c2
        rw [tkB_d ca (dg_not_sm hd) hd]
        refine rn_st (h2 c2) ?_
        rcases hx with q | q | ⟨q, q2⟩
        · exact rn_end q
        · exact absurd c2 q.2
        · exact rn_no (fun r => q2 (((ckA_dg h q rfl).mpr r).trans c2.symm))
      · rw [tkB_s ca (fun r => c1 ((ckA_sm h ca e).mpr r)) (fun r => c2 ((ckA_dg h ca e).mpr r)), h3 c1 c2]
        omega
  · have : ¬ z = 1 := fun r => by have := (ckA_end h e).mpr (by omega); omega
    have h5 := (ckA_end h e).mpr (by omega)
    rw [tkB_e (by omega), h3 (by omega) (by omega)]
    omega
/-- its kind, by the class -/
theorem nt_K {tx t : Nat → Int32} {sz a b z : Nat} (h : TXT sz tx t) (ha : a ≤ sz) (e : z = ckA t sz a) (hb : a < sz → ¬ blkB (t a) = true) (h6 : ¬ z = 6) (h3 : z = 2 → b - a ≤ 3) : cK (tkK t sz a b) = z ∧ ¬ tkK t sz a b = 12 := by
  by_cases ca : a < sz
  · by_cases c1 : z = 1
    · rw [tkK_w ca ((ckA_sm h ca e).mp c1)]
      have := keyOf_le t a b
      exact ⟨(cK_1.mpr this).trans c1.symm, by omega⟩
    · by_cases c2 : z = 2
      · have hd := (ckA_dg h ca e).mp c2
        rw [tkK_d9 ca (dg_not_sm hd) hd (h3 c2), c2]
        exact ⟨rfl, by decide⟩
      · have n1 : ¬ smB (t a) = true := fun r => c1 ((ckA_sm h ca e).mpr r)
        have n2 : ¬ dgB (t a) = true := fun r => c2 ((ckA_dg h ca e).mpr r)
        have n4 : ¬ z = 4 := fun r => hb ca ((ckA_bl h ca e).mp r)
        have n5 : ¬ z = 5 := fun r => by have := (ckA_end h e).mp r; omega
        have hz := ckA_le h a
        have c3 : z = 3 := by omega
        rw [tkK_10 ca n1 n2 ((ckA_sg h ca e).mp c3), c3]
        exact ⟨rfl, by decide⟩
  · rw [tkK_e (by omega), (ckA_end h e).mpr (by omega)]
    exact ⟨rfl, by decide⟩
theorem nt_K12 {tx t : Nat → Int32} {sz a b z : Nat} (h : TXT sz tx t) (e : z = ckA t sz a) (h6 : z = 6 ∨ (z = 2 ∧ 3 < b - a)) : tkK t sz a b = 12 := by
  have ca : a < sz := by
    apply Classical.byContradiction
    intro q
    have := (ckA_end h e).mpr (by omega)
    omega
  rcases h6 with c6 | ⟨c2, c3⟩
  · exact tkK_12 ca (fun r => by have := (ckA_sm h ca e).mpr r; omega) (fun r => by have := (ckA_dg h ca e).mpr r; omega) (fun r => by have := (ckA_sg h ca e).mpr r; omega)
  · have hd := (ckA_dg h ca e).mp c2
    exact tkK_d12 ca (dg_not_sm hd) hd c3
/-- the next TOKEN, by the class: as it is told, and with a FAULT -/
theorem nt_v {tx t : Nat → Int32} {sz be a b z : Nat} {nu wa : Int32} (h : TXT sz tx t) (ha : a ≤ sz) (ea : a = rn blkB t sz be) (eb : b = tkB t sz a) (e : z = ckA t sz a) (hb : a < sz → ¬ blkB (t a) = true) (h6 : ¬ z = 6) (h3 : z = 2 → b - a ≤ 3) :
    (nxS t sz (0, be, 0, nu, 0, wa)).1 = a ∧ (nxS t sz (0, be, 0, nu, 0, wa)).2.1 = b ∧ cK (nxS t sz (0, be, 0, nu, 0, wa)).2.2.1 = z ∧ cF (nxS t sz (0, be, 0, nu, 0, wa)) = 0 ∧ cP (nxS t sz (0, be, 0, nu, 0, wa)) = -1 := by
  obtain ⟨q1, q2⟩ := nt_K (b := b) h ha e hb h6 h3
  have e0 := (nx_eq (t := t) (sz := sz) (p := (0, be, 0, nu, 0, wa)) ea eb rfl rfl rfl rfl).symm
  have e1 : (nxS t sz (0, be, 0, nu, 0, wa)).2.2.1 = tkK t sz a b := by rw [e0]
  have e2 : cF (nxS t sz (0, be, 0, nu, 0, wa)) = 0 := cF_0.mpr ⟨rfl, by rw [e1]; exact q2⟩
  exact ⟨by rw [e0], by rw [e0], by rw [e1]; exact q1, e2, cP_0 e2⟩
theorem nt_f {tx t : Nat → Int32} {sz be a b z : Nat} {nu wa : Int32} (h : TXT sz tx t) (ea : a = rn blkB t sz be) (eb : b = tkB t sz a) (e : z = ckA t sz a) (h6 : z = 6 ∨ (z = 2 ∧ 3 < b - a)) :
    (nxS t sz (0, be, 0, nu, 0, wa)).1 = a ∧ (nxS t sz (0, be, 0, nu, 0, wa)).2.1 = b ∧ cK (nxS t sz (0, be, 0, nu, 0, wa)).2.2.1 = 6 ∧ cF (nxS t sz (0, be, 0, nu, 0, wa)) = 1 ∧ cP (nxS t sz (0, be, 0, nu, 0, wa)) = nI a := by
  have q := nt_K12 h e h6
  have e0 := (nx_eq (t := t) (sz := sz) (p := (0, be, 0, nu, 0, wa)) ea eb rfl rfl rfl rfl).symm
  have e1 : (nxS t sz (0, be, 0, nu, 0, wa)).2.2.1 = 12 := by rw [e0]; exact q
  have ew : (nxS t sz (0, be, 0, nu, 0, wa)).2.2.2.2.1 = 0 := rfl
  refine ⟨by rw [e0], by rw [e0], by rw [e1]; rfl, ?_, ?_⟩
  · unfold cF; rw [if_pos ew, if_pos e1]
  · unfold cP; rw [if_pos ew, if_pos e1, e0]
theorem nx_w0 {t : Nat → Int32} {sz : Nat} {p : PS} (h : p.2.2.2.2.1 = 0) : nxS t sz (0, p.2.1, 0, p.2.2.2.1, 0, p.2.2.2.2.2) = nxS t sz p := by
  unfold nxS; rw [h]
theorem nx_c0 {t : Nat → Int32} {sz : Nat} {p : PS} (h : cF p = 0) : nxS t sz (0, p.2.1, 0, p.2.2.2.1, 0, p.2.2.2.2.2) = nxS t sz p := nx_w0 (cF_0.mp h).1
theorem min_go {t : Nat → Int32} {pr : Int32 → Bool} {sz a : Nat} (h : a < sz) (hp : pr (t a) = true) : rn pr t sz (min (a + 1) sz) = rn pr t sz a := by
  rw [rn_go h hp, Nat.min_eq_left (by omega)]
/-- the digits of a TOKEN -/
theorem pi_dg {t : Nat → Int32} {sz : Nat} {p : PS} (h : PI t sz p) (h9 : p.2.2.1 = 9) : ∀ j, p.1 ≤ j → j < p.2.1 → dgB (t j) = true := by
  obtain ⟨a1, a2, a3, a4, a6, a7, a8⟩ := h
  rw [a6] at h9
  obtain ⟨q1, q2, q3, q4⟩ := tk9 h9
  have e : p.2.1 = rn dgB t sz p.1 := a7.trans (tkB_d q1 q2 q3)
  intro j h1 h2
  rw [e] at h2
  exact rn_all (by omega) j h1 h2
theorem pi_sm {t : Nat → Int32} {sz : Nat} {p : PS} (h : PI t sz p) (h9 : p.2.2.1 ≤ 8) : p.1 < sz ∧ p.2.2.1 = keyOf t p.1 p.2.1 ∧ ∀ j, p.1 ≤ j → j < p.2.1 → smB (t j) = true := by
  obtain ⟨a1, a2, a3, a4, a6, a7, a8⟩ := h
  have h1 : p.1 < sz := by
    apply Classical.byContradiction
    intro q
    rw [tkK_e (by omega)] at a6
    omega
  have h2 : smB (t p.1) = true := by
    apply Classical.byContradiction
    intro q
    by_cases c : dgB (t p.1) = true
    · by_cases c2 : 3 < p.2.1 - p.1
      · rw [tkK_d12 h1 q c c2] at a6; omega
      · rw [tkK_d9 h1 q c (by omega)] at a6; omega
    · by_cases c2 : t p.1 = nI 59
      · rw [tkK_10 h1 q c c2] at a6; omega
      · rw [tkK_12 h1 q c c2] at a6; omega
  refine ⟨h1, a6.trans (tkK_w h1 h2), ?_⟩
  have e : p.2.1 = rn smB t sz p.1 := a7.trans (tkB_w h1 h2)
  intro j q1 q2
  rw [e] at q2
  exact rn_all (by omega) j q1 q2
theorem nu_c {tx t : Nat → Int32} {sz j : Nat} {p : PS} {wv : Int32} (h : TXT sz tx t) (hP : PI t sz p) (h9 : p.2.2.1 = 9) (h1 : p.1 ≤ j) (h2 : j < p.2.1) (e : wv = nuV t p.1 (j - p.1)) : nI 10 * wv + tx j - nI 48 = nuV t p.1 (j + 1 - p.1) := by
  have hd := pi_dg hP h9 j h1 h2
  have hs := h j (Nat.lt_of_lt_of_le h2 hP.2.1)
  rw [hs.2, sB_dg hs.1 hd, e, show j + 1 - p.1 = (j - p.1) + 1 by omega]
  show _ = nI 10 * nuV t p.1 (j - p.1) + t (p.1 + (j - p.1)) - nI 48
  rw [show p.1 + (j - p.1) = j by omega]
theorem iw_len {t : Nat → Int32} {sz si : Nat} {p : PS} (hP : PI t sz p) (hs : si < 8) (h : ¬ p.2.1 = p.1 + sLen.getD si 0) : ¬ p.2.2.1 = si := by
  intro e
  have q := (pi_sm hP (by omega)).2.1
  exact h ((keyOf_iff hs).mp (q.symm.trans e)).1
theorem iw_ch {tx t : Nat → Int32} {sz si k : Nat} {p : PS} (h : TXT sz tx t) (hP : PI t sz p) (hs : si < 8) (h8 : p.2.2.1 ≤ 8) (hk : k < sLen.getD si 0) (hl : p.2.1 = p.1 + sLen.getD si 0) : tx (p.1 + k) = t (p.1 + k) := by
  have q := (pi_sm hP h8).2.2 (p.1 + k) (by omega) (by omega)
  have hx := h (p.1 + k) (by have := hP.2.1; omega)
  rw [hx.2, sB_sm hx.1 q]
theorem iw_no {t : Nat → Int32} {sz si k : Nat} {p : PS} (hP : PI t sz p) (hs : si < 8) (hk : k < sLen.getD si 0) (h : ¬ t (p.1 + k) = sch si k) : ¬ p.2.2.1 = si := by
  intro e
  have q := (pi_sm hP (by omega)).2.1
  exact h (((keyOf_iff hs).mp (q.symm.trans e)).2 k hk)
theorem iw_y {t : Nat → Int32} {sz si : Nat} {p : PS} (hP : PI t sz p) (hs : si < 8) (h8 : p.2.2.1 ≤ 8) (hl : p.2.1 = p.1 + sLen.getD si 0) (h : ∀ k, k < sLen.getD si 0 → t (p.1 + k) = sch si k) : p.2.2.1 = si :=
  (pi_sm hP h8).2.1.trans (keyOf_is hs ⟨hl, h⟩)

theorem nt_lt {tx t : Nat → Int32} {sz a z : Nat} (h : TXT sz tx t) (e : z = ckA t sz a) (h5 : ¬ z = 5) : a < sz := by
  apply Classical.byContradiction
  intro q
  exact h5 ((ckA_end h e).mpr (by omega))

theorem tk_3w {t : Nat → Int32} {sz : Nat} {lo hi : Int32} {p : PS} (h9 : p.2.2.1 = 9) (h : p.2.2.2.1 < lo ∨ hi < p.2.2.2.1) : faS 3 p = tkS t sz lo hi p := by
  by_cases c : p.2.2.2.2.1 = 0
  · exact (tk_3 c h9 h).symm
  · rw [tk_w c, fa_n0 c]
