/-! ROWS as both have them -/
/-- the row k of the class (h: is it there; z numbers F of the sort so) against the reference's -/
def RW (k : Nat) (h : Int32) (z so : Nat) (F : Nat → Int64) (fq fm : Nat → Int32) (fn : Nat → Int64) : Prop := (h = 0 ∧ fq k = -1) ∨ (¬ h = 0 ∧ fq k = nI so ∧ fm k = nI z ∧ ∀ i, i < z → F i = fn (40 * k + i))
theorem RW_0 {k z so : Nat} {h : Int32} {F fn : Nat → Int64} {fq fm : Nat → Int32} (H : RW k h z so F fq fm fn) (hs : so ≤ 3) : h = 0 ↔ fq k = -1 := by
  rcases H with ⟨a, b⟩ | ⟨a, b, -, -⟩
  · exact ⟨fun _ => b, fun _ => a⟩
  · exact ⟨fun q => absurd q a, fun q => absurd (b.symm.trans q) (m1_ne so (by omega))⟩
theorem RW_y {k z so : Nat} {h : Int32} {F fn : Nat → Int64} {fq fm : Nat → Int32} (H : RW k h z so F fq fm fn) (hh : ¬ h = 0) : fq k = nI so ∧ fm k = nI z ∧ ∀ i, i < z → F i = fn (40 * k + i) := by
  rcases H with ⟨a, -⟩ | ⟨-, b⟩
  · exact absurd a hh
  · exact b
theorem ni_4 : ∀ i j : Fin 4, i ≠ j → ¬ nI i.1 = nI j.1 := by decide +kernel
theorem ni4 {i j : Nat} (hi : i < 4) (hj : j < 4) (h : i ≠ j) : ¬ nI i = nI j := ni_4 ⟨i, hi⟩ ⟨j, hj⟩ (fun e => h (congrArg Fin.val e))
/-- why a row is refused -/
def rowR (fq : Nat → Int32) (row : Int32) : Int32 := if row < 0 ∨ nI 4 ≤ row then -2 else if fq row.toNatClampNeg = -1 then -6 else nI 0
theorem rr_2 {fq : Nat → Int32} {row : Int32} (h : row < 0 ∨ nI 4 ≤ row) : -2 = rowR fq row := by unfold rowR; rw [if_pos h]
theorem rr_6 {fq : Nat → Int32} {row : Int32} {k : Nat} (e : row = nI k) (hk : k < 4) (h : fq k = -1) : -6 = rowR fq row := by
  have h4 := rw_in e hk
  subst e
  unfold rowR; rw [if_neg h4, nI_clamp (by omega), if_pos h]
theorem rr_0 {fq : Nat → Int32} {row : Int32} {k : Nat} (e : row = nI k) (hk : k < 4) (h : ¬ fq k = -1) : rowR fq row = nI 0 := by
  have h4 := rw_in e hk
  subst e
  unfold rowR; rw [if_neg h4, nI_clamp (by omega), if_neg h]
theorem rr_s {fq : Nat → Int32} {row : Int32} {k so : Nat} (e : row = nI k) (hk : k < 4) (h : fq k = nI so) (hs : so ≤ 3) : rowR fq row = nI 0 := rr_0 e hk (fun q => m1_ne so (by omega) (h.symm.trans q))
theorem rr_eq {fq : Nat → Int32} {row a b c d : Int32} (i0 : a = 0 ↔ fq 0 = -1) (i1 : b = 0 ↔ fq 1 = -1) (i2 : c = 0 ↔ fq 2 = -1) (i3 : d = 0 ↔ fq 3 = -1) : rowWhy row a b c d = rowR fq row := by
  by_cases q : row < 0 ∨ nI 4 ≤ row
  · rw [← rr_2 q]; unfold rowWhy; rw [if_pos q]
  · obtain ⟨j, hj, e⟩ := g_idx (n := 4) (by decide) (fun r => q (Or.inl r)) (fun r => q (Or.inr r))
    have e0 : ∀ x, x < 4 → row = nI x → x = j := fun x hx r => by
      by_cases y : x = j
      · exact y
      · exact absurd (r.symm.trans e) (ni4 hx hj y)
    by_cases w : fq j = -1
    · rw [← rr_6 e hj w]; unfold rowWhy; rw [if_neg q, if_pos]
      have : j = 0 ∨ j = 1 ∨ j = 2 ∨ j = 3 := by omega
      rcases this with rfl | rfl | rfl | rfl
      · exact Or.inl ⟨e, i0.mpr w⟩
      · exact Or.inr (Or.inl ⟨e, i1.mpr w⟩)
      · exact Or.inr (Or.inr (Or.inl ⟨e, i2.mpr w⟩))
      · exact Or.inr (Or.inr (Or.inr ⟨e, i3.mpr w⟩))
    · rw [rr_0 e hj w]; unfold rowWhy; rw [if_neg q, if_neg]
      · rfl
      · rintro (⟨r, x⟩ | ⟨r, x⟩ | ⟨r, x⟩ | ⟨r, x⟩)
        · exact w (by rw [← e0 0 (by decide) r]; exact i0.mp x)
        · exact w (by rw [← e0 1 (by decide) r]; exact i1.mp x)
        · exact w (by rw [← e0 2 (by decide) r]; exact i2.mp x)
        · exact w (by rw [← e0 3 (by decide) r]; exact i3.mp x)
/-! numbers -/
def numQ (fq : Nat → Int32) (row so n : Int32) : Nat → Int32 := if numWhy row so n = nI 0 then upd fq row.toNatClampNeg so else fq
def numM (fm : Nat → Int32) (row so n : Int32) : Nat → Int32 := if numWhy row so n = nI 0 then upd fm row.toNatClampNeg n else fm
def numN (fn : Nat → Int64) (row so n : Int32) : Nat → Int64 := if numWhy row so n = nI 0 then (fun j => if 40 * row.toNatClampNeg ≤ j ∧ j < 40 * row.toNatClampNeg + n.toNatClampNeg then 0 else fn j) else fn
theorem nw_n0 {z row so n : Int32} (h : z = numWhy row so n) (hz : ¬ z = nI 0) : ¬ numWhy row so n = nI 0 := fun q => hz (h.trans q)
theorem RN_n {j z so' : Nat} {h row so n : Int32} {F fn : Nat → Int64} {fq fm : Nat → Int32} (w : ¬ numWhy row so n = nI 0) (H : RW j h z so' F fq fm fn) : RW j h z so' F (numQ fq row so n) (numM fm row so n) (numN fn row so n) := by
  unfold numQ numM numN; rw [if_neg w, if_neg w, if_neg w]; exact H
theorem RN_o {j k z so' jn : Nat} {h row so n : Int32} {F fn : Nat → Int64} {fq fm : Nat → Int32} (w : nI 0 = numWhy row so n) (e : row = nI k) (hk : k < 4) (hj : j < 4) (hjk : j ≠ k) (en : n = nI jn) (hn : jn ≤ 40) (hz : z ≤ 40) (H : RW j h z so' F fq fm fn) : RW j h z so' F (numQ fq row so n) (numM fm row so n) (numN fn row so n) := by
  unfold numQ numM numN; rw [if_pos w.symm, if_pos w.symm, if_pos w.symm]
  subst e; subst en
  rw [nI_clamp (by omega), nI_clamp (by omega)]
  unfold RW
  rw [up_other hjk, up_other hjk]
  rcases H with H | ⟨a, b, c, d⟩
  · exact Or.inl H
  · refine Or.inr ⟨a, b, c, fun i hi => ?_⟩
    show F i = if 40 * k ≤ 40 * j + i ∧ 40 * j + i < 40 * k + jn then 0 else fn (40 * j + i)
    rw [if_neg (by omega)]; exact d i hi
theorem RN_y {k jn js : Nat} {row so n : Int32} {F fn : Nat → Int64} {fq fm : Nat → Int32} (w : nI 0 = numWhy row so n) (e : row = nI k) (hk : k < 4) (en : n = nI jn) (hn : jn ≤ 40) (es : so = nI js) (hF : ∀ i, i < 40 → F i = 0) : RW k (nI 1) jn js F (numQ fq row so n) (numM fm row so n) (numN fn row so n) := by
  unfold numQ numM numN; rw [if_pos w.symm, if_pos w.symm, if_pos w.symm]
  subst e; subst en; subst es
  rw [nI_clamp (by omega), nI_clamp (by omega)]
  refine Or.inr ⟨by decide +kernel, up_same, up_same, fun i hi => ?_⟩
  show F i = if 40 * k ≤ 40 * k + i ∧ 40 * k + i < 40 * k + jn then 0 else fn (40 * k + i)
  rw [if_pos (by omega)]; exact hF i (by omega)
theorem NM_n {z row so n : Int32} {fn : Nat → Int64} {fq fm : Nat → Int32} (h : z = numWhy row so n) (hz : ¬ z = nI 0) : fq = numQ fq row so n ∧ fm = numM fm row so n ∧ fn = numN fn row so n := by
  have w := nw_n0 h hz
  unfold numQ numM numN; rw [if_neg w, if_neg w, if_neg w]; exact ⟨rfl, rfl, rfl⟩
theorem NM_y {k jn js : Nat} {row so n : Int32} {fn G : Nat → Int64} {fq fm : Nat → Int32} (w : nI 0 = numWhy row so n) (e : row = nI k) (hk : k ≤ 3) (es : so = nI js) (en : n = nI jn) (hn : jn ≤ 40) (h1 : ∀ j, j < jn → G (40 * k + j) = 0) (h2 : ∀ j, (j < 40 * k ∨ 40 * k + jn ≤ j) → G j = fn j) : upd fq k (nI js) = numQ fq row so n ∧ upd fm k (nI jn) = numM fm row so n ∧ G = numN fn row so n := by
  unfold numQ numM numN; rw [if_pos w.symm, if_pos w.symm, if_pos w.symm]
  subst e; subst en; subst es
  rw [nI_clamp (by omega), nI_clamp (by omega)]
  refine ⟨rfl, rfl, funext (fun j => ?_)⟩
  by_cases c : 40 * k ≤ j ∧ j < 40 * k + jn
  · rw [if_pos c]
    have := h1 (j - 40 * k) (by omega)
    rw [show 40 * k + (j - 40 * k) = j by omega] at this; exact this
  · rw [if_neg c]; exact h2 j (by omega)
theorem z64 : (nI 0).toInt64 = 0 := by decide +kernel
/-! write -/
def wrA (fq fm : Nat → Int32) (row i : Int32) (v : Int64) : Int64 := if row < 0 ∨ nI 4 ≤ row then -2 else if fq row.toNatClampNeg = -1 then -6 else if i < nI 0 ∨ fm row.toNatClampNeg - nI 1 < i then -7 else cutv (fq row.toNatClampNeg).toNatClampNeg v
def wrN (fn : Nat → Int64) (fq fm : Nat → Int32) (row i : Int32) (v : Int64) : Nat → Int64 := if rowR fq row = nI 0 ∧ ¬ (i < nI 0 ∨ fm row.toNatClampNeg - nI 1 < i) then vp_updL fn (40 * row.toNatClampNeg + i.toNatClampNeg) (cutv (fq row.toNatClampNeg).toNatClampNeg v) else fn
theorem m2_0 : ¬ (-2 : Int32) = nI 0 := by decide +kernel
theorem m6_0 : ¬ (-6 : Int32) = nI 0 := by decide +kernel
theorem m2_64 : (-2 : Int32).toInt64 = -2 := by decide +kernel
theorem m6_64 : (-6 : Int32).toInt64 = -6 := by decide +kernel
theorem wr_2 {fq fm : Nat → Int32} {fn : Nat → Int64} {row i : Int32} {v : Int64} (h : row < 0 ∨ nI 4 ≤ row) : -2 = wrA fq fm row i v ∧ fn = wrN fn fq fm row i v := by
  have q : ¬ rowR fq row = nI 0 := by rw [← rr_2 h]; exact m2_0
  unfold wrA wrN; rw [if_pos h, if_neg (fun r => q r.1)]; exact ⟨rfl, rfl⟩
theorem wr_6 {fq fm : Nat → Int32} {fn : Nat → Int64} {row i : Int32} {v : Int64} {k : Nat} (e : row = nI k) (hk : k < 4) (h : fq k = -1) : -6 = wrA fq fm row i v ∧ fn = wrN fn fq fm row i v := by
  have q : ¬ rowR fq row = nI 0 := by rw [← rr_6 e hk h]; exact m6_0
  have h4 := rw_in e hk
  unfold wrA wrN; rw [if_neg h4]
  subst e
  rw [nI_clamp (by omega), if_pos h, if_neg (fun r => q r.1)]; exact ⟨rfl, rfl⟩
theorem wr_r {fq fm : Nat → Int32} {fn : Nat → Int64} {row i z : Int32} {v : Int64} (h : z = rowR fq row) (hz : ¬ z = 0) : z.toInt64 = wrA fq fm row i v ∧ fn = wrN fn fq fm row i v := by
  by_cases q : row < 0 ∨ nI 4 ≤ row
  · have e : z = -2 := by rw [h, ← rr_2 q]
    rw [e, m2_64]; exact wr_2 q
  · obtain ⟨j, hj, e⟩ := g_idx (n := 4) (by decide) (fun r => q (Or.inl r)) (fun r => q (Or.inr r))
    by_cases w : fq j = -1
    · have e2 : z = -6 := by rw [h, ← rr_6 e hj w]
      rw [e2, m6_64]; exact wr_6 e hj w
    · exact absurd (h.trans (rr_0 e hj w)) hz
theorem wr_7 {fq fm : Nat → Int32} {fn : Nat → Int64} {row i : Int32} {v : Int64} {k z : Nat} (e : row = nI k) (hk : k < 4) (h0 : ¬ fq k = -1) (ez : fm k = nI z) (hi : i < nI 0 ∨ nI z - nI 1 < i) : -7 = wrA fq fm row i v ∧ fn = wrN fn fq fm row i v := by
  have h4 := rw_in e hk
  unfold wrA wrN; rw [if_neg h4]
  subst e
  rw [nI_clamp (by omega), if_neg h0, ez, if_pos hi, if_neg (fun r => r.2 hi)]; exact ⟨rfl, rfl⟩
theorem wr_y {fq fm : Nat → Int32} {fn : Nat → Int64} {row i : Int32} {v : Int64} {k z so ji : Nat} (e : row = nI k) (hk : k < 4) (hq : fq k = nI so) (hs : so ≤ 3) (ez : fm k = nI z) (h1 : ¬ i < nI 0) (h2 : ¬ nI z - nI 1 < i) (ei : i = nI ji) (hj : ji < 40) : cutv so v = wrA fq fm row i v ∧ vp_updL fn (40 * k + ji) (cutv so v) = wrN fn fq fm row i v := by
  have h4 := rw_in e hk
  have q := rr_s e hk hq hs
  unfold wrA wrN; rw [if_neg h4]
  have e' := e
  subst e
  have h12 : ¬ (i < nI 0 ∨ nI z - nI 1 < i) := fun r => r.elim h1 h2
  rw [nI_clamp (by omega), if_neg (fun r => m1_ne so (by omega) (hq.symm.trans r)), ez, if_neg h12, if_pos ⟨q, h12⟩, hq, nI_clamp (by omega), ei, nI_clamp (by omega)]
  exact ⟨rfl, rfl⟩
theorem RW_ws {k z so ji : Nat} {h : Int32} {x : Int64} {F fn : Nat → Int64} {fq fm : Nat → Int32} (H : RW k h z so F fq fm fn) : RW k h z so (vp_updL F ji x) fq fm (vp_updL fn (40 * k + ji) x) := by
  rcases H with H | ⟨a, b, c, d⟩
  · exact Or.inl H
  · refine Or.inr ⟨a, b, c, fun i hi => ?_⟩
    by_cases q : i = ji
    · subst q; rw [upL_same, upL_same]
    · rw [upL_other q, upL_other (by omega)]; exact d i hi
theorem RW_wo {j k z so ji : Nat} {h : Int32} {x : Int64} {F fn : Nat → Int64} {fq fm : Nat → Int32} (H : RW j h z so F fq fm fn) (hjk : j ≠ k) (hz : z ≤ 40) (hj : ji < 40) : RW j h z so F fq fm (vp_updL fn (40 * k + ji) x) := by
  rcases H with H | ⟨a, b, c, d⟩
  · exact Or.inl H
  · refine Or.inr ⟨a, b, c, fun i hi => ?_⟩
    rw [upL_other (by omega)]; exact d i hi
/-! copy -/
def cpA (n : Nat) (fq fm : Nat → Int32) (row : Int32) : Int32 := if rowR fq row = nI 0 then (if fm row.toNatClampNeg < nI n then -7 else nI n) else rowR fq row
def cpN (n : Nat) (f : Nat → Int32) (fn : Nat → Int64) (fq fm : Nat → Int32) (row : Int32) : Nat → Int64 := if rowR fq row = nI 0 ∧ ¬ fm row.toNatClampNeg < nI n then (fun j => if 40 * row.toNatClampNeg ≤ j ∧ j < 40 * row.toNatClampNeg + n then cutv (fq row.toNatClampNeg).toNatClampNeg (f (24 + (j - 40 * row.toNatClampNeg))).toInt64 else fn j) else fn
theorem cp_r {n : Nat} {f : Nat → Int32} {fn : Nat → Int64} {fq fm : Nat → Int32} {row z : Int32} (h : z = rowR fq row) (hz : ¬ z = 0) : z = cpA n fq fm row ∧ fn = cpN n f fn fq fm row := by
  have q : ¬ rowR fq row = nI 0 := fun r => hz (h.trans r)
  unfold cpA cpN; rw [if_neg q, if_neg (fun r => q r.1)]; exact ⟨h, rfl⟩
theorem cp_7 {n k z : Nat} {f : Nat → Int32} {fn : Nat → Int64} {fq fm : Nat → Int32} {row : Int32} (h : rowR fq row = nI 0) (e : row = nI k) (hk : k < 4) (ez : fm k = nI z) (h40 : z ≤ 40) (hn : n ≤ 10) (hzn : z < n) : -7 = cpA n fq fm row ∧ fn = cpN n f fn fq fm row := by
  have hz : nI z < nI n := (nI_ltI (by omega) (by omega)).mpr hzn
  unfold cpA cpN; rw [if_pos h]
  subst e
  rw [nI_clamp (by omega), ez, if_pos hz, if_neg (fun r => r.2 hz)]; exact ⟨rfl, rfl⟩
theorem cp_y {n k z so : Nat} {f : Nat → Int32} {fn G : Nat → Int64} {fq fm : Nat → Int32} {row : Int32} (h : rowR fq row = nI 0) (e : row = nI k) (hk : k < 4) (hq : fq k = nI so) (hs : so ≤ 3) (ez : fm k = nI z) (h40 : z ≤ 40) (h10 : n ≤ 10) (hzn : n ≤ z) (h1 : ∀ j, j < n → G (40 * k + j) = cutv so (f (24 + j)).toInt64) (h2 : ∀ j, (j < 40 * k ∨ 40 * k + n ≤ j) → G j = fn j) : nI n = cpA n fq fm row ∧ G = cpN n f fn fq fm row := by
  have hz : ¬ nI z < nI n := fun q => by have := b_lt (by omega) (by omega) q; omega
  unfold cpA cpN; rw [if_pos h]
  have h' := h
  subst e
  rw [nI_clamp (by omega), ez, if_neg hz, if_pos ⟨h', hz⟩, hq, nI_clamp (by omega)]
  refine ⟨rfl, funext (fun j => ?_)⟩
  by_cases c : 40 * k ≤ j ∧ j < 40 * k + n
  · rw [if_pos c]
    have := h1 (j - 40 * k) (by omega)
    rw [show 40 * k + (j - 40 * k) = j by omega] at this; exact this
  · rw [if_neg c]; exact h2 j (by omega)
theorem cp_at {n k z so : Nat} {f : Nat → Int32} {fn : Nat → Int64} {fq fm : Nat → Int32} {row : Int32} (h : rowR fq row = nI 0) (e : row = nI k) (hk : k < 4) (hq : fq k = nI so) (hs : so ≤ 3) (ez : fm k = nI z) (h40 : z ≤ 40) (h10 : n ≤ 10) (hzn : n ≤ z) (j : Nat) : cpN n f fn fq fm row j = if 40 * k ≤ j ∧ j < 40 * k + n then cutv so (f (24 + (j - 40 * k))).toInt64 else fn j := by
  have hz : ¬ nI z < nI n := fun q => by have := b_lt (by omega) (by omega) q; omega
  unfold cpN
  have h' := h
  subst e
  rw [nI_clamp (by omega), ez, if_pos ⟨h', hz⟩, hq, nI_clamp (by omega)]
theorem RC_s {n k z so : Nat} {hh : Int32} {f : Nat → Int32} {F fn G : Nat → Int64} {fq fm : Nat → Int32} {row : Int32} (h : rowR fq row = nI 0) (e : row = nI k) (hk : k < 4) (hq : fq k = nI so) (hs : so ≤ 3) (ez : fm k = nI z) (h40 : z ≤ 40) (h10 : n ≤ 10) (hzn : n ≤ z) (H : RW k hh z so F fq fm fn) (g1 : ∀ i, i < n → G i = cutv so (f (24 + i)).toInt64) (g2 : ∀ i, n ≤ i → G i = F i) : RW k hh z so G fq fm (cpN n f fn fq fm row) := by
  rcases H with H | ⟨a, b, c, d⟩
  · exact Or.inl H
  · refine Or.inr ⟨a, b, c, fun i hi => ?_⟩
    rw [cp_at h e hk hq hs ez h40 h10 hzn]
    by_cases q : i < n
    · rw [if_pos (by omega), show 40 * k + i - 40 * k = i by omega]; exact g1 i q
    · rw [if_neg (by omega), g2 i (by omega)]; exact d i hi
theorem RC_o {n j k z z' so so' : Nat} {hh : Int32} {f : Nat → Int32} {F fn : Nat → Int64} {fq fm : Nat → Int32} {row : Int32} (h : rowR fq row = nI 0) (e : row = nI k) (hk : k < 4) (hq : fq k = nI so) (hs : so ≤ 3) (ez : fm k = nI z) (h40 : z ≤ 40) (h10 : n ≤ 10) (hzn : n ≤ z) (hjk : j ≠ k) (hz' : z' ≤ 40) (H : RW j hh z' so' F fq fm fn) : RW j hh z' so' F fq fm (cpN n f fn fq fm row) := by
  rcases H with H | ⟨a, b, c, d⟩
  · exact Or.inl H
  · refine Or.inr ⟨a, b, c, fun i hi => ?_⟩
    rw [cp_at h e hk hq hs ez h40 h10 hzn, if_neg (by omega)]; exact d i hi
/-! MINUTES told in a row -/
abbrev setL (n : Nat) (v : Int64) : Prop := ¬ (v < (nI 0).toInt64 ∨ (nI (2 ^ n - 1)).toInt64 < v)
def whL (n : Nat) (f : Nat → Int32) (R : Nat → Int64) (z k : Nat) : Int32 := if setL n (R k) then (if z ≤ k + 1 then nI 3 else if setL n (R (k + 1)) then (if R k &&& R (k + 1) = (nI 0).toInt64 then (if f 1 = nI 9999 then nI 4 else nI 0) else nI 2) else nI 1) else nI 1
theorem wl_1 {n z k : Nat} {f : Nat → Int32} {R : Nat → Int64} {x : Int64} (e : x = R k) (h : ¬ setL n x) : nI 1 = whL n f R z k := by subst e; unfold whL; rw [if_neg h]
theorem wl_3 {n z k : Nat} {f : Nat → Int32} {R : Nat → Int64} {x : Int64} (e : x = R k) (h : setL n x) (hz : z ≤ k + 1) : nI 3 = whL n f R z k := by subst e; unfold whL; rw [if_pos h, if_pos hz]
theorem wl_1b {n z k : Nat} {f : Nat → Int32} {R : Nat → Int64} {x y : Int64} (e : x = R k) (h : setL n x) (hz : ¬ z ≤ k + 1) (e2 : y = R (k + 1)) (h2 : ¬ setL n y) : nI 1 = whL n f R z k := by subst e; subst e2; unfold whL; rw [if_pos h, if_neg hz, if_neg h2]
theorem wl_2 {n z k : Nat} {f : Nat → Int32} {R : Nat → Int64} {x y : Int64} (e : x = R k) (h : setL n x) (hz : ¬ z ≤ k + 1) (e2 : y = R (k + 1)) (h2 : setL n y) (h3 : ¬ x &&& y = (nI 0).toInt64) : nI 2 = whL n f R z k := by subst e; subst e2; unfold whL; rw [if_pos h, if_neg hz, if_pos h2, if_neg h3]
theorem wl_4 {n z k : Nat} {f : Nat → Int32} {R : Nat → Int64} {x y : Int64} (e : x = R k) (h : setL n x) (hz : ¬ z ≤ k + 1) (e2 : y = R (k + 1)) (h2 : setL n y) (h3 : x &&& y = (nI 0).toInt64) (h4 : f 1 = nI 9999) : nI 4 = whL n f R z k := by subst e; subst e2; unfold whL; rw [if_pos h, if_neg hz, if_pos h2, if_pos h3, if_pos h4]
theorem wl_0 {n z k : Nat} {f : Nat → Int32} {R : Nat → Int64} {x y : Int64} (e : x = R k) (h : setL n x) (hz : ¬ z ≤ k + 1) (e2 : y = R (k + 1)) (h2 : setL n y) (h3 : x &&& y = (nI 0).toInt64) (h4 : ¬ f 1 = nI 9999) : nI 0 = whL n f R z k := by subst e; subst e2; unfold whL; rw [if_pos h, if_neg hz, if_pos h2, if_pos h3, if_neg h4]
theorem wl_9 {n z k : Nat} {f : Nat → Int32} {R : Nat → Int64} (h : nI 0 = whL n f R z k) : ¬ f 1 = nI 9999 := by
  intro q
  have n1 : ¬ (nI 0 : Int32) = nI 1 := by decide +kernel
  have n2 : ¬ (nI 0 : Int32) = nI 2 := by decide +kernel
  have n3 : ¬ (nI 0 : Int32) = nI 3 := by decide +kernel
  have n4 : ¬ (nI 0 : Int32) = nI 4 := by decide +kernel
  unfold whL at h
  rw [if_pos q] at h
  split at h
  · split at h
    · exact n3 h
    · split at h
      · split at h
        · exact n4 h
        · exact n2 h
      · exact n1 h
  · exact n1 h
/-- the numbers behind the MINUTES of the first k numbers; the strokes that counted; the PIECES that were burnt -/
def tlI (n : Nat) (f : Nat → Int32) (R : Nat → Int64) : Nat → Nat → Int32
  | 0 => f
  | 1 => f
  | k + 2 => goF n (tlI n f R k) (R k).toInt32 (R (k + 1)).toInt32 (-1) (nI 0)
def tlC (n : Nat) (f : Nat → Int32) (R : Nat → Int64) : Nat → Int32
  | 0 => nI 0
  | 1 => nI 0
  | k + 2 => tlC n f R k + goC (tlI n f R k) (R (k + 1)).toInt32 n
def tlB (n : Nat) (f : Nat → Int32) (R : Nat → Int64) : Nat → Int32
  | 0 => nI 0
  | 1 => nI 0
  | k + 2 => tlB n f R k + goB n (tlI n f R k) (R k).toInt32 (R (k + 1)).toInt32 (-1) (nI 0) n
/-- how far they can be done, and why no further -/
def tlE (n : Nat) (f : Nat → Int32) (R : Nat → Int64) (z : Nat) : Nat → Nat → Nat × Int32
  | 0, k => (k, nI 0)
  | 1, k => (k, nI 0)
  | fu + 2, k => if k < z then (if whL n (tlI n f R k) R z k = nI 0 then tlE n f R z fu (k + 2) else (k, whL n (tlI n f R k) R z k)) else (k, nI 0)
theorem te_s {n z k : Nat} {f : Nat → Int32} {R : Nat → Int64} (hk : k < z) (hz : z ≤ 40) (h : nI 0 = whL n (tlI n f R k) R z k) : tlE n f R z (42 - k) k = tlE n f R z (42 - (k + 2)) (k + 2) := by
  rw [show 42 - k = (42 - (k + 2)) + 2 by omega]
  show (if k < z then (if whL n (tlI n f R k) R z k = nI 0 then tlE n f R z (42 - (k + 2)) (k + 2) else _) else _) = _
  rw [if_pos hk, if_pos h.symm]
theorem te_e {n z k : Nat} {f : Nat → Int32} {R : Nat → Int64} (hk : ¬ k < z) : tlE n f R z (42 - k) k = (k, nI 0) := by
  generalize 42 - k = fu
  match fu with
  | 0 => rfl
  | 1 => rfl
  | fu + 2 =>
    show (if k < z then _ else _) = _
    rw [if_neg hk]
theorem te_w {n z k : Nat} {f : Nat → Int32} {R : Nat → Int64} {w : Int32} (hk : k < z) (hz : z ≤ 40) (h : w = whL n (tlI n f R k) R z k) (hw : ¬ w = 0) : tlE n f R z (42 - k) k = (k, w) := by
  rw [show 42 - k = (40 - k) + 2 by omega]
  show (if k < z then (if whL n (tlI n f R k) R z k = nI 0 then _ else (k, whL n (tlI n f R k) R z k)) else _) = _
  rw [if_pos hk, ← h, if_neg (show ¬ w = nI 0 from hw)]
theorem tlI_mi {n : Nat} {f : Nat → Int32} {R : Nat → Int64} (h : MI n f) : ∀ k, MI n (tlI n f R k)
  | 0 => h
  | 1 => h
  | k + 2 => MI_go (tlI_mi h k)
theorem go_1 {n : Nat} {f : Nat → Int32} {pl sk fi mr : Int32} : goF n f pl sk fi mr 1 = f 1 + nI 1 := by unfold goF; rw [up_same]
theorem mn_go {n : Nat} {f : Nat → Int32} {pl sk fi mr : Int32} (hb : bd (f 1) 10000) (h : ¬ f 1 = nI 9999) : bd (goF n f pl sk fi mr 1) 10000 := by
  rw [go_1]
  obtain ⟨j, hj, e⟩ := hb
  rw [e, nI_add]
  have : j ≠ 9999 := fun q => h (by rw [e, q])
  exact bd_nI (by omega)
def perE (n : Nat) (f fm : Nat → Int32) (fn : Nat → Int64) (row : Int32) : Nat × Int32 := tlE n f (fun i => fn (40 * row.toNatClampNeg + i)) (fm row.toNatClampNeg).toNatClampNeg 42 0
def perA (n : Nat) (f fq fm : Nat → Int32) (fn : Nat → Int64) (row : Int32) : Int32 := if rowR fq row = nI 0 then nI ((perE n f fm fn row).1 / 2) else rowR fq row
def perF (n : Nat) (f fq fm : Nat → Int32) (fn : Nat → Int64) (row : Int32) : Nat → Int32 := if rowR fq row = nI 0 then tlI n f (fun i => fn (40 * row.toNatClampNeg + i)) (perE n f fm fn row).1 else f
theorem per_n {n : Nat} {f fq fm : Nat → Int32} {fn : Nat → Int64} {row z : Int32} (h : z = rowR fq row) (hz : ¬ z = 0) : z = perA n f fq fm fn row ∧ f = perF n f fq fm fn row := by
  have q : ¬ rowR fq row = nI 0 := fun r => hz (h.trans r)
  unfold perA perF; rw [if_neg q, if_neg q]; exact ⟨h, rfl⟩
theorem per_e {n k z : Nat} {f fm : Nat → Int32} {fn : Nat → Int64} {row : Int32} (e : row = nI k) (hk : k < 4) (ez : fm k = nI z) (hz : z ≤ 40) : perE n f fm fn row = tlE n f (fun i => fn (40 * k + i)) z 42 0 := by
  unfold perE; subst e; rw [nI_clamp (by omega), ez, nI_clamp (by omega)]
theorem per_y {n k z : Nat} {f fq fm : Nat → Int32} {fn : Nat → Int64} {row : Int32} (h : rowR fq row = nI 0) (e : row = nI k) (hk : k < 4) (ez : fm k = nI z) (hz : z ≤ 40) : nI ((tlE n f (fun i => fn (40 * k + i)) z 42 0).1 / 2) = perA n f fq fm fn row ∧ tlI n f (fun i => fn (40 * k + i)) (tlE n f (fun i => fn (40 * k + i)) z 42 0).1 = perF n f fq fm fn row := by
  have e1 := per_e (n := n) (f := f) (fn := fn) e hk ez hz
  unfold perA perF; rw [if_pos h, if_pos h, e1]
  subst e
  rw [nI_clamp (by omega)]; exact ⟨rfl, rfl⟩
theorem uL_bk {B k : Nat} {G : Nat → Int64} {x : Int64} {p : Nat → Int64} (h : ∀ j, j < k → G (B + j) = p j) (hx : x = p k) : ∀ j, j < k + 1 → vp_updL G (B + k) x (B + j) = p j := by
  intro j hj
  by_cases c : j = k
  · subst c; rw [upL_same]; exact hx
  · rw [upL_other (by omega)]; exact h j (by omega)
theorem mc_0 {q : Int32} {v : Int64} (e : q = 0) : v.toInt32.toInt8.toInt32.toInt64 = cutv q.toNatClampNeg v := by
  rw [e, show (0 : Int32).toNatClampNeg = 0 by decide +kernel]; rfl
theorem mc_1 {q : Int32} {v : Int64} (e : q = nI 1) : v.toInt32.toInt16.toInt32.toInt64 = cutv q.toNatClampNeg v := by rw [e, nI_clamp (by decide)]; rfl
theorem mc_2 {q : Int32} {v : Int64} (e : q = nI 2) : v.toInt32.toInt64 = cutv q.toNatClampNeg v := by rw [e, nI_clamp (by decide)]; rfl
theorem mc_3 {q : Int32} {v : Int64} (h : bd q 4) (h0 : ¬ q = 0) (h1 : ¬ q = nI 1) (h2 : ¬ q = nI 2) : v = cutv q.toNatClampNeg v := by
  obtain ⟨j, hj, rfl⟩ := h
  have : j = 0 ∨ j = 1 ∨ j = 2 ∨ j = 3 := by omega
  rcases this with rfl | rfl | rfl | rfl
  · exact absurd rfl h0
  · exact absurd rfl h1
  · exact absurd rfl h2
  · rw [nI_clamp (by decide)]; rfl
theorem m3_0 : ¬ (-3 : Int32) = nI 0 := by decide +kernel
