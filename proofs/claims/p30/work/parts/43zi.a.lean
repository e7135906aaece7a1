/-! ROPES ANEW: ways as lists, in the order in which they come (a draft: not yet met by Lean) -/
def ofF (f : Nat → Int32) (i k : Nat) : Int32 := if f (4 + i) - f (14 + k) < 0 then -(f (4 + i) - f (14 + k)) else f (4 + i) - f (14 + k)
def ofN (f : Nat → Int32) (i k : Nat) : Nat := (ofF f i k).toNatClampNeg
def smL (f : Nat → Int32) : Nat → List Nat → Nat
  | _, [] => 0
  | i, k :: t => ofN f i k + smL f (i + 1) t
theorem sl_app {f : Nat → Int32} {k : Nat} : ∀ (p : List Nat) (i : Nat), smL f i (p ++ [k]) = smL f i p + ofN f (i + p.length) k
  | [], i => (Nat.add_zero _).trans (Nat.zero_add _).symm
  | a :: p, i => by
    show ofN f i a + smL f (i + 1) (p ++ [k]) = ofN f i a + smL f (i + 1) p + ofN f (i + (p.length + 1)) k
    rw [sl_app p (i + 1), show i + 1 + p.length = i + (p.length + 1) by omega]; omega
def gA (n : Nat) : Nat → List Nat → List (List Nat)
  | 0, p => [p]
  | r + 1, p => (List.range n).flatMap (fun k => if k ∈ p then [] else gA n r (p ++ [k]))
def rch (p : List Nat) (sm : Nat) : Nat → Nat → Bool
  | 0, _ => false
  | fu + 1, a => if a = sm then true else (match p[a]? with | none => false | some b => rch p sm fu b)
def clo (n : Nat) (p : List Nat) (k : Nat) : Bool := decide (p.length < n - 1) && rch p p.length n k
def gC (n : Nat) : Nat → List Nat → List (List Nat)
  | 0, p => [p]
  | r + 1, p => (List.range n).flatMap (fun k => if k ∈ p ∨ clo n p k = true then [] else gC n r (p ++ [k]))
def rgC (q : List Nat) : Nat → Nat → Nat → Nat
  | 0, _, _ => 0
  | fu + 1, a, c => if q.getD a 0 = 0 then c + 1 else rgC q fu (q.getD a 0) (c + 1)
def ringB (n : Nat) (q : List Nat) : Bool := rgC q (n + 1) 0 0 == n
theorem lex_all : ∀ n, n < 8 → 1 ≤ n → gC n n [] = (gA n n []).filter (ringB n) := by decide +kernel
def btr (f : Nat → Int32) (st : Option (List Nat)) (q : List Nat) : Bool := match st with
  | none => true
  | some b => decide (smL f 0 q < smL f 0 b)
def upC (f : Nat → Int32) (st : Option (List Nat)) (q : List Nat) : Option (List Nat) := if btr f st q = true then some q else st
def upR (n : Nat) (f : Nat → Int32) (st : Option (List Nat)) (q : List Nat) : Option (List Nat) := if ringB n q = true then upC f st q else st
theorem fold_eq {n : Nat} {f : Nat → Int32} (h1 : 1 ≤ n) (h7 : n ≤ 7) : (gC n n []).foldl (upC f) none = (gA n n []).foldl (upR n f) none := by
  rw [lex_all n (by omega) h1, List.foldl_filter]; rfl
theorem gc_ge {n : Nat} {f : Nat → Int32} : ∀ (r : Nat) (p q : List Nat), q ∈ gC n r p → smL f 0 p ≤ smL f 0 q
  | 0, p, q, h => by
    have e : q = p := List.mem_singleton.mp h
    rw [e]; exact Nat.le_refl _
  | r + 1, p, q, h => by
    obtain ⟨k, _, hk⟩ := List.mem_flatMap.mp h
    split at hk
    · cases hk
    · have := gc_ge (f := f) r (p ++ [k]) q hk
      rw [sl_app] at this; omega
theorem fold_st {f : Nat → Int32} {b : List Nat} : ∀ (l : List (List Nat)), (∀ q ∈ l, smL f 0 b ≤ smL f 0 q) → l.foldl (upC f) (some b) = some b
  | [], _ => rfl
  | q :: l, h => by
    have e : upC f (some b) q = some b := by
      unfold upC btr; rw [if_neg (by simp only [decide_eq_true_eq]; exact Nat.not_lt.mpr (h q List.mem_cons_self))]
    rw [List.foldl_cons, e]; exact fold_st l (fun q hq => h q (List.mem_cons_of_mem _ hq))
theorem prune {n r : Nat} {f : Nat → Int32} {p b : List Nat} (h : smL f 0 b ≤ smL f 0 p) : (gC n r p).foldl (upC f) (some b) = some b := fold_st _ (fun q hq => Nat.le_trans h (gc_ge r p q hq))
/-- the first k ways of a SMITH, with all that comes behind -/
def gcK (n r : Nat) (p : List Nat) (k : Nat) : List (List Nat) := (List.range k).flatMap (fun k => if k ∈ p ∨ clo n p k = true then [] else gC n r (p ++ [k]))
def gaK (n r : Nat) (p : List Nat) (k : Nat) : List (List Nat) := (List.range k).flatMap (fun k => if k ∈ p then [] else gA n r (p ++ [k]))
theorem gck_n {n r k : Nat} {p : List Nat} (h : k ∈ p ∨ clo n p k = true) : gcK n r p (k + 1) = gcK n r p k := by
  unfold gcK; rw [List.range_succ, List.flatMap_append, List.flatMap_singleton, if_pos h, List.append_nil]
theorem gck_y {n r k : Nat} {p : List Nat} (h : ¬ (k ∈ p ∨ clo n p k = true)) : gcK n r p (k + 1) = gcK n r p k ++ gC n r (p ++ [k]) := by
  unfold gcK; rw [List.range_succ, List.flatMap_append, List.flatMap_singleton, if_neg h]
theorem gak_n {n r k : Nat} {p : List Nat} (h : k ∈ p) : gaK n r p (k + 1) = gaK n r p k := by
  unfold gaK; rw [List.range_succ, List.flatMap_append, List.flatMap_singleton, if_pos h, List.append_nil]
theorem gak_y {n r k : Nat} {p : List Nat} (h : ¬ k ∈ p) : gaK n r p (k + 1) = gaK n r p k ++ gA n r (p ++ [k]) := by
  unfold gaK; rw [List.range_succ, List.flatMap_append, List.flatMap_singleton, if_neg h]
/-- what is laid so far; who is taken; the best so far -/
def PFX (n : Nat) (p : List Nat) (lv : Nat) (f : Nat → Int32) : Prop := p.length = lv ∧ ∀ j, j < lv → f j = nI (p.getD j 0) ∧ p.getD j 0 < n
def USE (p : List Nat) (x : Int32) : Prop := ∀ k, k < 7 → (bitP x k ↔ k ∈ p)
def USR (p : List Nat) (u : Nat) : Prop := ∀ k, k < 7 → (u.testBit k = true ↔ k ∈ p)
def RST (n : Nat) (f : Nat → Int32) (st : Option (List Nat)) (b : Int32) (g : Nat → Int32) : Prop := match st with
  | none => b = -1
  | some q => b = nI (smL f 0 q) ∧ smL f 0 q ≤ 1000 ∧ ∀ i, i < n → g i = nI (q.getD i 0)
theorem us_0 : USE [] (nI 0) := fun k hk => by
  have H : ∀ k : Fin 7, ¬ bitP (nI 0) k.1 := by decide +kernel
  exact ⟨fun h => absurd h (H ⟨k, hk⟩), fun h => absurd h List.not_mem_nil⟩
theorem us_s {p : List Nat} {x : Int32} {k : Nat} (h : USE p x) (hk : k < 7) : USE (p ++ [k]) (x ||| ((nI 1) <<< ((nI k) &&& 31))) := fun j hj => by
  rw [pu_y (by omega) (by omega), h j hj, List.mem_append, List.mem_singleton]
theorem ur_0 : USR [] 0 := fun k _ => ⟨fun h => (by rw [Nat.zero_testBit] at h; cases h), fun h => absurd h List.not_mem_nil⟩
theorem ur_s {p : List Nat} {u k : Nat} (h : USR p u) : USR (p ++ [k]) (u ||| 2 ^ k) := fun j hj => by
  rw [Nat.testBit_or, Bool.or_eq_true, h j hj, List.mem_append, List.mem_singleton, Nat.testBit_two_pow, decide_eq_true_eq]
  exact or_congr Iff.rfl eq_comm
theorem gd_l {p : List Nat} {k j : Nat} (h : j < p.length) : (p ++ [k]).getD j 0 = p.getD j 0 := by rw [List.getD_eq_getElem?_getD, List.getD_eq_getElem?_getD, List.getElem?_append_left h]
theorem gd_r {p : List Nat} {k j : Nat} (h : p.length = j) : (p ++ [k]).getD j 0 = k := by
  subst h
  rw [List.getD_eq_getElem?_getD, List.getElem?_append_right (Nat.le_refl _), Nat.sub_self]; rfl
theorem pf_s {n k lv : Nat} {p : List Nat} {f : Nat → Int32} (h : PFX n p lv f) (hk : k < n) : PFX n (p ++ [k]) (lv + 1) (upd f lv (nI k)) := by
  refine ⟨by rw [List.length_append, h.1]; rfl, fun j hj => ?_⟩
  by_cases c : j = lv
  · rw [c, up_same, gd_r h.1]; exact ⟨rfl, hk⟩
  · rw [up_other c, gd_l (by rw [h.1]; omega)]; exact h.2 j (by omega)
theorem pf_e {n lv : Nat} {p : List Nat} {f g : Nat → Int32} (h : PFX n p lv f) (e : ∀ j, j < lv → g j = f j) : PFX n p lv g := ⟨h.1, fun j hj => by rw [e j hj]; exact h.2 j hj⟩
/-! does a rope close a RING too soon -/
def rcO (p : List Nat) (sm fu : Nat) (x : Int32) : Bool := if x = -1 then false else rch p sm fu x.toNatClampNeg
theorem rkz_0 {p : List Nat} {sm fu a : Nat} (ha : a < 100) : rch p sm fu a = rcO p sm fu (nI a) := by unfold rcO; rw [if_neg (m1_nI (by omega)), nI_clamp (by omega)]
theorem rkz_e {p : List Nat} {sm fu : Nat} {x : Int32} (h : fu = 0) : rcO p sm fu x = false := by
  subst h; unfold rcO
  split
  · rfl
  · rfl
theorem rkz_m {p : List Nat} {sm fu : Nat} {x : Int32} (h : x = -1) : rcO p sm fu x = false := by unfold rcO; rw [if_pos h]
theorem rkz_y {p : List Nat} {sm fu a : Nat} (h : a = sm) (hf : 1 ≤ fu) (ha : a < 100) : rcO p sm fu (nI a) = true := by
  rw [← rkz_0 ha, show fu = (fu - 1) + 1 by omega]
  show (if a = sm then true else _) = true
  rw [if_pos h]
theorem rkz_s {n sm fu a : Nat} {p : List Nat} {f : Nat → Int32} (hp : PFX n p sm f) (hm : ∀ j, sm ≤ j → j < 7 → f j = -1) (hn : n ≤ 7) (ha : a < n) (h : ¬ a = sm) (hf : 1 ≤ fu) : rcO p sm fu (nI a) = rcO p sm (fu - 1) (f a) := by
  rw [← rkz_0 (by omega), show fu = (fu - 1) + 1 by omega, Nat.add_sub_cancel]
  show (if a = sm then true else (match p[a]? with | none => false | some b => rch p sm (fu - 1) b)) = _
  rw [if_neg h]
  by_cases c : a < sm
  · have e := hp.2 a c
    have hl : a < p.length := by rw [hp.1]; exact c
    have e2 : p[a]? = some (p.getD a 0) := by rw [List.getElem?_eq_getElem hl, List.getD_eq_getElem?_getD, List.getElem?_eq_getElem hl]; rfl
    rw [e2, e.1]
    exact rkz_0 (by have := e.2; omega)
  · have e2 : p[a]? = none := List.getElem?_eq_none (by rw [hp.1]; omega)
    rw [e2, hm a (by omega) (by omega)]
    exact (rkz_m rfl).symm
theorem pf_at {n sm a : Nat} {p : List Nat} {f : Nat → Int32} (hp : PFX n p sm f) (hm : ∀ j, sm ≤ j → j < 7 → f j = -1) (ha : a < 7) : f a = -1 ∨ bd (f a) n := by
  by_cases c : a < sm
  · exact Or.inr ⟨_, (hp.2 a c).2, (hp.2 a c).1⟩
  · exact Or.inl (hm a (by omega) ha)
theorem cl_y {n k : Nat} {p : List Nat} {sm : Nat} (hp : p.length = sm) (h : rch p sm n k = true) (c : sm < n - 1) : clo n p k = true := by unfold clo; rw [hp, h, decide_eq_true c]; rfl
theorem cl_l {n k : Nat} {p : List Nat} {sm : Nat} (hp : p.length = sm) (c : ¬ sm < n - 1) : clo n p k = false := by unfold clo; rw [hp, decide_eq_false c]; rfl
theorem cl_n {n k : Nat} {p : List Nat} {sm : Nat} (hp : p.length = sm) (h : rch p sm n k = false) : clo n p k = false := by unfold clo; rw [hp, h, Bool.and_false]
/-! how far a BLAST is from COOL -/
theorem of_bd {n i k : Nat} {f : Nat → Int32} (h : MI n f) (hi : i < n) (hk : k < n) : ofN f i k ≤ 60 ∧ ofF f i k = nI (ofN f i k) := by
  obtain ⟨a, ha, ea⟩ := mi_blast h hi
  obtain ⟨b, hb, eb⟩ := mi_cool h hk
  have e : ofF f i k = nI (if b ≤ a then a - b else b - a) := by
    unfold ofF; rw [ea, eb]
    by_cases c : b ≤ a
    · rw [nI_sub c, if_neg (nI_pos (by omega)), if_pos c]
    · rw [if_pos (sb_neg (by omega) (by omega)), if_neg c, ← nI_sub (show a ≤ b by omega), Int32.neg_sub]
  unfold ofN; rw [e, nI_clamp (by split <;> omega)]
  exact ⟨by split <;> omega, rfl⟩
theorem of_c {n i k : Nat} {f : Nat → Int32} {x y z : Int32} (ex : x = f (4 + i)) (ey : y = f (14 + k)) (ez : z = if 0 ≤ x - y then x - y else 0 - (x - y)) : z = ofF f i k := by
  unfold ofF; rw [ez, ← ex, ← ey]
  by_cases c : x - y < 0
  · rw [if_pos c, if_neg (fun q => absurd c (Int32.not_lt.mpr q)), Int32.zero_sub]
  · rw [if_neg c, if_pos (Int32.not_lt.mp c)]
/-! the best so far -/
theorem rs_pr {n r : Nat} {f : Nat → Int32} {st : Option (List Nat)} {b s : Int32} {g : Nat → Int32} {p : List Nat} (h : RST n f st b g) (nz : ¬ b = -1) (es : s = nI (smL f 0 p)) (hs : smL f 0 p ≤ 1000) (c : ¬ s < b) : RST n f ((gC n r p).foldl (upC f) st) b g := by
  cases st with
  | none => exact absurd h nz
  | some q =>
    have h' : b = nI (smL f 0 q) ∧ smL f 0 q ≤ 1000 ∧ ∀ i, i < n → g i = nI (q.getD i 0) := h
    rw [es, h'.1] at c
    have := b_nlt (by omega) (by omega) c
    rw [prune this]; exact h
theorem rs_up {n : Nat} {f : Nat → Int32} {st : Option (List Nat)} {b s : Int32} {g g' : Nat → Int32} {p : List Nat} (h : RST n f st b g) (es : s = nI (smL f 0 p)) (hs : smL f 0 p ≤ 1000) (c : b = -1 ∨ s < b) (hg : ∀ i, i < n → g' i = nI (p.getD i 0)) : RST n f (upC f st p) s g' := by
  have hb : btr f st p = true := by
    cases st with
    | none => rfl
    | some q =>
      have h' : b = nI (smL f 0 q) ∧ smL f 0 q ≤ 1000 ∧ ∀ i, i < n → g i = nI (q.getD i 0) := h
      rcases c with c | c
      · exact absurd (h'.1.symm.trans c) (m1_nI (by omega))
      · rw [es, h'.1] at c
        exact decide_eq_true (b_lt (by omega) (by omega) c)
  unfold upC; rw [if_pos hb]; exact ⟨es, hs, hg⟩
theorem rs_no {n : Nat} {f : Nat → Int32} {st : Option (List Nat)} {b s : Int32} {g : Nat → Int32} {p : List Nat} (h : RST n f st b g) (es : s = nI (smL f 0 p)) (hs : smL f 0 p ≤ 1000) (nz : ¬ b = -1) (c : ¬ s < b) : RST n f (upC f st p) b g := by
  have := rs_pr (r := 0) h nz es hs c
  exact this
theorem sqz_s {n i k : Nat} {f : Nat → Int32} {p : List Nat} {s z : Int32} (h : MI n f) (hi : i < n) (hk : k < n) (hs : s = nI (smL f 0 p)) (hp : p.length = i) (hz : z = ofF f i k) : s + z = nI (smL f 0 (p ++ [k])) := by
  rw [hs, hz, (of_bd h hi hk).2, nI_add, sl_app, Nat.zero_add, hp]
theorem sqz_b {n i k : Nat} {f : Nat → Int32} {p : List Nat} (h : MI n f) (hi : i < n) (hk : k < n) (hb : smL f 0 p ≤ 60 * i) (hp : p.length = i) : smL f 0 (p ++ [k]) ≤ 60 * (i + 1) := by
  have := (of_bd h hi hk).1
  rw [sl_app, Nat.zero_add, hp]; omega
/-! is it one RING -/
theorem rg_0 {n fu a c : Nat} {q : List Nat} (h : q.getD a 0 = 0) (hf : 1 ≤ fu) : rgC q fu a c = c + 1 := by
  rw [show fu = (fu - 1) + 1 by omega]
  show (if q.getD a 0 = 0 then c + 1 else _) = c + 1
  rw [if_pos h]
theorem rg_s {fu a c : Nat} {q : List Nat} (h : ¬ q.getD a 0 = 0) (hf : 1 ≤ fu) : rgC q fu a c = rgC q (fu - 1) (q.getD a 0) (c + 1) := by
  rw [show fu = (fu - 1) + 1 by omega, Nat.add_sub_cancel]
  show (if q.getD a 0 = 0 then c + 1 else rgC q (fu - 1) (q.getD a 0) (c + 1)) = _
  rw [if_neg h]
theorem rg_t {n c : Nat} {q : List Nat} (h : rgC q (n + 1) 0 0 = c) (e : c = n) : ringB n q = true := by unfold ringB; rw [h, e]; exact beq_self_eq_true n
theorem rg_n {n c : Nat} {q : List Nat} (h : rgC q (n + 1) 0 0 = c) (e : ¬ c = n) : ringB n q = false := by unfold ringB; rw [h]; exact beq_false_of_ne e
theorem ur_y {n : Nat} {f : Nat → Int32} {st : Option (List Nat)} {q : List Nat} (h : ringB n q = true) : upR n f st q = upC f st q := by unfold upR; rw [if_pos h]
theorem ur_n {n : Nat} {f : Nat → Int32} {st : Option (List Nat)} {q : List Nat} (h : ringB n q = false) : upR n f st q = st := by unfold upR; rw [if_neg (by rw [h]; decide)]
/-! answers -/
noncomputable def rpA (n : Nat) (f : Nat → Int32) (wh : Int32) : Int32 := @ite _ (¬ wh = 0 ∧ ¬ smW n wh) (Classical.propDecidable _) (-2) (if 7 < n then -4 else if n = 0 then -5 else match (gA n n []).foldl (upR n f) none with
  | none => -1
  | some q => if wh = 0 then nI (smL f 0 q) else nI (q.getD (wh - nI 10).toNatClampNeg 0))
theorem ofm_1 {f : Nat → Int32} {i k : Nat} (c : 0 ≤ f (4 + i) - f (14 + k)) : f (4 + i) - f (14 + k) = ofF f i k := by unfold ofF; rw [if_neg (Int32.not_lt.mpr c)]
theorem ofm_2 {f : Nat → Int32} {i k : Nat} (c : ¬ 0 ≤ f (4 + i) - f (14 + k)) : -(f (4 + i) - f (14 + k)) = ofF f i k := by unfold ofF; rw [if_pos (Int32.not_le.mp c)]
theorem ga_ne : ∀ n, n < 8 → 1 ≤ n → ¬ gC n n [] = [] := by decide +kernel
theorem up_some {f : Nat → Int32} : ∀ (l : List (List Nat)) (b : List Nat), ∃ q, l.foldl (upC f) (some b) = some q
  | [], b => ⟨b, rfl⟩
  | q :: l, b => by
    rw [List.foldl_cons]
    have e : upC f (some b) q = some q ∨ upC f (some b) q = some b := by unfold upC; split <;> simp
    rcases e with e | e
    · rw [e]; exact up_some l q
    · rw [e]; exact up_some l b
theorem st_some {n : Nat} {f : Nat → Int32} (h1 : 1 ≤ n) (h7 : n ≤ 7) : ∃ q, (gA n n []).foldl (upR n f) none = some q := by
  rw [← fold_eq h1 h7]
  cases h : gC n n [] with
  | nil => exact absurd h (ga_ne n (by omega) h1)
  | cons q l => rw [List.foldl_cons]; exact up_some l q
theorem rpz_2 {n : Nat} {f : Nat → Int32} {wh : Int32} (c : ¬ wh = 0) (d : ¬ smW n wh) : -2 = rpA n f wh := by unfold rpA; rw [if_pos ⟨c, d⟩]
theorem rpz_4 {n : Nat} {f : Nat → Int32} {wh : Int32} (c : ¬ (¬ wh = 0 ∧ ¬ smW n wh)) (d : 7 < n) : -4 = rpA n f wh := by unfold rpA; rw [if_neg c, if_pos d]
theorem rpz_5 {n : Nat} {f : Nat → Int32} {wh : Int32} (c : ¬ (¬ wh = 0 ∧ ¬ smW n wh)) (d : n = 0) : -5 = rpA n f wh := by unfold rpA; rw [if_neg c, if_neg (by omega), if_pos d]
theorem rpz_0 {n : Nat} {f g : Nat → Int32} {wh b : Int32} (c : ¬ (¬ wh = 0 ∧ ¬ smW n wh)) (h1 : 1 ≤ n) (h7 : n ≤ 7) (h : RST n f ((gA n n []).foldl (upR n f) none) b g) (w : wh = 0) : b = rpA n f wh := by
  obtain ⟨q, e⟩ := st_some (f := f) h1 h7
  unfold rpA; rw [if_neg c, if_neg (by omega), if_neg (by omega), e]
  rw [e] at h
  have h' : b = nI (smL f 0 q) ∧ smL f 0 q ≤ 1000 ∧ ∀ i, i < n → g i = nI (q.getD i 0) := h
  show b = if wh = 0 then nI (smL f 0 q) else _
  rw [if_pos w]; exact h'.1
theorem rpz_1 {n j : Nat} {f g : Nat → Int32} {wh b : Int32} (c : ¬ (¬ wh = 0 ∧ ¬ smW n wh)) (h1 : 1 ≤ n) (h7 : n ≤ 7) (h : RST n f ((gA n n []).foldl (upR n f) none) b g) (w : ¬ wh = 0) (ej : wh - nI 10 = nI j) (hj : j < n) : g j = rpA n f wh := by
  obtain ⟨q, e⟩ := st_some (f := f) h1 h7
  unfold rpA; rw [if_neg c, if_neg (by omega), if_neg (by omega), e]
  rw [e] at h
  have h' : b = nI (smL f 0 q) ∧ smL f 0 q ≤ 1000 ∧ ∀ i, i < n → g i = nI (q.getD i 0) := h
  show g j = if wh = 0 then nI (smL f 0 q) else nI (q.getD (wh - nI 10).toNatClampNeg 0)
  rw [if_neg w, ej, nI_clamp (by omega)]; exact h'.2.2 j hj

def q_y_closes_f (T : Nat → ClassId) (pp : List Nat) (y0 : Nat) (a0 : Nat) (sm : Nat) (fi : Nat) (ys : Int32) (y1 : Nat) (y2 : Nat) (yt : Nat → Int32) (an : Nat) (am : Int32) (al : Int32) (ao : Int32) (au : Int32) (a1 : Nat) (a2 : Nat) (a3 : Nat) (a4 : Nat) (a5 : Nat) (a6 : Nat) (a7 : Nat) (a8 : Nat) (a9 : Nat) (a10 : Nat) : Option Value → va_W → Prop := fun rr ww => (rr = some (.int (nI 1)) ∧ ww = [(y0, .inr (0, [.int ys, .ref y1, .ref y2])), (y2, .inl (T 0, 7, .inl yt)), (a0, .inr (5, [.int (nI an), .int am, .int al, .int ao, .int au, .ref a1, .ref a2, .ref a3, .ref a4, .ref a5, .ref a6, .ref a7, .ref a8, .ref a9, .ref a10]))] ∧ clo an pp fi = true) ∨ (rr = some (.int (nI 0)) ∧ ww = [(y0, .inr (0, [.int ys, .ref y1, .ref y2])), (y2, .inl (T 0, 7, .inl yt)), (a0, .inr (5, [.int (nI an), .int am, .int al, .int ao, .int au, .ref a1, .ref a2, .ref a3, .ref a4, .ref a5, .ref a6, .ref a7, .ref a8, .ref a9, .ref a10]))] ∧ clo an pp fi = false)
set_option maxHeartbeats 4000000 in
set_option maxRecDepth 100000 in
theorem y_closes_f (l : Launch) (D : va_G) (T : Nat → ClassId) (pp : List Nat) (y0 : Nat) (a0 : Nat) (sm : Nat) (fi : Nat) (ys : Int32) (y1 : Nat) (y2 : Nat) (yt : Nat → Int32) (an : Nat) (am : Int32) (al : Int32) (ao : Int32) (au : Int32) (a1 : Nat) (a2 : Nat) (a3 : Nat) (a4 : Nat) (a5 : Nat) (a6 : Nat) (a7 : Nat) (a8 : Nat) (a9 : Nat) (a10 : Nat) (h_n : an ≤ 7) (h_pp : PFX an pp sm yt) (h_pm : ∀ j, sm ≤ j → j < 7 → yt j = -1) (h_fi : fi < an) (h_sm : sm < an) : Ct l yX0_closesTooSoon cX0_closesTooSoon 6 (some .boolean) 0 0 0 D T [.ref y0, .ref a0, .int (nI sm), .int (nI fi)] [(y0, .inr (0, [.int ys, .ref y1, .ref y2])), (y2, .inl (T 0, 7, .inl yt)), (a0, .inr (5, [.int (nI an), .int am, .int al, .int ao, .int au, .ref a1, .ref a2, .ref a3, .ref a4, .ref a5, .ref a6, .ref a7, .ref a8, .ref a9, .ref a10]))] (q_y_closes_f T pp y0 a0 sm fi ys y1 y2 yt an am al ao au a1 a2 a3 a4 a5 a6 a7 a8 a9 a10) := by
  refine Ct.of (cc := cX0_closesTooSoon) (maxL := 6) (ret := (some .boolean)) (by decide) (Nat.le_of_ble_eq_true rfl) ?_
  intro p e s m args below meth c A ls hC hnm V hl
  obtain ⟨hx, hb, hr, hml, hown, hts, hlocks⟩ := id hC
  generalize hH : s.heap = H at V ⊢
  clear hH
  have hl : lv_has ls 6 [(0, .ref y0), (1, .ref a0), (2, .int (nI sm)), (3, .int (nI fi))] := hl
  generalize hlo : ([] : List Loc) = locs at V ⊢
  clear hlo
  refine lv_iload_n hx hb dX0_closesTooSoon_0 rfl (lv_at hl 3 rfl) ?_
  refine lv_istore (lv' := [(4, .int (nI fi)), (0, .ref y0), (1, .ref a0), (2, .int (nI sm)), (3, .int (nI fi))]) hx hb dX0_closesTooSoon_1 hl (by decide) rfl (fun ls hl => ?_)
  refine lv_iconst (v := (nI 0)) hx hb dX0_closesTooSoon_3 (by decide +kernel) ?_
  refine lv_istore (lv' := [(5, .int (nI 0)), (4, .int (nI fi)), (0, .ref y0), (1, .ref a0), (2, .int (nI sm)), (3, .int (nI fi))]) hx hb dX0_closesTooSoon_4 hl (by decide) rfl (fun ls hl => ?_)
  have L_1 : ∀ (fu : Nat) (k6 : Nat) (at_ : Int32), k6 ≤ an → at_ = -1 ∨ bd at_ an → rch pp sm an fi = rcO pp sm (an - k6) at_ → an - k6 < fu → ∀ (H : Heap) (locs : List Loc) (ls : Array Slot), gW D T A s [(y0, .inr (0, [.int ys, .ref y1, .ref y2])), (y2, .inl (T 0, 7, .inl yt)), (a0, .inr (5, [.int (nI an), .int am, .int al, .int ao, .int au, .ref a1, .ref a2, .ref a3, .ref a4, .ref a5, .ref a6, .ref a7, .ref a8, .ref a9, .ref a10]))] H locs → lv_has ls 6 [(5, .int (nI k6)), (4, .int at_), (0, .ref y0), (1, .ref a0), (2, .int (nI sm)), (3, .int (nI fi))] → W p l e (rmD 0 0 0) s m args below meth c H locs 0 0 (MQ below (gQ D A (q_y_closes_f T pp y0 a0 sm fi ys y1 y2 yt an am al ao au a1 a2 a3 a4 a5 a6 a7 a8 a9 a10)) args s 0 0 A) (F0 m 6 ls []) := by
    intro fu_6
    induction fu_6 with
    | zero => intro k6 at_ hk6 hat hE hmu; exact absurd hmu (Nat.not_lt_zero _)
    | succ fu_6 ih_6 =>
      intro k6 at_ hk6 hat hE hmu_6 H locs ls V hl
      refine lv_iload hx hb dX0_closesTooSoon_6 (lv_at hl 0 rfl) ?_
      refine lv_aload_n hx hb dX0_closesTooSoon_8 rfl (lv_at hl 3 rfl) ?_
      refine g_get hC V (ci := 5) uwX5 2 rfl rfl 0 (by decide) w_35 rfl rfl dX0_closesTooSoon_9 ?_
      refine lv_icmp_ge (tgt := 58) hx hb dX0_closesTooSoon_12 (by decide) (fun c_2 => ?_) (fun c_2 => ?_)
      · skip
        have c_2 := b_le (by omega) (by omega) c_2
        refine lv_iconst (v := (nI 0)) hx hb dX0_closesTooSoon_58 (by decide +kernel) ?_
        exact g_zret (Qr := (q_y_closes_f T pp y0 a0 sm fi ys y1 y2 yt an am al ao au a1 a2 a3 a4 a5 a6 a7 a8 a9 a10)) hC V ⟨(Nat.le_of_ble_eq_true rfl), (Nat.le_of_ble_eq_true rfl)⟩ (by first | decide +kernel | exact rfl) (.inr ⟨rfl, rfl, (cl_n h_pp.1 (hE.trans (rkz_e (by omega))))⟩) dX0_closesTooSoon_59
      · skip
        have c_2 := b_nle (by omega) (by omega) c_2
        refine lv_iload hx hb dX0_closesTooSoon_15 (lv_at hl 1 rfl) ?_
        refine lv_iconst (v := (-1)) hx hb dX0_closesTooSoon_17 (by decide +kernel) ?_
        refine lv_icmp_eq (tgt := 58) hx hb dX0_closesTooSoon_18 (by decide) (fun c_3 => ?_) (fun c_3 => ?_)
        · skip
          refine lv_iconst (v := (nI 0)) hx hb dX0_closesTooSoon_58 (by decide +kernel) ?_
          exact g_zret (Qr := (q_y_closes_f T pp y0 a0 sm fi ys y1 y2 yt an am al ao au a1 a2 a3 a4 a5 a6 a7 a8 a9 a10)) hC V ⟨(Nat.le_of_ble_eq_true rfl), (Nat.le_of_ble_eq_true rfl)⟩ (by first | decide +kernel | exact rfl) (.inr ⟨rfl, rfl, (cl_n h_pp.1 (hE.trans (rkz_m c_3)))⟩) dX0_closesTooSoon_59
        · skip
          obtain ⟨ja, hja, rfl⟩ := hat.resolve_left c_3
          refine lv_iload hx hb dX0_closesTooSoon_21 (lv_at hl 1 rfl) ?_
          refine lv_iload_n hx hb dX0_closesTooSoon_23 rfl (lv_at hl 4 rfl) ?_
          refine lv_icmp_ne (tgt := 43) hx hb dX0_closesTooSoon_24 (by decide) (fun c_4 => ?_) (fun c_4 => ?_)
          · skip
            have c_4 := b_ne (by omega) (by omega) c_4
            refine lv_aload_n hx hb dX0_closesTooSoon_43 rfl (lv_at hl 2 rfl) ?_
            refine g_get hC V (ci := 0) uwX0 0 rfl rfl 2 (by decide) w_215 rfl rfl dX0_closesTooSoon_44 ?_
            refine lv_iload hx hb dX0_closesTooSoon_47 (lv_at hl 1 rfl) ?_
            refine g_iald hC V 1 rfl (vp_in_nI (by omega) (by omega)) (v := (yt ja)) (congrArg _ (nI_clamp (by omega))) dX0_closesTooSoon_49 ?_
            refine lv_istore (lv' := [(4, .int (yt ja)), (5, .int (nI k6)), (0, .ref y0), (1, .ref a0), (2, .int (nI sm)), (3, .int (nI fi))]) hx hb dX0_closesTooSoon_50 hl (by decide) rfl (fun ls hl => ?_)
            refine lv_iinc (v := (nI (k6 + 1))) (lv' := [(5, .int (nI (k6 + 1))), (4, .int (yt ja)), (0, .ref y0), (1, .ref a0), (2, .int (nI sm)), (3, .int (nI fi))]) hx hb dX0_closesTooSoon_52 hl (k := 1) rfl (nI_1 _) (by decide) rfl (fun ls hl => ?_)
            refine lv_goto (tgt := 6) hx hb dX0_closesTooSoon_55 (by decide) ?_
            exact ih_6 (k6 + 1) (yt ja) (by omega) (pf_at h_pp h_pm (by omega)) (hE.trans ((rkz_s h_pp h_pm h_n (by omega) c_4 (by omega)).trans (by rw [Nat.sub_sub]))) (by omega) _ _ _ V (lv_sub hl [0, 1, 2, 3, 4, 5] rfl)
          · skip
            have c_4 := b_eq (by omega) (by omega) c_4
            refine lv_iload_n hx hb dX0_closesTooSoon_27 rfl (lv_at hl 4 rfl) ?_
            refine lv_aload_n hx hb dX0_closesTooSoon_28 rfl (lv_at hl 3 rfl) ?_
            refine g_get hC V (ci := 5) uwX5 2 rfl rfl 0 (by decide) w_35 rfl rfl dX0_closesTooSoon_29 ?_
            refine lv_iconst (v := (nI 1)) hx hb dX0_closesTooSoon_32 (by decide +kernel) ?_
            refine lv_isub hx hb dX0_closesTooSoon_33 ?_
            refine g_vi (y := (nI (an - 1))) (nI_sub (by omega)) ?_
            refine lv_icmp_ge (tgt := 41) hx hb dX0_closesTooSoon_34 (by decide) (fun c_5 => ?_) (fun c_5 => ?_)
            · skip
              have c_5 := b_le (by omega) (by omega) c_5
              refine lv_iconst (v := (nI 0)) hx hb dX0_closesTooSoon_41 (by decide +kernel) ?_
              exact g_zret (Qr := (q_y_closes_f T pp y0 a0 sm fi ys y1 y2 yt an am al ao au a1 a2 a3 a4 a5 a6 a7 a8 a9 a10)) hC V ⟨(Nat.le_of_ble_eq_true rfl), (Nat.le_of_ble_eq_true rfl)⟩ (by first | decide +kernel | exact rfl) (.inr ⟨rfl, rfl, (cl_l h_pp.1 (by omega))⟩) dX0_closesTooSoon_42
            · skip
              have c_5 := b_nle (by omega) (by omega) c_5
              refine lv_iconst (v := (nI 1)) hx hb dX0_closesTooSoon_37 (by decide +kernel) ?_
              refine lv_goto (tgt := 42) hx hb dX0_closesTooSoon_38 (by decide) ?_
              exact g_zret (Qr := (q_y_closes_f T pp y0 a0 sm fi ys y1 y2 yt an am al ao au a1 a2 a3 a4 a5 a6 a7 a8 a9 a10)) hC V ⟨(Nat.le_of_ble_eq_true rfl), (Nat.le_of_ble_eq_true rfl)⟩ (by first | decide +kernel | exact rfl) (.inl ⟨rfl, rfl, (cl_y h_pp.1 (hE.trans (rkz_y c_4 (by omega) (by omega))) (by omega))⟩) dX0_closesTooSoon_42
  exact L_1 _ 0 (nI fi) (by omega) (Or.inr (bd_nI h_fi)) (rkz_0 (by omega)) (Nat.lt_succ_self _) _ _ _ V (lv_sub hl [0, 1, 2, 3, 4, 5] rfl)

def q_y_layf7 (T : Nat → ClassId) (fa : Nat → Int32) (pp : List Nat) (so_ : Option (List Nat)) (y0 : Nat) (a0 : Nat) (tk : Int32) (sum : Int32) (ys : Int32) (y1 : Nat) (y2 : Nat) (yb : Nat → Int32) (yt : Nat → Int32) (an : Nat) (am : Int32) (al : Int32) (ao : Int32) (au : Int32) (a1 : Nat) (a2 : Nat) (a3 : Nat) (a4 : Nat) (a5 : Nat) (a6 : Nat) (a7 : Nat) (a8 : Nat) (a9 : Nat) (a10 : Nat) (af1 : Nat → Int32) (af2 : Nat → Int32) : Option Value → va_W → Prop := fun rr ww => (∃ (bs : Int32) (g1 : Nat → Int32) (g2 : Nat → Int32), rr = none ∧ ww = [(y0, .inr (0, [.int bs, .ref y1, .ref y2])), (y1, .inl (T 0, 7, .inl g1)), (y2, .inl (T 0, 7, .inl g2)), (a0, .inr (5, [.int (nI an), .int am, .int al, .int ao, .int au, .ref a1, .ref a2, .ref a3, .ref a4, .ref a5, .ref a6, .ref a7, .ref a8, .ref a9, .ref a10])), (a1, .inl (T 0, 10, .inl af1)), (a2, .inl (T 0, 10, .inl af2))] ∧ RST an fa ((gC an (an - 7) pp).foldl (upC fa) so_) bs g1 ∧ (∀ j, j < 7 → g2 j = yt j))
set_option maxHeartbeats 4000000 in
set_option maxRecDepth 100000 in
theorem y_layf7 (l : Launch) (D : va_G) (T : Nat → ClassId) (fa : Nat → Int32) (pp : List Nat) (so_ : Option (List Nat)) (y0 : Nat) (a0 : Nat) (tk : Int32) (sum : Int32) (ys : Int32) (y1 : Nat) (y2 : Nat) (yb : Nat → Int32) (yt : Nat → Int32) (an : Nat) (am : Int32) (al : Int32) (ao : Int32) (au : Int32) (a1 : Nat) (a2 : Nat) (a3 : Nat) (a4 : Nat) (a5 : Nat) (a6 : Nat) (a7 : Nat) (a8 : Nat) (a9 : Nat) (a10 : Nat) (af1 : Nat → Int32) (af2 : Nat → Int32) (h_n : an ≤ 7) (h_pp : PFX an pp 7 yt) (h_pm : ∀ j, 7 ≤ j → j < 7 → yt j = -1) (h_us : USE pp tk) (h_sum : sum = nI (smL fa 0 pp)) (h_sb : smL fa 0 pp ≤ 60 * 7) (h_st : RST an fa so_ ys yb) (h_kn : 7 ≤ an) (h_a : MI an fa) (h_s1 : ∀ i, i < an → af1 i = fa (4 + i)) (h_s2 : ∀ i, i < an → af2 i = fa (14 + i)) : Ct l yX0_layFrom cX0_layFrom 7 none 2 0 0 D T [.ref y0, .ref a0, .int (nI 7), .int tk, .int sum] [(y0, .inr (0, [.int ys, .ref y1, .ref y2])), (y1, .inl (T 0, 7, .inl yb)), (y2, .inl (T 0, 7, .inl yt)), (a0, .inr (5, [.int (nI an), .int am, .int al, .int ao, .int au, .ref a1, .ref a2, .ref a3, .ref a4, .ref a5, .ref a6, .ref a7, .ref a8, .ref a9, .ref a10])), (a1, .inl (T 0, 10, .inl af1)), (a2, .inl (T 0, 10, .inl af2))] (q_y_layf7 T fa pp so_ y0 a0 tk sum ys y1 y2 yb yt an am al ao au a1 a2 a3 a4 a5 a6 a7 a8 a9 a10 af1 af2) := by
  refine Ct.of (cc := cX0_layFrom) (maxL := 7) (ret := none) (by decide) (Nat.le_of_ble_eq_true rfl) ?_
  intro p e s m args below meth c A ls hC hnm V hl
  obtain ⟨hx, hb, hr, hml, hown, hts, hlocks⟩ := id hC
  generalize hH : s.heap = H at V ⊢
  clear hH
  have hl : lv_has ls 7 [(0, .ref y0), (1, .ref a0), (2, .int (nI 7)), (3, .int tk), (4, .int sum)] := hl
  generalize hlo : ([] : List Loc) = locs at V ⊢
  clear hlo
  refine lv_aload_n hx hb dX0_layFrom_0 rfl (lv_at hl 0 rfl) ?_
  refine g_get hC V (ci := 0) uwX0 0 rfl rfl 0 (by decide) w_211 rfl rfl dX0_layFrom_1 ?_
  refine lv_iconst (v := (-1)) hx hb dX0_layFrom_4 (by decide +kernel) ?_
  refine lv_icmp_eq (tgt := 18) hx hb dX0_layFrom_5 (by decide) (fun c_1 => ?_) (fun c_1 => ?_)
  · skip
    refine lv_iload_n hx hb dX0_layFrom_18 rfl (lv_at hl 2 rfl) ?_
    refine lv_aload_n hx hb dX0_layFrom_19 rfl (lv_at hl 1 rfl) ?_
    refine g_get hC V (ci := 5) uwX5 3 rfl rfl 0 (by decide) w_35 rfl rfl dX0_layFrom_20 ?_
    refine lv_icmp_ge (tgt := 32) hx hb dX0_layFrom_23 (by decide) (fun c_2 => ?_) (fun c_2 => ?_)
    · skip
      have c_2 := b_le (by omega) (by omega) c_2
      refine lv_aload_n hx hb dX0_layFrom_32 rfl (lv_at hl 0 rfl) ?_
      refine lv_iload hx hb dX0_layFrom_33 (lv_at hl 4 rfl) ?_
      refine g_put hC V (ci := 0) uwX0 tyX0 tyX0_ok nmX0 0 rfl rfl 0 (by decide) w_211 rfl rfl rfl rfl (Nat.le_of_ble_eq_true rfl) (ws' := [(y0, .inr (0, [.int sum, .ref y1, .ref y2])), (y1, .inl (T 0, 7, .inl yb)), (y2, .inl (T 0, 7, .inl yt)), (a0, .inr (5, [.int (nI an), .int am, .int al, .int ao, .int au, .ref a1, .ref a2, .ref a3, .ref a4, .ref a5, .ref a6, .ref a7, .ref a8, .ref a9, .ref a10])), (a1, .inl (T 0, 10, .inl af1)), (a2, .inl (T 0, 10, .inl af2))]) rfl dX0_layFrom_35 (fun H locs V => ?_)
      refine lv_aload_n hx hb dX0_layFrom_38 rfl (lv_at hl 0 rfl) ?_
      refine g_get hC V (ci := 0) uwX0 0 rfl rfl 2 (by decide) w_215 rfl rfl dX0_layFrom_39 ?_
      refine lv_iconst (v := (nI 0)) hx hb dX0_layFrom_42 (by decide +kernel) ?_
      refine lv_aload_n hx hb dX0_layFrom_43 rfl (lv_at hl 0 rfl) ?_
      refine g_get hC V (ci := 0) uwX0 0 rfl rfl 1 (by decide) w_213 rfl rfl dX0_layFrom_44 ?_
      refine lv_iconst (v := (nI 0)) hx hb dX0_layFrom_47 (by decide +kernel) ?_
      refine lv_bipush (v := (nI 7)) hx hb dX0_layFrom_48 (by decide +kernel) ?_
      refine g_copyf hC V hl.1 w_808 w_672 w_671 w_17 2 1 rfl rfl (by decide +kernel) (by decide +kernel) (Nat.le_of_ble_eq_true rfl) (Nat.le_of_ble_eq_true rfl) (Nat.le_of_ble_eq_true rfl) dX0_layFrom_50 7 (by decide +kernel) (fun g_3 hcp H locs V => ?_)
      have V : gW D T A s [(y0, .inr (0, [.int sum, .ref y1, .ref y2])), (y1, .inl (T 0, 7, .inl g_3)), (y2, .inl (T 0, 7, .inl yt)), (a0, .inr (5, [.int (nI an), .int am, .int al, .int ao, .int au, .ref a1, .ref a2, .ref a3, .ref a4, .ref a5, .ref a6, .ref a7, .ref a8, .ref a9, .ref a10])), (a1, .inl (T 0, 10, .inl af1)), (a2, .inl (T 0, 10, .inl af2))] H locs := V
      exact g_vret (Qr := (q_y_layf7 T fa pp so_ y0 a0 tk sum ys y1 y2 yb yt an am al ao au a1 a2 a3 a4 a5 a6 a7 a8 a9 a10 af1 af2)) hC V ⟨(Nat.le_of_ble_eq_true rfl), (Nat.le_of_ble_eq_true rfl)⟩ ⟨sum, g_3, yt, rfl, rfl, (by rw [show an - 7 = 0 by omega]; exact rs_up h_st h_sum (by omega) (Or.inl c_1) (fun i hi => (hcp i (by omega)).trans (h_pp.2 i (by omega)).1)), (fun _ _ => rfl)⟩ dX0_layFrom_53
    · skip
      have c_2 := b_nle (by omega) (by omega) c_2
      refine lv_iload_n hx hb dX0_layFrom_26 rfl (lv_at hl 2 rfl) ?_
      refine lv_bipush (v := (nI 7)) hx hb dX0_layFrom_27 (by decide +kernel) ?_
      refine lv_icmp_lt (tgt := 54) hx hb dX0_layFrom_29 (by decide) (fun c => absurd (show (nI 7) < (nI 7) from c) (by decide +kernel)) (fun _ => ?_)
      refine lv_aload_n hx hb dX0_layFrom_32 rfl (lv_at hl 0 rfl) ?_
      refine lv_iload hx hb dX0_layFrom_33 (lv_at hl 4 rfl) ?_
      refine g_put hC V (ci := 0) uwX0 tyX0 tyX0_ok nmX0 0 rfl rfl 0 (by decide) w_211 rfl rfl rfl rfl (Nat.le_of_ble_eq_true rfl) (ws' := [(y0, .inr (0, [.int sum, .ref y1, .ref y2])), (y1, .inl (T 0, 7, .inl yb)), (y2, .inl (T 0, 7, .inl yt)), (a0, .inr (5, [.int (nI an), .int am, .int al, .int ao, .int au, .ref a1, .ref a2, .ref a3, .ref a4, .ref a5, .ref a6, .ref a7, .ref a8, .ref a9, .ref a10])), (a1, .inl (T 0, 10, .inl af1)), (a2, .inl (T 0, 10, .inl af2))]) rfl dX0_layFrom_35 (fun H locs V => ?_)
      refine lv_aload_n hx hb dX0_layFrom_38 rfl (lv_at hl 0 rfl) ?_
      refine g_get hC V (ci := 0) uwX0 0 rfl rfl 2 (by decide) w_215 rfl rfl dX0_layFrom_39 ?_
      refine lv_iconst (v := (nI 0)) hx hb dX0_layFrom_42 (by decide +kernel) ?_
      refine lv_aload_n hx hb dX0_layFrom_43 rfl (lv_at hl 0 rfl) ?_
      refine g_get hC V (ci := 0) uwX0 0 rfl rfl 1 (by decide) w_213 rfl rfl dX0_layFrom_44 ?_
      refine lv_iconst (v := (nI 0)) hx hb dX0_layFrom_47 (by decide +kernel) ?_
      refine lv_bipush (v := (nI 7)) hx hb dX0_layFrom_48 (by decide +kernel) ?_
      refine g_copyf hC V hl.1 w_808 w_672 w_671 w_17 2 1 rfl rfl (by decide +kernel) (by decide +kernel) (Nat.le_of_ble_eq_true rfl) (Nat.le_of_ble_eq_true rfl) (Nat.le_of_ble_eq_true rfl) dX0_layFrom_50 7 (by decide +kernel) (fun g_4 hcp H locs V => ?_)
      have V : gW D T A s [(y0, .inr (0, [.int sum, .ref y1, .ref y2])), (y1, .inl (T 0, 7, .inl g_4)), (y2, .inl (T 0, 7, .inl yt)), (a0, .inr (5, [.int (nI an), .int am, .int al, .int ao, .int au, .ref a1, .ref a2, .ref a3, .ref a4, .ref a5, .ref a6, .ref a7, .ref a8, .ref a9, .ref a10])), (a1, .inl (T 0, 10, .inl af1)), (a2, .inl (T 0, 10, .inl af2))] H locs := V
      exact g_vret (Qr := (q_y_layf7 T fa pp so_ y0 a0 tk sum ys y1 y2 yb yt an am al ao au a1 a2 a3 a4 a5 a6 a7 a8 a9 a10 af1 af2)) hC V ⟨(Nat.le_of_ble_eq_true rfl), (Nat.le_of_ble_eq_true rfl)⟩ ⟨sum, g_4, yt, rfl, rfl, (by rw [show an - 7 = 0 by omega]; exact rs_up h_st h_sum (by omega) (Or.inl c_1) (fun i hi => (hcp i (by omega)).trans (h_pp.2 i (by omega)).1)), (fun _ _ => rfl)⟩ dX0_layFrom_53
  · skip
    refine lv_iload hx hb dX0_layFrom_8 (lv_at hl 4 rfl) ?_
    refine lv_aload_n hx hb dX0_layFrom_10 rfl (lv_at hl 0 rfl) ?_
    refine g_get hC V (ci := 0) uwX0 0 rfl rfl 0 (by decide) w_211 rfl rfl dX0_layFrom_11 ?_
    refine lv_icmp_lt (tgt := 18) hx hb dX0_layFrom_14 (by decide) (fun c_5 => ?_) (fun c_5 => ?_)
    · skip
      refine lv_iload_n hx hb dX0_layFrom_18 rfl (lv_at hl 2 rfl) ?_
      refine lv_aload_n hx hb dX0_layFrom_19 rfl (lv_at hl 1 rfl) ?_
      refine g_get hC V (ci := 5) uwX5 3 rfl rfl 0 (by decide) w_35 rfl rfl dX0_layFrom_20 ?_
      refine lv_icmp_ge (tgt := 32) hx hb dX0_layFrom_23 (by decide) (fun c_6 => ?_) (fun c_6 => ?_)
      · skip
        have c_6 := b_le (by omega) (by omega) c_6
        refine lv_aload_n hx hb dX0_layFrom_32 rfl (lv_at hl 0 rfl) ?_
        refine lv_iload hx hb dX0_layFrom_33 (lv_at hl 4 rfl) ?_
        refine g_put hC V (ci := 0) uwX0 tyX0 tyX0_ok nmX0 0 rfl rfl 0 (by decide) w_211 rfl rfl rfl rfl (Nat.le_of_ble_eq_true rfl) (ws' := [(y0, .inr (0, [.int sum, .ref y1, .ref y2])), (y1, .inl (T 0, 7, .inl yb)), (y2, .inl (T 0, 7, .inl yt)), (a0, .inr (5, [.int (nI an), .int am, .int al, .int ao, .int au, .ref a1, .ref a2, .ref a3, .ref a4, .ref a5, .ref a6, .ref a7, .ref a8, .ref a9, .ref a10])), (a1, .inl (T 0, 10, .inl af1)), (a2, .inl (T 0, 10, .inl af2))]) rfl dX0_layFrom_35 (fun H locs V => ?_)
        refine lv_aload_n hx hb dX0_layFrom_38 rfl (lv_at hl 0 rfl) ?_
        refine g_get hC V (ci := 0) uwX0 0 rfl rfl 2 (by decide) w_215 rfl rfl dX0_layFrom_39 ?_
        refine lv_iconst (v := (nI 0)) hx hb dX0_layFrom_42 (by decide +kernel) ?_
        refine lv_aload_n hx hb dX0_layFrom_43 rfl (lv_at hl 0 rfl) ?_
        refine g_get hC V (ci := 0) uwX0 0 rfl rfl 1 (by decide) w_213 rfl rfl dX0_layFrom_44 ?_
        refine lv_iconst (v := (nI 0)) hx hb dX0_layFrom_47 (by decide +kernel) ?_
        refine lv_bipush (v := (nI 7)) hx hb dX0_layFrom_48 (by decide +kernel) ?_
        refine g_copyf hC V hl.1 w_808 w_672 w_671 w_17 2 1 rfl rfl (by decide +kernel) (by decide +kernel) (Nat.le_of_ble_eq_true rfl) (Nat.le_of_ble_eq_true rfl) (Nat.le_of_ble_eq_true rfl) dX0_layFrom_50 7 (by decide +kernel) (fun g_7 hcp H locs V => ?_)
        have V : gW D T A s [(y0, .inr (0, [.int sum, .ref y1, .ref y2])), (y1, .inl (T 0, 7, .inl g_7)), (y2, .inl (T 0, 7, .inl yt)), (a0, .inr (5, [.int (nI an), .int am, .int al, .int ao, .int au, .ref a1, .ref a2, .ref a3, .ref a4, .ref a5, .ref a6, .ref a7, .ref a8, .ref a9, .ref a10])), (a1, .inl (T 0, 10, .inl af1)), (a2, .inl (T 0, 10, .inl af2))] H locs := V
        exact g_vret (Qr := (q_y_layf7 T fa pp so_ y0 a0 tk sum ys y1 y2 yb yt an am al ao au a1 a2 a3 a4 a5 a6 a7 a8 a9 a10 af1 af2)) hC V ⟨(Nat.le_of_ble_eq_true rfl), (Nat.le_of_ble_eq_true rfl)⟩ ⟨sum, g_7, yt, rfl, rfl, (by rw [show an - 7 = 0 by omega]; exact rs_up h_st h_sum (by omega) (Or.inr c_5) (fun i hi => (hcp i (by omega)).trans (h_pp.2 i (by omega)).1)), (fun _ _ => rfl)⟩ dX0_layFrom_53
      · skip
        have c_6 := b_nle (by omega) (by omega) c_6
        refine lv_iload_n hx hb dX0_layFrom_26 rfl (lv_at hl 2 rfl) ?_
        refine lv_bipush (v := (nI 7)) hx hb dX0_layFrom_27 (by decide +kernel) ?_
        refine lv_icmp_lt (tgt := 54) hx hb dX0_layFrom_29 (by decide) (fun c => absurd (show (nI 7) < (nI 7) from c) (by decide +kernel)) (fun _ => ?_)
        refine lv_aload_n hx hb dX0_layFrom_32 rfl (lv_at hl 0 rfl) ?_
        refine lv_iload hx hb dX0_layFrom_33 (lv_at hl 4 rfl) ?_
        refine g_put hC V (ci := 0) uwX0 tyX0 tyX0_ok nmX0 0 rfl rfl 0 (by decide) w_211 rfl rfl rfl rfl (Nat.le_of_ble_eq_true rfl) (ws' := [(y0, .inr (0, [.int sum, .ref y1, .ref y2])), (y1, .inl (T 0, 7, .inl yb)), (y2, .inl (T 0, 7, .inl yt)), (a0, .inr (5, [.int (nI an), .int am, .int al, .int ao, .int au, .ref a1, .ref a2, .ref a3, .ref a4, .ref a5, .ref a6, .ref a7, .ref a8, .ref a9, .ref a10])), (a1, .inl (T 0, 10, .inl af1)), (a2, .inl (T 0, 10, .inl af2))]) rfl dX0_layFrom_35 (fun H locs V => ?_)
        refine lv_aload_n hx hb dX0_layFrom_38 rfl (lv_at hl 0 rfl) ?_
        refine g_get hC V (ci := 0) uwX0 0 rfl rfl 2 (by decide) w_215 rfl rfl dX0_layFrom_39 ?_
        refine lv_iconst (v := (nI 0)) hx hb dX0_layFrom_42 (by decide +kernel) ?_
        refine lv_aload_n hx hb dX0_layFrom_43 rfl (lv_at hl 0 rfl) ?_
        refine g_get hC V (ci := 0) uwX0 0 rfl rfl 1 (by decide) w_213 rfl rfl dX0_layFrom_44 ?_
        refine lv_iconst (v := (nI 0)) hx hb dX0_layFrom_47 (by decide +kernel) ?_
        refine lv_bipush (v := (nI 7)) hx hb dX0_layFrom_48 (by decide +kernel) ?_
        refine g_copyf hC V hl.1 w_808 w_672 w_671 w_17 2 1 rfl rfl (by decide +kernel) (by decide +kernel) (Nat.le_of_ble_eq_true rfl) (Nat.le_of_ble_eq_true rfl) (Nat.le_of_ble_eq_true rfl) dX0_layFrom_50 7 (by decide +kernel) (fun g_8 hcp H locs V => ?_)
        have V : gW D T A s [(y0, .inr (0, [.int sum, .ref y1, .ref y2])), (y1, .inl (T 0, 7, .inl g_8)), (y2, .inl (T 0, 7, .inl yt)), (a0, .inr (5, [.int (nI an), .int am, .int al, .int ao, .int au, .ref a1, .ref a2, .ref a3, .ref a4, .ref a5, .ref a6, .ref a7, .ref a8, .ref a9, .ref a10])), (a1, .inl (T 0, 10, .inl af1)), (a2, .inl (T 0, 10, .inl af2))] H locs := V
        exact g_vret (Qr := (q_y_layf7 T fa pp so_ y0 a0 tk sum ys y1 y2 yb yt an am al ao au a1 a2 a3 a4 a5 a6 a7 a8 a9 a10 af1 af2)) hC V ⟨(Nat.le_of_ble_eq_true rfl), (Nat.le_of_ble_eq_true rfl)⟩ ⟨sum, g_8, yt, rfl, rfl, (by rw [show an - 7 = 0 by omega]; exact rs_up h_st h_sum (by omega) (Or.inr c_5) (fun i hi => (hcp i (by omega)).trans (h_pp.2 i (by omega)).1)), (fun _ _ => rfl)⟩ dX0_layFrom_53
    · skip
      exact g_vret (Qr := (q_y_layf7 T fa pp so_ y0 a0 tk sum ys y1 y2 yb yt an am al ao au a1 a2 a3 a4 a5 a6 a7 a8 a9 a10 af1 af2)) hC V ⟨(Nat.le_of_ble_eq_true rfl), (Nat.le_of_ble_eq_true rfl)⟩ ⟨ys, yb, yt, rfl, rfl, (rs_pr h_st c_1 h_sum (by omega) c_5), (fun _ _ => rfl)⟩ dX0_layFrom_17

def q_y_layf6 (T : Nat → ClassId) (fa : Nat → Int32) (pp : List Nat) (so_ : Option (List Nat)) (y0 : Nat) (a0 : Nat) (tk : Int32) (sum : Int32) (ys : Int32) (y1 : Nat) (y2 : Nat) (yb : Nat → Int32) (yt : Nat → Int32) (an : Nat) (am : Int32) (al : Int32) (ao : Int32) (au : Int32) (a1 : Nat) (a2 : Nat) (a3 : Nat) (a4 : Nat) (a5 : Nat) (a6 : Nat) (a7 : Nat) (a8 : Nat) (a9 : Nat) (a10 : Nat) (af1 : Nat → Int32) (af2 : Nat → Int32) : Option Value → va_W → Prop := fun rr ww => (∃ (bs : Int32) (g1 : Nat → Int32) (g2 : Nat → Int32), rr = none ∧ ww = [(y0, .inr (0, [.int bs, .ref y1, .ref y2])), (y1, .inl (T 0, 7, .inl g1)), (y2, .inl (T 0, 7, .inl g2)), (a0, .inr (5, [.int (nI an), .int am, .int al, .int ao, .int au, .ref a1, .ref a2, .ref a3, .ref a4, .ref a5, .ref a6, .ref a7, .ref a8, .ref a9, .ref a10])), (a1, .inl (T 0, 10, .inl af1)), (a2, .inl (T 0, 10, .inl af2))] ∧ RST an fa ((gC an (an - 6) pp).foldl (upC fa) so_) bs g1 ∧ (∀ j, j < 7 → g2 j = yt j))
set_option maxHeartbeats 4000000 in
set_option maxRecDepth 100000 in
theorem y_layf6 (l : Launch) (D : va_G) (T : Nat → ClassId) (fa : Nat → Int32) (pp : List Nat) (so_ : Option (List Nat)) (y0 : Nat) (a0 : Nat) (tk : Int32) (sum : Int32) (ys : Int32) (y1 : Nat) (y2 : Nat) (yb : Nat → Int32) (yt : Nat → Int32) (an : Nat) (am : Int32) (al : Int32) (ao : Int32) (au : Int32) (a1 : Nat) (a2 : Nat) (a3 : Nat) (a4 : Nat) (a5 : Nat) (a6 : Nat) (a7 : Nat) (a8 : Nat) (a9 : Nat) (a10 : Nat) (af1 : Nat → Int32) (af2 : Nat → Int32) (h_n : an ≤ 7) (h_pp : PFX an pp 6 yt) (h_pm : ∀ j, 6 ≤ j → j < 7 → yt j = -1) (h_us : USE pp tk) (h_sum : sum = nI (smL fa 0 pp)) (h_sb : smL fa 0 pp ≤ 60 * 6) (h_st : RST an fa so_ ys yb) (h_kn : 6 ≤ an) (h_a : MI an fa) (h_s1 : ∀ i, i < an → af1 i = fa (4 + i)) (h_s2 : ∀ i, i < an → af2 i = fa (14 + i)) : Ct l yX0_layFrom cX0_layFrom 7 none 3 0 0 D T [.ref y0, .ref a0, .int (nI 6), .int tk, .int sum] [(y0, .inr (0, [.int ys, .ref y1, .ref y2])), (y1, .inl (T 0, 7, .inl yb)), (y2, .inl (T 0, 7, .inl yt)), (a0, .inr (5, [.int (nI an), .int am, .int al, .int ao, .int au, .ref a1, .ref a2, .ref a3, .ref a4, .ref a5, .ref a6, .ref a7, .ref a8, .ref a9, .ref a10])), (a1, .inl (T 0, 10, .inl af1)), (a2, .inl (T 0, 10, .inl af2))] (q_y_layf6 T fa pp so_ y0 a0 tk sum ys y1 y2 yb yt an am al ao au a1 a2 a3 a4 a5 a6 a7 a8 a9 a10 af1 af2) := by
  refine Ct.of (cc := cX0_layFrom) (maxL := 7) (ret := none) (by decide) (Nat.le_of_ble_eq_true rfl) ?_
  intro p e s m args below meth c A ls hC hnm V hl
  obtain ⟨hx, hb, hr, hml, hown, hts, hlocks⟩ := id hC
  generalize hH : s.heap = H at V ⊢
  clear hH
  have hl : lv_has ls 7 [(0, .ref y0), (1, .ref a0), (2, .int (nI 6)), (3, .int tk), (4, .int sum)] := hl
  generalize hlo : ([] : List Loc) = locs at V ⊢
  clear hlo
  refine lv_aload_n hx hb dX0_layFrom_0 rfl (lv_at hl 0 rfl) ?_
  refine g_get hC V (ci := 0) uwX0 0 rfl rfl 0 (by decide) w_211 rfl rfl dX0_layFrom_1 ?_
  refine lv_iconst (v := (-1)) hx hb dX0_layFrom_4 (by decide +kernel) ?_
  refine lv_icmp_eq (tgt := 18) hx hb dX0_layFrom_5 (by decide) (fun c_1 => ?_) (fun c_1 => ?_)
  · skip
    refine lv_iload_n hx hb dX0_layFrom_18 rfl (lv_at hl 2 rfl) ?_
    refine lv_aload_n hx hb dX0_layFrom_19 rfl (lv_at hl 1 rfl) ?_
    refine g_get hC V (ci := 5) uwX5 3 rfl rfl 0 (by decide) w_35 rfl rfl dX0_layFrom_20 ?_
    refine lv_icmp_ge (tgt := 32) hx hb dX0_layFrom_23 (by decide) (fun c_2 => ?_) (fun c_2 => ?_)
    · skip
      have c_2 := b_le (by omega) (by omega) c_2
      refine lv_aload_n hx hb dX0_layFrom_32 rfl (lv_at hl 0 rfl) ?_
      refine lv_iload hx hb dX0_layFrom_33 (lv_at hl 4 rfl) ?_
      refine g_put hC V (ci := 0) uwX0 tyX0 tyX0_ok nmX0 0 rfl rfl 0 (by decide) w_211 rfl rfl rfl rfl (Nat.le_of_ble_eq_true rfl) (ws' := [(y0, .inr (0, [.int sum, .ref y1, .ref y2])), (y1, .inl (T 0, 7, .inl yb)), (y2, .inl (T 0, 7, .inl yt)), (a0, .inr (5, [.int (nI an), .int am, .int al, .int ao, .int au, .ref a1, .ref a2, .ref a3, .ref a4, .ref a5, .ref a6, .ref a7, .ref a8, .ref a9, .ref a10])), (a1, .inl (T 0, 10, .inl af1)), (a2, .inl (T 0, 10, .inl af2))]) rfl dX0_layFrom_35 (fun H locs V => ?_)
      refine lv_aload_n hx hb dX0_layFrom_38 rfl (lv_at hl 0 rfl) ?_
      refine g_get hC V (ci := 0) uwX0 0 rfl rfl 2 (by decide) w_215 rfl rfl dX0_layFrom_39 ?_
      refine lv_iconst (v := (nI 0)) hx hb dX0_layFrom_42 (by decide +kernel) ?_
      refine lv_aload_n hx hb dX0_layFrom_43 rfl (lv_at hl 0 rfl) ?_
      refine g_get hC V (ci := 0) uwX0 0 rfl rfl 1 (by decide) w_213 rfl rfl dX0_layFrom_44 ?_
      refine lv_iconst (v := (nI 0)) hx hb dX0_layFrom_47 (by decide +kernel) ?_
      refine lv_bipush (v := (nI 7)) hx hb dX0_layFrom_48 (by decide +kernel) ?_
      refine g_copyf hC V hl.1 w_808 w_672 w_671 w_17 2 1 rfl rfl (by decide +kernel) (by decide +kernel) (Nat.le_of_ble_eq_true rfl) (Nat.le_of_ble_eq_true rfl) (Nat.le_of_ble_eq_true rfl) dX0_layFrom_50 7 (by decide +kernel) (fun g_3 hcp H locs V => ?_)
      have V : gW D T A s [(y0, .inr (0, [.int sum, .ref y1, .ref y2])), (y1, .inl (T 0, 7, .inl g_3)), (y2, .inl (T 0, 7, .inl yt)), (a0, .inr (5, [.int (nI an), .int am, .int al, .int ao, .int au, .ref a1, .ref a2, .ref a3, .ref a4, .ref a5, .ref a6, .ref a7, .ref a8, .ref a9, .ref a10])), (a1, .inl (T 0, 10, .inl af1)), (a2, .inl (T 0, 10, .inl af2))] H locs := V
      exact g_vret (Qr := (q_y_layf6 T fa pp so_ y0 a0 tk sum ys y1 y2 yb yt an am al ao au a1 a2 a3 a4 a5 a6 a7 a8 a9 a10 af1 af2)) hC V ⟨(Nat.le_of_ble_eq_true rfl), (Nat.le_of_ble_eq_true rfl)⟩ ⟨sum, g_3, yt, rfl, rfl, (by rw [show an - 6 = 0 by omega]; exact rs_up h_st h_sum (by omega) (Or.inl c_1) (fun i hi => (hcp i (by omega)).trans (h_pp.2 i (by omega)).1)), (fun _ _ => rfl)⟩ dX0_layFrom_53
    · skip
      have c_2 := b_nle (by omega) (by omega) c_2
      refine lv_iload_n hx hb dX0_layFrom_26 rfl (lv_at hl 2 rfl) ?_
      refine lv_bipush (v := (nI 7)) hx hb dX0_layFrom_27 (by decide +kernel) ?_
      refine lv_icmp_lt (tgt := 54) hx hb dX0_layFrom_29 (by decide) (fun _ => ?_) (fun c => absurd (show (nI 6) < (nI 7) by first | rfl | decide +kernel) c)
      refine lv_iconst (v := (nI 0)) hx hb dX0_layFrom_54 (by decide +kernel) ?_
      refine lv_istore (lv' := [(5, .int (nI 0)), (0, .ref y0), (1, .ref a0), (2, .int (nI 6)), (3, .int tk), (4, .int sum)]) hx hb dX0_layFrom_55 hl (by decide) rfl (fun ls hl => ?_)
      have L_4 : ∀ (fu : Nat) (k57 : Nat) (bv : Int32) (ga : Nat → Int32) (gb : Nat → Int32), k57 ≤ an → (∀ j, j < 7 → gb j = yt j) → RST an fa ((gcK an (an - 7) pp k57).foldl (upC fa) so_) bv ga → an - k57 < fu → ∀ (H : Heap) (locs : List Loc) (ls : Array Slot), gW D T A s [(y0, .inr (0, [.int bv, .ref y1, .ref y2])), (y1, .inl (T 0, 7, .inl ga)), (y2, .inl (T 0, 7, .inl gb)), (a0, .inr (5, [.int (nI an), .int am, .int al, .int ao, .int au, .ref a1, .ref a2, .ref a3, .ref a4, .ref a5, .ref a6, .ref a7, .ref a8, .ref a9, .ref a10])), (a1, .inl (T 0, 10, .inl af1)), (a2, .inl (T 0, 10, .inl af2))] H locs → lv_has ls 7 [(5, .int (nI k57)), (0, .ref y0), (1, .ref a0), (2, .int (nI 6)), (3, .int tk), (4, .int sum)] → W p l e (rmD 3 0 0) s m args below meth c H locs 0 0 (MQ below (gQ D A (q_y_layf6 T fa pp so_ y0 a0 tk sum ys y1 y2 yb yt an am al ao au a1 a2 a3 a4 a5 a6 a7 a8 a9 a10 af1 af2)) args s 0 0 A) (F0 m 57 ls []) := by
        intro fu_57
        induction fu_57 with
        | zero => intro k57 bv ga gb hk57 hgb hR hmu; exact absurd hmu (Nat.not_lt_zero _)
        | succ fu_57 ih_57 =>
          intro k57 bv ga gb hk57 hgb hR hmu_57 H locs ls V hl
          refine lv_iload hx hb dX0_layFrom_57 (lv_at hl 0 rfl) ?_
          refine lv_aload_n hx hb dX0_layFrom_59 rfl (lv_at hl 2 rfl) ?_
          refine g_get hC V (ci := 5) uwX5 3 rfl rfl 0 (by decide) w_35 rfl rfl dX0_layFrom_60 ?_
          refine lv_icmp_ge (tgt := 145) hx hb dX0_layFrom_63 (by decide) (fun c_5 => ?_) (fun c_5 => ?_)
          · skip
            have c_5 := b_le (by omega) (by omega) c_5
            exact g_vret (Qr := (q_y_layf6 T fa pp so_ y0 a0 tk sum ys y1 y2 yb yt an am al ao au a1 a2 a3 a4 a5 a6 a7 a8 a9 a10 af1 af2)) hC V ⟨(Nat.le_of_ble_eq_true rfl), (Nat.le_of_ble_eq_true rfl)⟩ ⟨bv, ga, gb, rfl, rfl, (by rw [show an - 6 = (an - 7) + 1 by omega]; have q := hR; rw [show k57 = an by omega] at q; exact q), hgb⟩ dX0_layFrom_145
          · skip
            have c_5 := b_nle (by omega) (by omega) c_5
            refine lv_iload_n hx hb dX0_layFrom_66 rfl (lv_at hl 4 rfl) ?_
            refine lv_iload hx hb dX0_layFrom_67 (lv_at hl 0 rfl) ?_
            refine g_callSNU (nA := 2) (host := RX7) hC V hl.1 (c_isIn_f l D T tk k57) w_472 (List.mem_of_getElem? (i := 7) rfl) w_2 w_471 (by decide +kernel) rfl ⟨(Nat.le_of_ble_eq_true rfl), (Nat.le_of_ble_eq_true rfl)⟩ [] rfl rfl (Nat.le_of_ble_eq_true rfl) dX0_layFrom_69 ⟨(Nat.le_of_ble_eq_true rfl), (Nat.le_of_ble_eq_true rfl)⟩ rfl (fun r w1 H locs hQ V => ?_)
            rcases hQ with ⟨rfl, rfl, f_6⟩ | ⟨rfl, rfl, f_7⟩
            · have V : gW D T A s [(y0, .inr (0, [.int bv, .ref y1, .ref y2])), (y1, .inl (T 0, 7, .inl ga)), (y2, .inl (T 0, 7, .inl gb)), (a0, .inr (5, [.int (nI an), .int am, .int al, .int ao, .int au, .ref a1, .ref a2, .ref a3, .ref a4, .ref a5, .ref a6, .ref a7, .ref a8, .ref a9, .ref a10])), (a1, .inl (T 0, 10, .inl af1)), (a2, .inl (T 0, 10, .inl af2))] H locs := V _ [] rfl rfl rfl (by decide +kernel) rfl
              show W p l e _ s m args below meth c H locs _ _ _ (F0 m 72 ls [.int (nI 1)])
              refine lv_if_ne (tgt := 139) hx hb dX0_layFrom_72 (by decide) (fun _ => ?_) (fun c => absurd (show (nI 1) = 0 from c) (by decide +kernel))
              refine lv_iinc (v := (nI (k57 + 1))) (lv' := [(5, .int (nI (k57 + 1))), (0, .ref y0), (1, .ref a0), (2, .int (nI 6)), (3, .int tk), (4, .int sum)]) hx hb dX0_layFrom_139 hl (k := 0) rfl (nI_1 _) (by decide) rfl (fun ls hl => ?_)
              refine lv_goto (tgt := 57) hx hb dX0_layFrom_142 (by decide) ?_
              exact ih_57 (k57 + 1) bv ga gb (by omega) hgb (by rw [gck_n (Or.inl ((h_us k57 (by omega)).mp f_6))]; exact hR) (by omega) _ _ _ V (lv_sub hl [0, 1, 2, 3, 4, 5] rfl)
            · have V : gW D T A s [(y0, .inr (0, [.int bv, .ref y1, .ref y2])), (y1, .inl (T 0, 7, .inl ga)), (y2, .inl (T 0, 7, .inl gb)), (a0, .inr (5, [.int (nI an), .int am, .int al, .int ao, .int au, .ref a1, .ref a2, .ref a3, .ref a4, .ref a5, .ref a6, .ref a7, .ref a8, .ref a9, .ref a10])), (a1, .inl (T 0, 10, .inl af1)), (a2, .inl (T 0, 10, .inl af2))] H locs := V _ [] rfl rfl rfl (by decide +kernel) rfl
              show W p l e _ s m args below meth c H locs _ _ _ (F0 m 72 ls [.int (nI 0)])
              refine lv_if_ne (tgt := 139) hx hb dX0_layFrom_72 (by decide) (fun c => absurd (show (nI 0) = 0 by decide +kernel) c) (fun _ => ?_)
              refine lv_aload_n hx hb dX0_layFrom_75 rfl (lv_at hl 1 rfl) ?_
              refine lv_aload_n hx hb dX0_layFrom_76 rfl (lv_at hl 2 rfl) ?_
              refine lv_iload_n hx hb dX0_layFrom_77 rfl (lv_at hl 3 rfl) ?_
              refine lv_iload hx hb dX0_layFrom_78 (lv_at hl 0 rfl) ?_
              refine g_callVU (nA := 3) hC V hl.1 (y_closes_f l D T pp y0 a0 6 k57 bv y1 y2 gb an am al ao au a1 a2 a3 a4 a5 a6 a7 a8 a9 a10 (by first | assumption | omega) (pf_e h_pp (fun j hj => hgb j (by omega))) (fun j h1 h2 => (hgb j h2).trans (h_pm j h1 h2)) (by omega) (by omega)) w_810 w_812 w_s32 w_7 w_813 (by decide +kernel) rfl ⟨(Nat.le_of_ble_eq_true rfl), (Nat.le_of_ble_eq_true rfl)⟩ 0 (ci := 0) rfl rfl [0, 2, 3] rfl rfl (Nat.le_of_ble_eq_true rfl) dX0_layFrom_80 ⟨(Nat.le_of_ble_eq_true rfl), (Nat.le_of_ble_eq_true rfl)⟩ rfl (fun r w1 H locs hQ V => ?_)
              rcases hQ with ⟨rfl, rfl, f_8⟩ | ⟨rfl, rfl, f_9⟩
              · have V : gW D T A s [(y0, .inr (0, [.int bv, .ref y1, .ref y2])), (y1, .inl (T 0, 7, .inl ga)), (y2, .inl (T 0, 7, .inl gb)), (a0, .inr (5, [.int (nI an), .int am, .int al, .int ao, .int au, .ref a1, .ref a2, .ref a3, .ref a4, .ref a5, .ref a6, .ref a7, .ref a8, .ref a9, .ref a10])), (a1, .inl (T 0, 10, .inl af1)), (a2, .inl (T 0, 10, .inl af2))] H locs := V _ [0, 1, 0] rfl rfl rfl (by decide +kernel) rfl
                show W p l e _ s m args below meth c H locs _ _ _ (F0 m 83 ls [.int (nI 1)])
                refine lv_if_ne (tgt := 139) hx hb dX0_layFrom_83 (by decide) (fun _ => ?_) (fun c => absurd (show (nI 1) = 0 from c) (by decide +kernel))
                refine lv_iinc (v := (nI (k57 + 1))) (lv' := [(5, .int (nI (k57 + 1))), (0, .ref y0), (1, .ref a0), (2, .int (nI 6)), (3, .int tk), (4, .int sum)]) hx hb dX0_layFrom_139 hl (k := 0) rfl (nI_1 _) (by decide) rfl (fun ls hl => ?_)
                refine lv_goto (tgt := 57) hx hb dX0_layFrom_142 (by decide) ?_
                exact ih_57 (k57 + 1) bv ga gb (by omega) hgb (by rw [gck_n (Or.inr f_8)]; exact hR) (by omega) _ _ _ V (lv_sub hl [0, 1, 2, 3, 4, 5] rfl)
              · have V : gW D T A s [(y0, .inr (0, [.int bv, .ref y1, .ref y2])), (y1, .inl (T 0, 7, .inl ga)), (y2, .inl (T 0, 7, .inl gb)), (a0, .inr (5, [.int (nI an), .int am, .int al, .int ao, .int au, .ref a1, .ref a2, .ref a3, .ref a4, .ref a5, .ref a6, .ref a7, .ref a8, .ref a9, .ref a10])), (a1, .inl (T 0, 10, .inl af1)), (a2, .inl (T 0, 10, .inl af2))] H locs := V _ [0, 1, 0] rfl rfl rfl (by decide +kernel) rfl
                show W p l e _ s m args below meth c H locs _ _ _ (F0 m 83 ls [.int (nI 0)])
                refine lv_if_ne (tgt := 139) hx hb dX0_layFrom_83 (by decide) (fun c => absurd (show (nI 0) = 0 by decide +kernel) c) (fun _ => ?_)
                refine lv_aload_n hx hb dX0_layFrom_86 rfl (lv_at hl 1 rfl) ?_
                refine g_get hC V (ci := 0) uwX0 0 rfl rfl 2 (by decide) w_215 rfl rfl dX0_layFrom_87 ?_
                refine lv_iload_n hx hb dX0_layFrom_90 rfl (lv_at hl 3 rfl) ?_
                refine lv_iload hx hb dX0_layFrom_91 (lv_at hl 0 rfl) ?_
                refine g_iast hC V 2 rfl (vp_in_nI (by decide) (by decide)) (f' := (upd gb 6 (nI k57))) (by rw [nI_clamp (by decide)]) (ws' := [(y0, .inr (0, [.int bv, .ref y1, .ref y2])), (y1, .inl (T 0, 7, .inl ga)), (y2, .inl (T 0, 7, .inl (upd gb 6 (nI k57)))), (a0, .inr (5, [.int (nI an), .int am, .int al, .int ao, .int au, .ref a1, .ref a2, .ref a3, .ref a4, .ref a5, .ref a6, .ref a7, .ref a8, .ref a9, .ref a10])), (a1, .inl (T 0, 10, .inl af1)), (a2, .inl (T 0, 10, .inl af2))]) rfl dX0_layFrom_93 (fun H locs V => ?_)
                refine lv_aload_n hx hb dX0_layFrom_94 rfl (lv_at hl 2 rfl) ?_
                refine g_get hC V (ci := 5) uwX5 3 rfl rfl 5 (by decide) w_52 rfl rfl dX0_layFrom_95 ?_
                refine lv_iload_n hx hb dX0_layFrom_98 rfl (lv_at hl 3 rfl) ?_
                refine g_iald hC V 4 rfl (vp_in_nI (by decide) (by decide)) (v := (af1 6)) (congrArg _ (nI_clamp (by decide))) dX0_layFrom_99 ?_
                refine lv_aload_n hx hb dX0_layFrom_100 rfl (lv_at hl 2 rfl) ?_
                refine g_get hC V (ci := 5) uwX5 3 rfl rfl 6 (by decide) w_58 rfl rfl dX0_layFrom_101 ?_
                refine lv_iload hx hb dX0_layFrom_104 (lv_at hl 0 rfl) ?_
                refine g_iald hC V 5 rfl (vp_in_nI (by omega) (by omega)) (v := (af2 k57)) (congrArg _ (nI_clamp (by omega))) dX0_layFrom_106 ?_
                refine lv_isub hx hb dX0_layFrom_107 ?_
                refine va_mabs hx hb (hml.trans hl.1.symm) hown (hts _ w_814) (hts _ w_815) (hts _ w_10) (hts _ w_816) (Nat.le_of_ble_eq_true rfl) (Nat.le_of_ble_eq_true rfl) (Nat.le_of_ble_eq_true rfl) (Nat.le_of_ble_eq_true rfl) dX0_layFrom_108 ?_
                refine lv_istore (lv' := [(6, .int (if 0 ≤ ((af1 6) - (af2 k57)) then ((af1 6) - (af2 k57)) else 0 - ((af1 6) - (af2 k57)))), (5, .int (nI k57)), (0, .ref y0), (1, .ref a0), (2, .int (nI 6)), (3, .int tk), (4, .int sum)]) hx hb dX0_layFrom_111 hl (by decide) rfl (fun ls hl => ?_)
                refine lv_aload_n hx hb dX0_layFrom_113 rfl (lv_at hl 2 rfl) ?_
                refine lv_aload_n hx hb dX0_layFrom_114 rfl (lv_at hl 3 rfl) ?_
                refine lv_iload_n hx hb dX0_layFrom_115 rfl (lv_at hl 4 rfl) ?_
                refine lv_iconst (v := (nI 1)) hx hb dX0_layFrom_116 (by decide +kernel) ?_
                refine lv_iadd hx hb dX0_layFrom_117 ?_
                refine g_vi (y := (nI 7)) (by decide +kernel) ?_
                refine lv_iload_n hx hb dX0_layFrom_118 rfl (lv_at hl 5 rfl) ?_
                refine lv_iconst (v := (nI 1)) hx hb dX0_layFrom_119 (by decide +kernel) ?_
                refine lv_iload hx hb dX0_layFrom_120 (lv_at hl 1 rfl) ?_
                refine lv_ishl hx hb dX0_layFrom_122 ?_
                refine lv_ior hx hb dX0_layFrom_123 ?_
                refine lv_iload hx hb dX0_layFrom_124 (lv_at hl 6 rfl) ?_
                refine lv_iload hx hb dX0_layFrom_126 (lv_at hl 0 rfl) ?_
                refine lv_iadd hx hb dX0_layFrom_128 ?_
                refine g_callV (wr := []) (nA := 4) hC V hl.1 (y_layf7 l D T fa (pp ++ [k57]) ((gcK an (an - 7) pp k57).foldl (upC fa) so_) y0 a0 (tk ||| ((nI 1) <<< ((nI k57) &&& 31))) (sum + (if 0 ≤ ((af1 6) - (af2 k57)) then ((af1 6) - (af2 k57)) else 0 - ((af1 6) - (af2 k57)))) bv y1 y2 ga (upd gb 6 (nI k57)) an am al ao au a1 a2 a3 a4 a5 a6 a7 a8 a9 a10 af1 af2 (by first | assumption | omega) (pf_s (pf_e h_pp (fun j hj => hgb j (by omega))) (by omega)) (fun j h1 h2 => (up_other (by omega)).trans ((hgb j h2).trans (h_pm j (by omega) h2))) (us_s h_us (by omega)) (sqz_s h_a (by omega) (by omega) h_sum h_pp.1 (of_c (n := an) (h_s1 6 (by omega)) (h_s2 k57 (by omega)) rfl)) (sqz_b h_a (by omega) (by omega) h_sb h_pp.1) hR (by omega) (by first | assumption | omega) (by first | assumption | omega) (by first | assumption | omega)) w_804 w_806 w_s31 w_7 w_807 (by decide +kernel) rfl ⟨(Nat.le_of_ble_eq_true rfl), (Nat.le_of_ble_eq_true rfl)⟩ 0 (ci := 0) rfl rfl [0, 1, 2, 3, 4, 5] [] rfl rfl rfl rfl (by decide) (Nat.le_of_ble_eq_true rfl) dX0_layFrom_129 ⟨(Nat.le_of_ble_eq_true rfl), (Nat.le_of_ble_eq_true rfl)⟩ rfl (fun r w1 H locs hQ V => ?_)
                obtain ⟨bs_10, g1_11, g2_12, rfl, rfl, f_13, f_14⟩ := hQ
                have V : gW D T A s [(y0, .inr (0, [.int bs_10, .ref y1, .ref y2])), (y1, .inl (T 0, 7, .inl g1_11)), (y2, .inl (T 0, 7, .inl g2_12)), (a0, .inr (5, [.int (nI an), .int am, .int al, .int ao, .int au, .ref a1, .ref a2, .ref a3, .ref a4, .ref a5, .ref a6, .ref a7, .ref a8, .ref a9, .ref a10])), (a1, .inl (T 0, 10, .inl af1)), (a2, .inl (T 0, 10, .inl af2))] H locs := V
                show W p l e _ s m args below meth c H locs _ _ _ (F0 m 132 ls [])
                refine lv_aload_n hx hb dX0_layFrom_132 rfl (lv_at hl 2 rfl) ?_
                refine g_get hC V (ci := 0) uwX0 0 rfl rfl 2 (by decide) w_215 rfl rfl dX0_layFrom_133 ?_
                refine lv_iload_n hx hb dX0_layFrom_136 rfl (lv_at hl 4 rfl) ?_
                refine lv_iconst (v := (-1)) hx hb dX0_layFrom_137 (by decide +kernel) ?_
                refine g_iast hC V 2 rfl (vp_in_nI (by decide) (by decide)) (f' := (upd g2_12 6 (-1))) (by rw [nI_clamp (by decide)]) (ws' := [(y0, .inr (0, [.int bs_10, .ref y1, .ref y2])), (y1, .inl (T 0, 7, .inl g1_11)), (y2, .inl (T 0, 7, .inl (upd g2_12 6 (-1)))), (a0, .inr (5, [.int (nI an), .int am, .int al, .int ao, .int au, .ref a1, .ref a2, .ref a3, .ref a4, .ref a5, .ref a6, .ref a7, .ref a8, .ref a9, .ref a10])), (a1, .inl (T 0, 10, .inl af1)), (a2, .inl (T 0, 10, .inl af2))]) rfl dX0_layFrom_138 (fun H locs V => ?_)
                refine lv_iinc (v := (nI (k57 + 1))) (lv' := [(5, .int (nI (k57 + 1))), (6, .int (if 0 ≤ ((af1 6) - (af2 k57)) then ((af1 6) - (af2 k57)) else 0 - ((af1 6) - (af2 k57)))), (0, .ref y0), (1, .ref a0), (2, .int (nI 6)), (3, .int tk), (4, .int sum)]) hx hb dX0_layFrom_139 hl (k := 1) rfl (nI_1 _) (by decide) rfl (fun ls hl => ?_)
                refine lv_goto (tgt := 57) hx hb dX0_layFrom_142 (by decide) ?_
                exact ih_57 (k57 + 1) bs_10 g1_11 (upd g2_12 6 (-1)) (by omega) (fun j hj => if q : j = 6 then by rw [q, up_same]; exact (h_pm 6 (by omega) (by omega)).symm else (up_other q).trans ((f_14 j hj).trans ((up_other q).trans (hgb j hj)))) (by rw [gck_y (fun q => q.elim (fun r => f_7 ((h_us k57 (by omega)).mpr r)) (fun r => by rw [f_9] at r; cases r)), List.foldl_append]; exact f_13) (by omega) _ _ _ V (lv_sub hl [0, 2, 3, 4, 5, 6] rfl)
      exact L_4 _ 0 ys yb yt (by omega) (fun _ _ => rfl) h_st (Nat.lt_succ_self _) _ _ _ V (lv_sub hl [0, 1, 2, 3, 4, 5] rfl)
  · skip
    refine lv_iload hx hb dX0_layFrom_8 (lv_at hl 4 rfl) ?_
    refine lv_aload_n hx hb dX0_layFrom_10 rfl (lv_at hl 0 rfl) ?_
    refine g_get hC V (ci := 0) uwX0 0 rfl rfl 0 (by decide) w_211 rfl rfl dX0_layFrom_11 ?_
    refine lv_icmp_lt (tgt := 18) hx hb dX0_layFrom_14 (by decide) (fun c_15 => ?_) (fun c_15 => ?_)
    · skip
      refine lv_iload_n hx hb dX0_layFrom_18 rfl (lv_at hl 2 rfl) ?_
      refine lv_aload_n hx hb dX0_layFrom_19 rfl (lv_at hl 1 rfl) ?_
      refine g_get hC V (ci := 5) uwX5 3 rfl rfl 0 (by decide) w_35 rfl rfl dX0_layFrom_20 ?_
      refine lv_icmp_ge (tgt := 32) hx hb dX0_layFrom_23 (by decide) (fun c_16 => ?_) (fun c_16 => ?_)
      · skip
        have c_16 := b_le (by omega) (by omega) c_16
        refine lv_aload_n hx hb dX0_layFrom_32 rfl (lv_at hl 0 rfl) ?_
        refine lv_iload hx hb dX0_layFrom_33 (lv_at hl 4 rfl) ?_
        refine g_put hC V (ci := 0) uwX0 tyX0 tyX0_ok nmX0 0 rfl rfl 0 (by decide) w_211 rfl rfl rfl rfl (Nat.le_of_ble_eq_true rfl) (ws' := [(y0, .inr (0, [.int sum, .ref y1, .ref y2])), (y1, .inl (T 0, 7, .inl yb)), (y2, .inl (T 0, 7, .inl yt)), (a0, .inr (5, [.int (nI an), .int am, .int al, .int ao, .int au, .ref a1, .ref a2, .ref a3, .ref a4, .ref a5, .ref a6, .ref a7, .ref a8, .ref a9, .ref a10])), (a1, .inl (T 0, 10, .inl af1)), (a2, .inl (T 0, 10, .inl af2))]) rfl dX0_layFrom_35 (fun H locs V => ?_)
        refine lv_aload_n hx hb dX0_layFrom_38 rfl (lv_at hl 0 rfl) ?_
        refine g_get hC V (ci := 0) uwX0 0 rfl rfl 2 (by decide) w_215 rfl rfl dX0_layFrom_39 ?_
        refine lv_iconst (v := (nI 0)) hx hb dX0_layFrom_42 (by decide +kernel) ?_
        refine lv_aload_n hx hb dX0_layFrom_43 rfl (lv_at hl 0 rfl) ?_
        refine g_get hC V (ci := 0) uwX0 0 rfl rfl 1 (by decide) w_213 rfl rfl dX0_layFrom_44 ?_
        refine lv_iconst (v := (nI 0)) hx hb dX0_layFrom_47 (by decide +kernel) ?_
        refine lv_bipush (v := (nI 7)) hx hb dX0_layFrom_48 (by decide +kernel) ?_
        refine g_copyf hC V hl.1 w_808 w_672 w_671 w_17 2 1 rfl rfl (by decide +kernel) (by decide +kernel) (Nat.le_of_ble_eq_true rfl) (Nat.le_of_ble_eq_true rfl) (Nat.le_of_ble_eq_true rfl) dX0_layFrom_50 7 (by decide +kernel) (fun g_17 hcp H locs V => ?_)
        have V : gW D T A s [(y0, .inr (0, [.int sum, .ref y1, .ref y2])), (y1, .inl (T 0, 7, .inl g_17)), (y2, .inl (T 0, 7, .inl yt)), (a0, .inr (5, [.int (nI an), .int am, .int al, .int ao, .int au, .ref a1, .ref a2, .ref a3, .ref a4, .ref a5, .ref a6, .ref a7, .ref a8, .ref a9, .ref a10])), (a1, .inl (T 0, 10, .inl af1)), (a2, .inl (T 0, 10, .inl af2))] H locs := V
        exact g_vret (Qr := (q_y_layf6 T fa pp so_ y0 a0 tk sum ys y1 y2 yb yt an am al ao au a1 a2 a3 a4 a5 a6 a7 a8 a9 a10 af1 af2)) hC V ⟨(Nat.le_of_ble_eq_true rfl), (Nat.le_of_ble_eq_true rfl)⟩ ⟨sum, g_17, yt, rfl, rfl, (by rw [show an - 6 = 0 by omega]; exact rs_up h_st h_sum (by omega) (Or.inr c_15) (fun i hi => (hcp i (by omega)).trans (h_pp.2 i (by omega)).1)), (fun _ _ => rfl)⟩ dX0_layFrom_53
      · skip
        have c_16 := b_nle (by omega) (by omega) c_16
        refine lv_iload_n hx hb dX0_layFrom_26 rfl (lv_at hl 2 rfl) ?_
        refine lv_bipush (v := (nI 7)) hx hb dX0_layFrom_27 (by decide +kernel) ?_
        refine lv_icmp_lt (tgt := 54) hx hb dX0_layFrom_29 (by decide) (fun _ => ?_) (fun c => absurd (show (nI 6) < (nI 7) by first | rfl | decide +kernel) c)
        refine lv_iconst (v := (nI 0)) hx hb dX0_layFrom_54 (by decide +kernel) ?_
        refine lv_istore (lv' := [(5, .int (nI 0)), (0, .ref y0), (1, .ref a0), (2, .int (nI 6)), (3, .int tk), (4, .int sum)]) hx hb dX0_layFrom_55 hl (by decide) rfl (fun ls hl => ?_)
        have L_18 : ∀ (fu : Nat) (k57 : Nat) (bv : Int32) (ga : Nat → Int32) (gb : Nat → Int32), k57 ≤ an → (∀ j, j < 7 → gb j = yt j) → RST an fa ((gcK an (an - 7) pp k57).foldl (upC fa) so_) bv ga → an - k57 < fu → ∀ (H : Heap) (locs : List Loc) (ls : Array Slot), gW D T A s [(y0, .inr (0, [.int bv, .ref y1, .ref y2])), (y1, .inl (T 0, 7, .inl ga)), (y2, .inl (T 0, 7, .inl gb)), (a0, .inr (5, [.int (nI an), .int am, .int al, .int ao, .int au, .ref a1, .ref a2, .ref a3, .ref a4, .ref a5, .ref a6, .ref a7, .ref a8, .ref a9, .ref a10])), (a1, .inl (T 0, 10, .inl af1)), (a2, .inl (T 0, 10, .inl af2))] H locs → lv_has ls 7 [(5, .int (nI k57)), (0, .ref y0), (1, .ref a0), (2, .int (nI 6)), (3, .int tk), (4, .int sum)] → W p l e (rmD 3 0 0) s m args below meth c H locs 0 0 (MQ below (gQ D A (q_y_layf6 T fa pp so_ y0 a0 tk sum ys y1 y2 yb yt an am al ao au a1 a2 a3 a4 a5 a6 a7 a8 a9 a10 af1 af2)) args s 0 0 A) (F0 m 57 ls []) := by
          intro fu_57
          induction fu_57 with
          | zero => intro k57 bv ga gb hk57 hgb hR hmu; exact absurd hmu (Nat.not_lt_zero _)
          | succ fu_57 ih_57 =>
            intro k57 bv ga gb hk57 hgb hR hmu_57 H locs ls V hl
            refine lv_iload hx hb dX0_layFrom_57 (lv_at hl 0 rfl) ?_
            refine lv_aload_n hx hb dX0_layFrom_59 rfl (lv_at hl 2 rfl) ?_
            refine g_get hC V (ci := 5) uwX5 3 rfl rfl 0 (by decide) w_35 rfl rfl dX0_layFrom_60 ?_
            refine lv_icmp_ge (tgt := 145) hx hb dX0_layFrom_63 (by decide) (fun c_19 => ?_) (fun c_19 => ?_)
            · skip
              have c_19 := b_le (by omega) (by omega) c_19
              exact g_vret (Qr := (q_y_layf6 T fa pp so_ y0 a0 tk sum ys y1 y2 yb yt an am al ao au a1 a2 a3 a4 a5 a6 a7 a8 a9 a10 af1 af2)) hC V ⟨(Nat.le_of_ble_eq_true rfl), (Nat.le_of_ble_eq_true rfl)⟩ ⟨bv, ga, gb, rfl, rfl, (by rw [show an - 6 = (an - 7) + 1 by omega]; have q := hR; rw [show k57 = an by omega] at q; exact q), hgb⟩ dX0_layFrom_145
            · skip
              have c_19 := b_nle (by omega) (by omega) c_19
              refine lv_iload_n hx hb dX0_layFrom_66 rfl (lv_at hl 4 rfl) ?_
              refine lv_iload hx hb dX0_layFrom_67 (lv_at hl 0 rfl) ?_
              refine g_callSNU (nA := 2) (host := RX7) hC V hl.1 (c_isIn_f l D T tk k57) w_472 (List.mem_of_getElem? (i := 7) rfl) w_2 w_471 (by decide +kernel) rfl ⟨(Nat.le_of_ble_eq_true rfl), (Nat.le_of_ble_eq_true rfl)⟩ [] rfl rfl (Nat.le_of_ble_eq_true rfl) dX0_layFrom_69 ⟨(Nat.le_of_ble_eq_true rfl), (Nat.le_of_ble_eq_true rfl)⟩ rfl (fun r w1 H locs hQ V => ?_)
              rcases hQ with ⟨rfl, rfl, f_20⟩ | ⟨rfl, rfl, f_21⟩
              · have V : gW D T A s [(y0, .inr (0, [.int bv, .ref y1, .ref y2])), (y1, .inl (T 0, 7, .inl ga)), (y2, .inl (T 0, 7, .inl gb)), (a0, .inr (5, [.int (nI an), .int am, .int al, .int ao, .int au, .ref a1, .ref a2, .ref a3, .ref a4, .ref a5, .ref a6, .ref a7, .ref a8, .ref a9, .ref a10])), (a1, .inl (T 0, 10, .inl af1)), (a2, .inl (T 0, 10, .inl af2))] H locs := V _ [] rfl rfl rfl (by decide +kernel) rfl
                show W p l e _ s m args below meth c H locs _ _ _ (F0 m 72 ls [.int (nI 1)])
                refine lv_if_ne (tgt := 139) hx hb dX0_layFrom_72 (by decide) (fun _ => ?_) (fun c => absurd (show (nI 1) = 0 from c) (by decide +kernel))
                refine lv_iinc (v := (nI (k57 + 1))) (lv' := [(5, .int (nI (k57 + 1))), (0, .ref y0), (1, .ref a0), (2, .int (nI 6)), (3, .int tk), (4, .int sum)]) hx hb dX0_layFrom_139 hl (k := 0) rfl (nI_1 _) (by decide) rfl (fun ls hl => ?_)
                refine lv_goto (tgt := 57) hx hb dX0_layFrom_142 (by decide) ?_
                exact ih_57 (k57 + 1) bv ga gb (by omega) hgb (by rw [gck_n (Or.inl ((h_us k57 (by omega)).mp f_20))]; exact hR) (by omega) _ _ _ V (lv_sub hl [0, 1, 2, 3, 4, 5] rfl)
              · have V : gW D T A s [(y0, .inr (0, [.int bv, .ref y1, .ref y2])), (y1, .inl (T 0, 7, .inl ga)), (y2, .inl (T 0, 7, .inl gb)), (a0, .inr (5, [.int (nI an), .int am, .int al, .int ao, .int au, .ref a1, .ref a2, .ref a3, .ref a4, .ref a5, .ref a6, .ref a7, .ref a8, .ref a9, .ref a10])), (a1, .inl (T 0, 10, .inl af1)), (a2, .inl (T 0, 10, .inl af2))] H locs := V _ [] rfl rfl rfl (by decide +kernel) rfl
                show W p l e _ s m args below meth c H locs _ _ _ (F0 m 72 ls [.int (nI 0)])
                refine lv_if_ne (tgt := 139) hx hb dX0_layFrom_72 (by decide) (fun c => absurd (show (nI 0) = 0 by decide +kernel) c) (fun _ => ?_)
                refine lv_aload_n hx hb dX0_layFrom_75 rfl (lv_at hl 1 rfl) ?_
                refine lv_aload_n hx hb dX0_layFrom_76 rfl (lv_at hl 2 rfl) ?_
                refine lv_iload_n hx hb dX0_layFrom_77 rfl (lv_at hl 3 rfl) ?_
                refine lv_iload hx hb dX0_layFrom_78 (lv_at hl 0 rfl) ?_
                refine g_callVU (nA := 3) hC V hl.1 (y_closes_f l D T pp y0 a0 6 k57 bv y1 y2 gb an am al ao au a1 a2 a3 a4 a5 a6 a7 a8 a9 a10 (by first | assumption | omega) (pf_e h_pp (fun j hj => hgb j (by omega))) (fun j h1 h2 => (hgb j h2).trans (h_pm j h1 h2)) (by omega) (by omega)) w_810 w_812 w_s32 w_7 w_813 (by decide +kernel) rfl ⟨(Nat.le_of_ble_eq_true rfl), (Nat.le_of_ble_eq_true rfl)⟩ 0 (ci := 0) rfl rfl [0, 2, 3] rfl rfl (Nat.le_of_ble_eq_true rfl) dX0_layFrom_80 ⟨(Nat.le_of_ble_eq_true rfl), (Nat.le_of_ble_eq_true rfl)⟩ rfl (fun r w1 H locs hQ V => ?_)
                rcases hQ with ⟨rfl, rfl, f_22⟩ | ⟨rfl, rfl, f_23⟩
                · have V : gW D T A s [(y0, .inr (0, [.int bv, .ref y1, .ref y2])), (y1, .inl (T 0, 7, .inl ga)), (y2, .inl (T 0, 7, .inl gb)), (a0, .inr (5, [.int (nI an), .int am, .int al, .int ao, .int au, .ref a1, .ref a2, .ref a3, .ref a4, .ref a5, .ref a6, .ref a7, .ref a8, .ref a9, .ref a10])), (a1, .inl (T 0, 10, .inl af1)), (a2, .inl (T 0, 10, .inl af2))] H locs := V _ [0, 1, 0] rfl rfl rfl (by decide +kernel) rfl
                  show W p l e _ s m args below meth c H locs _ _ _ (F0 m 83 ls [.int (nI 1)])
                  refine lv_if_ne (tgt := 139) hx hb dX0_layFrom_83 (by decide) (fun _ => ?_) (fun c => absurd (show (nI 1) = 0 from c) (by decide +kernel))
                  refine lv_iinc (v := (nI (k57 + 1))) (lv' := [(5, .int (nI (k57 + 1))), (0, .ref y0), (1, .ref a0), (2, .int (nI 6)), (3, .int tk), (4, .int sum)]) hx hb dX0_layFrom_139 hl (k := 0) rfl (nI_1 _) (by decide) rfl (fun ls hl => ?_)
                  refine lv_goto (tgt := 57) hx hb dX0_layFrom_142 (by decide) ?_
                  exact ih_57 (k57 + 1) bv ga gb (by omega) hgb (by rw [gck_n (Or.inr f_22)]; exact hR) (by omega) _ _ _ V (lv_sub hl [0, 1, 2, 3, 4, 5] rfl)
                · have V : gW D T A s [(y0, .inr (0, [.int bv, .ref y1, .ref y2])), (y1, .inl (T 0, 7, .inl ga)), (y2, .inl (T 0, 7, .inl gb)), (a0, .inr (5, [.int (nI an), .int am, .int al, .int ao, .int au, .ref a1, .ref a2, .ref a3, .ref a4, .ref a5, .ref a6, .ref a7, .ref a8, .ref a9, .ref a10])), (a1, .inl (T 0, 10, .inl af1)), (a2, .inl (T 0, 10, .inl af2))] H locs := V _ [0, 1, 0] rfl rfl rfl (by decide +kernel) rfl
                  show W p l e _ s m args below meth c H locs _ _ _ (F0 m 83 ls [.int (nI 0)])
                  refine lv_if_ne (tgt := 139) hx hb dX0_layFrom_83 (by decide) (fun c => absurd (show (nI 0) = 0 by decide +kernel) c) (fun _ => ?_)
                  refine lv_aload_n hx hb dX0_layFrom_86 rfl (lv_at hl 1 rfl) ?_
                  refine g_get hC V (ci := 0) uwX0 0 rfl rfl 2 (by decide) w_215 rfl rfl dX0_layFrom_87 ?_
                  refine lv_iload_n hx hb dX0_layFrom_90 rfl (lv_at hl 3 rfl) ?_
                  refine lv_iload hx hb dX0_layFrom_91 (lv_at hl 0 rfl) ?_
                  refine g_iast hC V 2 rfl (vp_in_nI (by decide) (by decide)) (f' := (upd gb 6 (nI k57))) (by rw [nI_clamp (by decide)]) (ws' := [(y0, .inr (0, [.int bv, .ref y1, .ref y2])), (y1, .inl (T 0, 7, .inl ga)), (y2, .inl (T 0, 7, .inl (upd gb 6 (nI k57)))), (a0, .inr (5, [.int (nI an), .int am, .int al, .int ao, .int au, .ref a1, .ref a2, .ref a3, .ref a4, .ref a5, .ref a6, .ref a7, .ref a8, .ref a9, .ref a10])), (a1, .inl (T 0, 10, .inl af1)), (a2, .inl (T 0, 10, .inl af2))]) rfl dX0_layFrom_93 (fun H locs V => ?_)
                  refine lv_aload_n hx hb dX0_layFrom_94 rfl (lv_at hl 2 rfl) ?_
                  refine g_get hC V (ci := 5) uwX5 3 rfl rfl 5 (by decide) w_52 rfl rfl dX0_layFrom_95 ?_
                  refine lv_iload_n hx hb dX0_layFrom_98 rfl (lv_at hl 3 rfl) ?_
                  refine g_iald hC V 4 rfl (vp_in_nI (by decide) (by decide)) (v := (af1 6)) (congrArg _ (nI_clamp (by decide))) dX0_layFrom_99 ?_
                  refine lv_aload_n hx hb dX0_layFrom_100 rfl (lv_at hl 2 rfl) ?_
                  refine g_get hC V (ci := 5) uwX5 3 rfl rfl 6 (by decide) w_58 rfl rfl dX0_layFrom_101 ?_
                  refine lv_iload hx hb dX0_layFrom_104 (lv_at hl 0 rfl) ?_
                  refine g_iald hC V 5 rfl (vp_in_nI (by omega) (by omega)) (v := (af2 k57)) (congrArg _ (nI_clamp (by omega))) dX0_layFrom_106 ?_
                  refine lv_isub hx hb dX0_layFrom_107 ?_
                  refine va_mabs hx hb (hml.trans hl.1.symm) hown (hts _ w_814) (hts _ w_815) (hts _ w_10) (hts _ w_816) (Nat.le_of_ble_eq_true rfl) (Nat.le_of_ble_eq_true rfl) (Nat.le_of_ble_eq_true rfl) (Nat.le_of_ble_eq_true rfl) dX0_layFrom_108 ?_
                  refine lv_istore (lv' := [(6, .int (if 0 ≤ ((af1 6) - (af2 k57)) then ((af1 6) - (af2 k57)) else 0 - ((af1 6) - (af2 k57)))), (5, .int (nI k57)), (0, .ref y0), (1, .ref a0), (2, .int (nI 6)), (3, .int tk), (4, .int sum)]) hx hb dX0_layFrom_111 hl (by decide) rfl (fun ls hl => ?_)
                  refine lv_aload_n hx hb dX0_layFrom_113 rfl (lv_at hl 2 rfl) ?_
                  refine lv_aload_n hx hb dX0_layFrom_114 rfl (lv_at hl 3 rfl) ?_
                  refine lv_iload_n hx hb dX0_layFrom_115 rfl (lv_at hl 4 rfl) ?_
                  refine lv_iconst (v := (nI 1)) hx hb dX0_layFrom_116 (by decide +kernel) ?_
                  refine lv_iadd hx hb dX0_layFrom_117 ?_
                  refine g_vi (y := (nI 7)) (by decide +kernel) ?_
                  refine lv_iload_n hx hb dX0_layFrom_118 rfl (lv_at hl 5 rfl) ?_
                  refine lv_iconst (v := (nI 1)) hx hb dX0_layFrom_119 (by decide +kernel) ?_
                  refine lv_iload hx hb dX0_layFrom_120 (lv_at hl 1 rfl) ?_
                  refine lv_ishl hx hb dX0_layFrom_122 ?_
                  refine lv_ior hx hb dX0_layFrom_123 ?_
                  refine lv_iload hx hb dX0_layFrom_124 (lv_at hl 6 rfl) ?_
                  refine lv_iload hx hb dX0_layFrom_126 (lv_at hl 0 rfl) ?_
                  refine lv_iadd hx hb dX0_layFrom_128 ?_
                  refine g_callV (wr := []) (nA := 4) hC V hl.1 (y_layf7 l D T fa (pp ++ [k57]) ((gcK an (an - 7) pp k57).foldl (upC fa) so_) y0 a0 (tk ||| ((nI 1) <<< ((nI k57) &&& 31))) (sum + (if 0 ≤ ((af1 6) - (af2 k57)) then ((af1 6) - (af2 k57)) else 0 - ((af1 6) - (af2 k57)))) bv y1 y2 ga (upd gb 6 (nI k57)) an am al ao au a1 a2 a3 a4 a5 a6 a7 a8 a9 a10 af1 af2 (by first | assumption | omega) (pf_s (pf_e h_pp (fun j hj => hgb j (by omega))) (by omega)) (fun j h1 h2 => (up_other (by omega)).trans ((hgb j h2).trans (h_pm j (by omega) h2))) (us_s h_us (by omega)) (sqz_s h_a (by omega) (by omega) h_sum h_pp.1 (of_c (n := an) (h_s1 6 (by omega)) (h_s2 k57 (by omega)) rfl)) (sqz_b h_a (by omega) (by omega) h_sb h_pp.1) hR (by omega) (by first | assumption | omega) (by first | assumption | omega) (by first | assumption | omega)) w_804 w_806 w_s31 w_7 w_807 (by decide +kernel) rfl ⟨(Nat.le_of_ble_eq_true rfl), (Nat.le_of_ble_eq_true rfl)⟩ 0 (ci := 0) rfl rfl [0, 1, 2, 3, 4, 5] [] rfl rfl rfl rfl (by decide) (Nat.le_of_ble_eq_true rfl) dX0_layFrom_129 ⟨(Nat.le_of_ble_eq_true rfl), (Nat.le_of_ble_eq_true rfl)⟩ rfl (fun r w1 H locs hQ V => ?_)
                  obtain ⟨bs_24, g1_25, g2_26, rfl, rfl, f_27, f_28⟩ := hQ
                  have V : gW D T A s [(y0, .inr (0, [.int bs_24, .ref y1, .ref y2])), (y1, .inl (T 0, 7, .inl g1_25)), (y2, .inl (T 0, 7, .inl g2_26)), (a0, .inr (5, [.int (nI an), .int am, .int al, .int ao, .int au, .ref a1, .ref a2, .ref a3, .ref a4, .ref a5, .ref a6, .ref a7, .ref a8, .ref a9, .ref a10])), (a1, .inl (T 0, 10, .inl af1)), (a2, .inl (T 0, 10, .inl af2))] H locs := V
                  show W p l e _ s m args below meth c H locs _ _ _ (F0 m 132 ls [])
                  refine lv_aload_n hx hb dX0_layFrom_132 rfl (lv_at hl 2 rfl) ?_
                  refine g_get hC V (ci := 0) uwX0 0 rfl rfl 2 (by decide) w_215 rfl rfl dX0_layFrom_133 ?_
                  refine lv_iload_n hx hb dX0_layFrom_136 rfl (lv_at hl 4 rfl) ?_
                  refine lv_iconst (v := (-1)) hx hb dX0_layFrom_137 (by decide +kernel) ?_
                  refine g_iast hC V 2 rfl (vp_in_nI (by decide) (by decide)) (f' := (upd g2_26 6 (-1))) (by rw [nI_clamp (by decide)]) (ws' := [(y0, .inr (0, [.int bs_24, .ref y1, .ref y2])), (y1, .inl (T 0, 7, .inl g1_25)), (y2, .inl (T 0, 7, .inl (upd g2_26 6 (-1)))), (a0, .inr (5, [.int (nI an), .int am, .int al, .int ao, .int au, .ref a1, .ref a2, .ref a3, .ref a4, .ref a5, .ref a6, .ref a7, .ref a8, .ref a9, .ref a10])), (a1, .inl (T 0, 10, .inl af1)), (a2, .inl (T 0, 10, .inl af2))]) rfl dX0_layFrom_138 (fun H locs V => ?_)
                  refine lv_iinc (v := (nI (k57 + 1))) (lv' := [(5, .int (nI (k57 + 1))), (6, .int (if 0 ≤ ((af1 6) - (af2 k57)) then ((af1 6) - (af2 k57)) else 0 - ((af1 6) - (af2 k57)))), (0, .ref y0), (1, .ref a0), (2, .int (nI 6)), (3, .int tk), (4, .int sum)]) hx hb dX0_layFrom_139 hl (k := 1) rfl (nI_1 _) (by decide) rfl (fun ls hl => ?_)
                  refine lv_goto (tgt := 57) hx hb dX0_layFrom_142 (by decide) ?_
                  exact ih_57 (k57 + 1) bs_24 g1_25 (upd g2_26 6 (-1)) (by omega) (fun j hj => if q : j = 6 then by rw [q, up_same]; exact (h_pm 6 (by omega) (by omega)).symm else (up_other q).trans ((f_28 j hj).trans ((up_other q).trans (hgb j hj)))) (by rw [gck_y (fun q => q.elim (fun r => f_21 ((h_us k57 (by omega)).mpr r)) (fun r => by rw [f_23] at r; cases r)), List.foldl_append]; exact f_27) (by omega) _ _ _ V (lv_sub hl [0, 2, 3, 4, 5, 6] rfl)
        exact L_18 _ 0 ys yb yt (by omega) (fun _ _ => rfl) h_st (Nat.lt_succ_self _) _ _ _ V (lv_sub hl [0, 1, 2, 3, 4, 5] rfl)
    · skip
      exact g_vret (Qr := (q_y_layf6 T fa pp so_ y0 a0 tk sum ys y1 y2 yb yt an am al ao au a1 a2 a3 a4 a5 a6 a7 a8 a9 a10 af1 af2)) hC V ⟨(Nat.le_of_ble_eq_true rfl), (Nat.le_of_ble_eq_true rfl)⟩ ⟨ys, yb, yt, rfl, rfl, (rs_pr h_st c_1 h_sum (by omega) c_15), (fun _ _ => rfl)⟩ dX0_layFrom_17

def q_y_layf5 (T : Nat → ClassId) (fa : Nat → Int32) (pp : List Nat) (so_ : Option (List Nat)) (y0 : Nat) (a0 : Nat) (tk : Int32) (sum : Int32) (ys : Int32) (y1 : Nat) (y2 : Nat) (yb : Nat → Int32) (yt : Nat → Int32) (an : Nat) (am : Int32) (al : Int32) (ao : Int32) (au : Int32) (a1 : Nat) (a2 : Nat) (a3 : Nat) (a4 : Nat) (a5 : Nat) (a6 : Nat) (a7 : Nat) (a8 : Nat) (a9 : Nat) (a10 : Nat) (af1 : Nat → Int32) (af2 : Nat → Int32) : Option Value → va_W → Prop := fun rr ww => (∃ (bs : Int32) (g1 : Nat → Int32) (g2 : Nat → Int32), rr = none ∧ ww = [(y0, .inr (0, [.int bs, .ref y1, .ref y2])), (y1, .inl (T 0, 7, .inl g1)), (y2, .inl (T 0, 7, .inl g2)), (a0, .inr (5, [.int (nI an), .int am, .int al, .int ao, .int au, .ref a1, .ref a2, .ref a3, .ref a4, .ref a5, .ref a6, .ref a7, .ref a8, .ref a9, .ref a10])), (a1, .inl (T 0, 10, .inl af1)), (a2, .inl (T 0, 10, .inl af2))] ∧ RST an fa ((gC an (an - 5) pp).foldl (upC fa) so_) bs g1 ∧ (∀ j, j < 7 → g2 j = yt j))
set_option maxHeartbeats 4000000 in
set_option maxRecDepth 100000 in
theorem y_layf5 (l : Launch) (D : va_G) (T : Nat → ClassId) (fa : Nat → Int32) (pp : List Nat) (so_ : Option (List Nat)) (y0 : Nat) (a0 : Nat) (tk : Int32) (sum : Int32) (ys : Int32) (y1 : Nat) (y2 : Nat) (yb : Nat → Int32) (yt : Nat → Int32) (an : Nat) (am : Int32) (al : Int32) (ao : Int32) (au : Int32) (a1 : Nat) (a2 : Nat) (a3 : Nat) (a4 : Nat) (a5 : Nat) (a6 : Nat) (a7 : Nat) (a8 : Nat) (a9 : Nat) (a10 : Nat) (af1 : Nat → Int32) (af2 : Nat → Int32) (h_n : an ≤ 7) (h_pp : PFX an pp 5 yt) (h_pm : ∀ j, 5 ≤ j → j < 7 → yt j = -1) (h_us : USE pp tk) (h_sum : sum = nI (smL fa 0 pp)) (h_sb : smL fa 0 pp ≤ 60 * 5) (h_st : RST an fa so_ ys yb) (h_kn : 5 ≤ an) (h_a : MI an fa) (h_s1 : ∀ i, i < an → af1 i = fa (4 + i)) (h_s2 : ∀ i, i < an → af2 i = fa (14 + i)) : Ct l yX0_layFrom cX0_layFrom 7 none 4 0 0 D T [.ref y0, .ref a0, .int (nI 5), .int tk, .int sum] [(y0, .inr (0, [.int ys, .ref y1, .ref y2])), (y1, .inl (T 0, 7, .inl yb)), (y2, .inl (T 0, 7, .inl yt)), (a0, .inr (5, [.int (nI an), .int am, .int al, .int ao, .int au, .ref a1, .ref a2, .ref a3, .ref a4, .ref a5, .ref a6, .ref a7, .ref a8, .ref a9, .ref a10])), (a1, .inl (T 0, 10, .inl af1)), (a2, .inl (T 0, 10, .inl af2))] (q_y_layf5 T fa pp so_ y0 a0 tk sum ys y1 y2 yb yt an am al ao au a1 a2 a3 a4 a5 a6 a7 a8 a9 a10 af1 af2) := by
  refine Ct.of (cc := cX0_layFrom) (maxL := 7) (ret := none) (by decide) (Nat.le_of_ble_eq_true rfl) ?_
  intro p e s m args below meth c A ls hC hnm V hl
  obtain ⟨hx, hb, hr, hml, hown, hts, hlocks⟩ := id hC
  generalize hH : s.heap = H at V ⊢
  clear hH
  have hl : lv_has ls 7 [(0, .ref y0), (1, .ref a0), (2, .int (nI 5)), (3, .int tk), (4, .int sum)] := hl
  generalize hlo : ([] : List Loc) = locs at V ⊢
  clear hlo
  refine lv_aload_n hx hb dX0_layFrom_0 rfl (lv_at hl 0 rfl) ?_
  refine g_get hC V (ci := 0) uwX0 0 rfl rfl 0 (by decide) w_211 rfl rfl dX0_layFrom_1 ?_
  refine lv_iconst (v := (-1)) hx hb dX0_layFrom_4 (by decide +kernel) ?_
  refine lv_icmp_eq (tgt := 18) hx hb dX0_layFrom_5 (by decide) (fun c_1 => ?_) (fun c_1 => ?_)
  · skip
    refine lv_iload_n hx hb dX0_layFrom_18 rfl (lv_at hl 2 rfl) ?_
    refine lv_aload_n hx hb dX0_layFrom_19 rfl (lv_at hl 1 rfl) ?_
    refine g_get hC V (ci := 5) uwX5 3 rfl rfl 0 (by decide) w_35 rfl rfl dX0_layFrom_20 ?_
    refine lv_icmp_ge (tgt := 32) hx hb dX0_layFrom_23 (by decide) (fun c_2 => ?_) (fun c_2 => ?_)
    · skip
      have c_2 := b_le (by omega) (by omega) c_2
      refine lv_aload_n hx hb dX0_layFrom_32 rfl (lv_at hl 0 rfl) ?_
      refine lv_iload hx hb dX0_layFrom_33 (lv_at hl 4 rfl) ?_
      refine g_put hC V (ci := 0) uwX0 tyX0 tyX0_ok nmX0 0 rfl rfl 0 (by decide) w_211 rfl rfl rfl rfl (Nat.le_of_ble_eq_true rfl) (ws' := [(y0, .inr (0, [.int sum, .ref y1, .ref y2])), (y1, .inl (T 0, 7, .inl yb)), (y2, .inl (T 0, 7, .inl yt)), (a0, .inr (5, [.int (nI an), .int am, .int al, .int ao, .int au, .ref a1, .ref a2, .ref a3, .ref a4, .ref a5, .ref a6, .ref a7, .ref a8, .ref a9, .ref a10])), (a1, .inl (T 0, 10, .inl af1)), (a2, .inl (T 0, 10, .inl af2))]) rfl dX0_layFrom_35 (fun H locs V => ?_)
      refine lv_aload_n hx hb dX0_layFrom_38 rfl (lv_at hl 0 rfl) ?_
      refine g_get hC V (ci := 0) uwX0 0 rfl rfl 2 (by decide) w_215 rfl rfl dX0_layFrom_39 ?_
      refine lv_iconst (v := (nI 0)) hx hb dX0_layFrom_42 (by decide +kernel) ?_
      refine lv_aload_n hx hb dX0_layFrom_43 rfl (lv_at hl 0 rfl) ?_
      refine g_get hC V (ci := 0) uwX0 0 rfl rfl 1 (by decide) w_213 rfl rfl dX0_layFrom_44 ?_
      refine lv_iconst (v := (nI 0)) hx hb dX0_layFrom_47 (by decide +kernel) ?_
      refine lv_bipush (v := (nI 7)) hx hb dX0_layFrom_48 (by decide +kernel) ?_
      refine g_copyf hC V hl.1 w_808 w_672 w_671 w_17 2 1 rfl rfl (by decide +kernel) (by decide +kernel) (Nat.le_of_ble_eq_true rfl) (Nat.le_of_ble_eq_true rfl) (Nat.le_of_ble_eq_true rfl) dX0_layFrom_50 7 (by decide +kernel) (fun g_3 hcp H locs V => ?_)
      have V : gW D T A s [(y0, .inr (0, [.int sum, .ref y1, .ref y2])), (y1, .inl (T 0, 7, .inl g_3)), (y2, .inl (T 0, 7, .inl yt)), (a0, .inr (5, [.int (nI an), .int am, .int al, .int ao, .int au, .ref a1, .ref a2, .ref a3, .ref a4, .ref a5, .ref a6, .ref a7, .ref a8, .ref a9, .ref a10])), (a1, .inl (T 0, 10, .inl af1)), (a2, .inl (T 0, 10, .inl af2))] H locs := V
      exact g_vret (Qr := (q_y_layf5 T fa pp so_ y0 a0 tk sum ys y1 y2 yb yt an am al ao au a1 a2 a3 a4 a5 a6 a7 a8 a9 a10 af1 af2)) hC V ⟨(Nat.le_of_ble_eq_true rfl), (Nat.le_of_ble_eq_true rfl)⟩ ⟨sum, g_3, yt, rfl, rfl, (by rw [show an - 5 = 0 by omega]; exact rs_up h_st h_sum (by omega) (Or.inl c_1) (fun i hi => (hcp i (by omega)).trans (h_pp.2 i (by omega)).1)), (fun _ _ => rfl)⟩ dX0_layFrom_53
    · skip
      have c_2 := b_nle (by omega) (by omega) c_2
      refine lv_iload_n hx hb dX0_layFrom_26 rfl (lv_at hl 2 rfl) ?_
      refine lv_bipush (v := (nI 7)) hx hb dX0_layFrom_27 (by decide +kernel) ?_
      refine lv_icmp_lt (tgt := 54) hx hb dX0_layFrom_29 (by decide) (fun _ => ?_) (fun c => absurd (show (nI 5) < (nI 7) by first | rfl | decide +kernel) c)
      refine lv_iconst (v := (nI 0)) hx hb dX0_layFrom_54 (by decide +kernel) ?_
      refine lv_istore (lv' := [(5, .int (nI 0)), (0, .ref y0), (1, .ref a0), (2, .int (nI 5)), (3, .int tk), (4, .int sum)]) hx hb dX0_layFrom_55 hl (by decide) rfl (fun ls hl => ?_)
      have L_4 : ∀ (fu : Nat) (k57 : Nat) (bv : Int32) (ga : Nat → Int32) (gb : Nat → Int32), k57 ≤ an → (∀ j, j < 7 → gb j = yt j) → RST an fa ((gcK an (an - 6) pp k57).foldl (upC fa) so_) bv ga → an - k57 < fu → ∀ (H : Heap) (locs : List Loc) (ls : Array Slot), gW D T A s [(y0, .inr (0, [.int bv, .ref y1, .ref y2])), (y1, .inl (T 0, 7, .inl ga)), (y2, .inl (T 0, 7, .inl gb)), (a0, .inr (5, [.int (nI an), .int am, .int al, .int ao, .int au, .ref a1, .ref a2, .ref a3, .ref a4, .ref a5, .ref a6, .ref a7, .ref a8, .ref a9, .ref a10])), (a1, .inl (T 0, 10, .inl af1)), (a2, .inl (T 0, 10, .inl af2))] H locs → lv_has ls 7 [(5, .int (nI k57)), (0, .ref y0), (1, .ref a0), (2, .int (nI 5)), (3, .int tk), (4, .int sum)] → W p l e (rmD 4 0 0) s m args below meth c H locs 0 0 (MQ below (gQ D A (q_y_layf5 T fa pp so_ y0 a0 tk sum ys y1 y2 yb yt an am al ao au a1 a2 a3 a4 a5 a6 a7 a8 a9 a10 af1 af2)) args s 0 0 A) (F0 m 57 ls []) := by
        intro fu_57
        induction fu_57 with
        | zero => intro k57 bv ga gb hk57 hgb hR hmu; exact absurd hmu (Nat.not_lt_zero _)
        | succ fu_57 ih_57 =>
          intro k57 bv ga gb hk57 hgb hR hmu_57 H locs ls V hl
          refine lv_iload hx hb dX0_layFrom_57 (lv_at hl 0 rfl) ?_
          refine lv_aload_n hx hb dX0_layFrom_59 rfl (lv_at hl 2 rfl) ?_
          refine g_get hC V (ci := 5) uwX5 3 rfl rfl 0 (by decide) w_35 rfl rfl dX0_layFrom_60 ?_
          refine lv_icmp_ge (tgt := 145) hx hb dX0_layFrom_63 (by decide) (fun c_5 => ?_) (fun c_5 => ?_)
          · skip
            have c_5 := b_le (by omega) (by omega) c_5
            exact g_vret (Qr := (q_y_layf5 T fa pp so_ y0 a0 tk sum ys y1 y2 yb yt an am al ao au a1 a2 a3 a4 a5 a6 a7 a8 a9 a10 af1 af2)) hC V ⟨(Nat.le_of_ble_eq_true rfl), (Nat.le_of_ble_eq_true rfl)⟩ ⟨bv, ga, gb, rfl, rfl, (by rw [show an - 5 = (an - 6) + 1 by omega]; have q := hR; rw [show k57 = an by omega] at q; exact q), hgb⟩ dX0_layFrom_145
          · skip
            have c_5 := b_nle (by omega) (by omega) c_5
            refine lv_iload_n hx hb dX0_layFrom_66 rfl (lv_at hl 4 rfl) ?_
            refine lv_iload hx hb dX0_layFrom_67 (lv_at hl 0 rfl) ?_
            refine g_callSNU (nA := 2) (host := RX7) hC V hl.1 (c_isIn_f l D T tk k57) w_472 (List.mem_of_getElem? (i := 7) rfl) w_2 w_471 (by decide +kernel) rfl ⟨(Nat.le_of_ble_eq_true rfl), (Nat.le_of_ble_eq_true rfl)⟩ [] rfl rfl (Nat.le_of_ble_eq_true rfl) dX0_layFrom_69 ⟨(Nat.le_of_ble_eq_true rfl), (Nat.le_of_ble_eq_true rfl)⟩ rfl (fun r w1 H locs hQ V => ?_)
            rcases hQ with ⟨rfl, rfl, f_6⟩ | ⟨rfl, rfl, f_7⟩
            · have V : gW D T A s [(y0, .inr (0, [.int bv, .ref y1, .ref y2])), (y1, .inl (T 0, 7, .inl ga)), (y2, .inl (T 0, 7, .inl gb)), (a0, .inr (5, [.int (nI an), .int am, .int al, .int ao, .int au, .ref a1, .ref a2, .ref a3, .ref a4, .ref a5, .ref a6, .ref a7, .ref a8, .ref a9, .ref a10])), (a1, .inl (T 0, 10, .inl af1)), (a2, .inl (T 0, 10, .inl af2))] H locs := V _ [] rfl rfl rfl (by decide +kernel) rfl
              show W p l e _ s m args below meth c H locs _ _ _ (F0 m 72 ls [.int (nI 1)])
              refine lv_if_ne (tgt := 139) hx hb dX0_layFrom_72 (by decide) (fun _ => ?_) (fun c => absurd (show (nI 1) = 0 from c) (by decide +kernel))
              refine lv_iinc (v := (nI (k57 + 1))) (lv' := [(5, .int (nI (k57 + 1))), (0, .ref y0), (1, .ref a0), (2, .int (nI 5)), (3, .int tk), (4, .int sum)]) hx hb dX0_layFrom_139 hl (k := 0) rfl (nI_1 _) (by decide) rfl (fun ls hl => ?_)
              refine lv_goto (tgt := 57) hx hb dX0_layFrom_142 (by decide) ?_
              exact ih_57 (k57 + 1) bv ga gb (by omega) hgb (by rw [gck_n (Or.inl ((h_us k57 (by omega)).mp f_6))]; exact hR) (by omega) _ _ _ V (lv_sub hl [0, 1, 2, 3, 4, 5] rfl)
            · have V : gW D T A s [(y0, .inr (0, [.int bv, .ref y1, .ref y2])), (y1, .inl (T 0, 7, .inl ga)), (y2, .inl (T 0, 7, .inl gb)), (a0, .inr (5, [.int (nI an), .int am, .int al, .int ao, .int au, .ref a1, .ref a2, .ref a3, .ref a4, .ref a5, .ref a6, .ref a7, .ref a8, .ref a9, .ref a10])), (a1, .inl (T 0, 10, .inl af1)), (a2, .inl (T 0, 10, .inl af2))] H locs := V _ [] rfl rfl rfl (by decide +kernel) rfl
              show W p l e _ s m args below meth c H locs _ _ _ (F0 m 72 ls [.int (nI 0)])
              refine lv_if_ne (tgt := 139) hx hb dX0_layFrom_72 (by decide) (fun c => absurd (show (nI 0) = 0 by decide +kernel) c) (fun _ => ?_)
              refine lv_aload_n hx hb dX0_layFrom_75 rfl (lv_at hl 1 rfl) ?_
              refine lv_aload_n hx hb dX0_layFrom_76 rfl (lv_at hl 2 rfl) ?_
              refine lv_iload_n hx hb dX0_layFrom_77 rfl (lv_at hl 3 rfl) ?_
              refine lv_iload hx hb dX0_layFrom_78 (lv_at hl 0 rfl) ?_
              refine g_callVU (nA := 3) hC V hl.1 (y_closes_f l D T pp y0 a0 5 k57 bv y1 y2 gb an am al ao au a1 a2 a3 a4 a5 a6 a7 a8 a9 a10 (by first | assumption | omega) (pf_e h_pp (fun j hj => hgb j (by omega))) (fun j h1 h2 => (hgb j h2).trans (h_pm j h1 h2)) (by omega) (by omega)) w_810 w_812 w_s32 w_7 w_813 (by decide +kernel) rfl ⟨(Nat.le_of_ble_eq_true rfl), (Nat.le_of_ble_eq_true rfl)⟩ 0 (ci := 0) rfl rfl [0, 2, 3] rfl rfl (Nat.le_of_ble_eq_true rfl) dX0_layFrom_80 ⟨(Nat.le_of_ble_eq_true rfl), (Nat.le_of_ble_eq_true rfl)⟩ rfl (fun r w1 H locs hQ V => ?_)
              rcases hQ with ⟨rfl, rfl, f_8⟩ | ⟨rfl, rfl, f_9⟩
              · have V : gW D T A s [(y0, .inr (0, [.int bv, .ref y1, .ref y2])), (y1, .inl (T 0, 7, .inl ga)), (y2, .inl (T 0, 7, .inl gb)), (a0, .inr (5, [.int (nI an), .int am, .int al, .int ao, .int au, .ref a1, .ref a2, .ref a3, .ref a4, .ref a5, .ref a6, .ref a7, .ref a8, .ref a9, .ref a10])), (a1, .inl (T 0, 10, .inl af1)), (a2, .inl (T 0, 10, .inl af2))] H locs := V _ [0, 1, 0] rfl rfl rfl (by decide +kernel) rfl
                show W p l e _ s m args below meth c H locs _ _ _ (F0 m 83 ls [.int (nI 1)])
                refine lv_if_ne (tgt := 139) hx hb dX0_layFrom_83 (by decide) (fun _ => ?_) (fun c => absurd (show (nI 1) = 0 from c) (by decide +kernel))
                refine lv_iinc (v := (nI (k57 + 1))) (lv' := [(5, .int (nI (k57 + 1))), (0, .ref y0), (1, .ref a0), (2, .int (nI 5)), (3, .int tk), (4, .int sum)]) hx hb dX0_layFrom_139 hl (k := 0) rfl (nI_1 _) (by decide) rfl (fun ls hl => ?_)
                refine lv_goto (tgt := 57) hx hb dX0_layFrom_142 (by decide) ?_
                exact ih_57 (k57 + 1) bv ga gb (by omega) hgb (by rw [gck_n (Or.inr f_8)]; exact hR) (by omega) _ _ _ V (lv_sub hl [0, 1, 2, 3, 4, 5] rfl)
              · have V : gW D T A s [(y0, .inr (0, [.int bv, .ref y1, .ref y2])), (y1, .inl (T 0, 7, .inl ga)), (y2, .inl (T 0, 7, .inl gb)), (a0, .inr (5, [.int (nI an), .int am, .int al, .int ao, .int au, .ref a1, .ref a2, .ref a3, .ref a4, .ref a5, .ref a6, .ref a7, .ref a8, .ref a9, .ref a10])), (a1, .inl (T 0, 10, .inl af1)), (a2, .inl (T 0, 10, .inl af2))] H locs := V _ [0, 1, 0] rfl rfl rfl (by decide +kernel) rfl
                show W p l e _ s m args below meth c H locs _ _ _ (F0 m 83 ls [.int (nI 0)])
                refine lv_if_ne (tgt := 139) hx hb dX0_layFrom_83 (by decide) (fun c => absurd (show (nI 0) = 0 by decide +kernel) c) (fun _ => ?_)
                refine lv_aload_n hx hb dX0_layFrom_86 rfl (lv_at hl 1 rfl) ?_
                refine g_get hC V (ci := 0) uwX0 0 rfl rfl 2 (by decide) w_215 rfl rfl dX0_layFrom_87 ?_
                refine lv_iload_n hx hb dX0_layFrom_90 rfl (lv_at hl 3 rfl) ?_
                refine lv_iload hx hb dX0_layFrom_91 (lv_at hl 0 rfl) ?_
                refine g_iast hC V 2 rfl (vp_in_nI (by decide) (by decide)) (f' := (upd gb 5 (nI k57))) (by rw [nI_clamp (by decide)]) (ws' := [(y0, .inr (0, [.int bv, .ref y1, .ref y2])), (y1, .inl (T 0, 7, .inl ga)), (y2, .inl (T 0, 7, .inl (upd gb 5 (nI k57)))), (a0, .inr (5, [.int (nI an), .int am, .int al, .int ao, .int au, .ref a1, .ref a2, .ref a3, .ref a4, .ref a5, .ref a6, .ref a7, .ref a8, .ref a9, .ref a10])), (a1, .inl (T 0, 10, .inl af1)), (a2, .inl (T 0, 10, .inl af2))]) rfl dX0_layFrom_93 (fun H locs V => ?_)
                refine lv_aload_n hx hb dX0_layFrom_94 rfl (lv_at hl 2 rfl) ?_
                refine g_get hC V (ci := 5) uwX5 3 rfl rfl 5 (by decide) w_52 rfl rfl dX0_layFrom_95 ?_
                refine lv_iload_n hx hb dX0_layFrom_98 rfl (lv_at hl 3 rfl) ?_
                refine g_iald hC V 4 rfl (vp_in_nI (by decide) (by decide)) (v := (af1 5)) (congrArg _ (nI_clamp (by decide))) dX0_layFrom_99 ?_
                refine lv_aload_n hx hb dX0_layFrom_100 rfl (lv_at hl 2 rfl) ?_
                refine g_get hC V (ci := 5) uwX5 3 rfl rfl 6 (by decide) w_58 rfl rfl dX0_layFrom_101 ?_
                refine lv_iload hx hb dX0_layFrom_104 (lv_at hl 0 rfl) ?_
                refine g_iald hC V 5 rfl (vp_in_nI (by omega) (by omega)) (v := (af2 k57)) (congrArg _ (nI_clamp (by omega))) dX0_layFrom_106 ?_
                refine lv_isub hx hb dX0_layFrom_107 ?_
                refine va_mabs hx hb (hml.trans hl.1.symm) hown (hts _ w_814) (hts _ w_815) (hts _ w_10) (hts _ w_816) (Nat.le_of_ble_eq_true rfl) (Nat.le_of_ble_eq_true rfl) (Nat.le_of_ble_eq_true rfl) (Nat.le_of_ble_eq_true rfl) dX0_layFrom_108 ?_
                refine lv_istore (lv' := [(6, .int (if 0 ≤ ((af1 5) - (af2 k57)) then ((af1 5) - (af2 k57)) else 0 - ((af1 5) - (af2 k57)))), (5, .int (nI k57)), (0, .ref y0), (1, .ref a0), (2, .int (nI 5)), (3, .int tk), (4, .int sum)]) hx hb dX0_layFrom_111 hl (by decide) rfl (fun ls hl => ?_)
                refine lv_aload_n hx hb dX0_layFrom_113 rfl (lv_at hl 2 rfl) ?_
                refine lv_aload_n hx hb dX0_layFrom_114 rfl (lv_at hl 3 rfl) ?_
                refine lv_iload_n hx hb dX0_layFrom_115 rfl (lv_at hl 4 rfl) ?_
                refine lv_iconst (v := (nI 1)) hx hb dX0_layFrom_116 (by decide +kernel) ?_
                refine lv_iadd hx hb dX0_layFrom_117 ?_
                refine g_vi (y := (nI 6)) (by decide +kernel) ?_
                refine lv_iload_n hx hb dX0_layFrom_118 rfl (lv_at hl 5 rfl) ?_
                refine lv_iconst (v := (nI 1)) hx hb dX0_layFrom_119 (by decide +kernel) ?_
                refine lv_iload hx hb dX0_layFrom_120 (lv_at hl 1 rfl) ?_
                refine lv_ishl hx hb dX0_layFrom_122 ?_
                refine lv_ior hx hb dX0_layFrom_123 ?_
                refine lv_iload hx hb dX0_layFrom_124 (lv_at hl 6 rfl) ?_
                refine lv_iload hx hb dX0_layFrom_126 (lv_at hl 0 rfl) ?_
                refine lv_iadd hx hb dX0_layFrom_128 ?_
                refine g_callV (wr := []) (nA := 4) hC V hl.1 (y_layf6 l D T fa (pp ++ [k57]) ((gcK an (an - 6) pp k57).foldl (upC fa) so_) y0 a0 (tk ||| ((nI 1) <<< ((nI k57) &&& 31))) (sum + (if 0 ≤ ((af1 5) - (af2 k57)) then ((af1 5) - (af2 k57)) else 0 - ((af1 5) - (af2 k57)))) bv y1 y2 ga (upd gb 5 (nI k57)) an am al ao au a1 a2 a3 a4 a5 a6 a7 a8 a9 a10 af1 af2 (by first | assumption | omega) (pf_s (pf_e h_pp (fun j hj => hgb j (by omega))) (by omega)) (fun j h1 h2 => (up_other (by omega)).trans ((hgb j h2).trans (h_pm j (by omega) h2))) (us_s h_us (by omega)) (sqz_s h_a (by omega) (by omega) h_sum h_pp.1 (of_c (n := an) (h_s1 5 (by omega)) (h_s2 k57 (by omega)) rfl)) (sqz_b h_a (by omega) (by omega) h_sb h_pp.1) hR (by omega) (by first | assumption | omega) (by first | assumption | omega) (by first | assumption | omega)) w_804 w_806 w_s31 w_7 w_807 (by decide +kernel) rfl ⟨(Nat.le_of_ble_eq_true rfl), (Nat.le_of_ble_eq_true rfl)⟩ 0 (ci := 0) rfl rfl [0, 1, 2, 3, 4, 5] [] rfl rfl rfl rfl (by decide) (Nat.le_of_ble_eq_true rfl) dX0_layFrom_129 ⟨(Nat.le_of_ble_eq_true rfl), (Nat.le_of_ble_eq_true rfl)⟩ rfl (fun r w1 H locs hQ V => ?_)
                obtain ⟨bs_10, g1_11, g2_12, rfl, rfl, f_13, f_14⟩ := hQ
                have V : gW D T A s [(y0, .inr (0, [.int bs_10, .ref y1, .ref y2])), (y1, .inl (T 0, 7, .inl g1_11)), (y2, .inl (T 0, 7, .inl g2_12)), (a0, .inr (5, [.int (nI an), .int am, .int al, .int ao, .int au, .ref a1, .ref a2, .ref a3, .ref a4, .ref a5, .ref a6, .ref a7, .ref a8, .ref a9, .ref a10])), (a1, .inl (T 0, 10, .inl af1)), (a2, .inl (T 0, 10, .inl af2))] H locs := V
                show W p l e _ s m args below meth c H locs _ _ _ (F0 m 132 ls [])
                refine lv_aload_n hx hb dX0_layFrom_132 rfl (lv_at hl 2 rfl) ?_
                refine g_get hC V (ci := 0) uwX0 0 rfl rfl 2 (by decide) w_215 rfl rfl dX0_layFrom_133 ?_
                refine lv_iload_n hx hb dX0_layFrom_136 rfl (lv_at hl 4 rfl) ?_
                refine lv_iconst (v := (-1)) hx hb dX0_layFrom_137 (by decide +kernel) ?_
                refine g_iast hC V 2 rfl (vp_in_nI (by decide) (by decide)) (f' := (upd g2_12 5 (-1))) (by rw [nI_clamp (by decide)]) (ws' := [(y0, .inr (0, [.int bs_10, .ref y1, .ref y2])), (y1, .inl (T 0, 7, .inl g1_11)), (y2, .inl (T 0, 7, .inl (upd g2_12 5 (-1)))), (a0, .inr (5, [.int (nI an), .int am, .int al, .int ao, .int au, .ref a1, .ref a2, .ref a3, .ref a4, .ref a5, .ref a6, .ref a7, .ref a8, .ref a9, .ref a10])), (a1, .inl (T 0, 10, .inl af1)), (a2, .inl (T 0, 10, .inl af2))]) rfl dX0_layFrom_138 (fun H locs V => ?_)
                refine lv_iinc (v := (nI (k57 + 1))) (lv' := [(5, .int (nI (k57 + 1))), (6, .int (if 0 ≤ ((af1 5) - (af2 k57)) then ((af1 5) - (af2 k57)) else 0 - ((af1 5) - (af2 k57)))), (0, .ref y0), (1, .ref a0), (2, .int (nI 5)), (3, .int tk), (4, .int sum)]) hx hb dX0_layFrom_139 hl (k := 1) rfl (nI_1 _) (by decide) rfl (fun ls hl => ?_)
                refine lv_goto (tgt := 57) hx hb dX0_layFrom_142 (by decide) ?_
                exact ih_57 (k57 + 1) bs_10 g1_11 (upd g2_12 5 (-1)) (by omega) (fun j hj => if q : j = 5 then by rw [q, up_same]; exact (h_pm 5 (by omega) (by omega)).symm else (up_other q).trans ((f_14 j hj).trans ((up_other q).trans (hgb j hj)))) (by rw [gck_y (fun q => q.elim (fun r => f_7 ((h_us k57 (by omega)).mpr r)) (fun r => by rw [f_9] at r; cases r)), List.foldl_append]; exact f_13) (by omega) _ _ _ V (lv_sub hl [0, 2, 3, 4, 5, 6] rfl)
      exact L_4 _ 0 ys yb yt (by omega) (fun _ _ => rfl) h_st (Nat.lt_succ_self _) _ _ _ V (lv_sub hl [0, 1, 2, 3, 4, 5] rfl)
  · skip
    refine lv_iload hx hb dX0_layFrom_8 (lv_at hl 4 rfl) ?_
    refine lv_aload_n hx hb dX0_layFrom_10 rfl (lv_at hl 0 rfl) ?_
    refine g_get hC V (ci := 0) uwX0 0 rfl rfl 0 (by decide) w_211 rfl rfl dX0_layFrom_11 ?_
    refine lv_icmp_lt (tgt := 18) hx hb dX0_layFrom_14 (by decide) (fun c_15 => ?_) (fun c_15 => ?_)
    · skip
      refine lv_iload_n hx hb dX0_layFrom_18 rfl (lv_at hl 2 rfl) ?_
      refine lv_aload_n hx hb dX0_layFrom_19 rfl (lv_at hl 1 rfl) ?_
      refine g_get hC V (ci := 5) uwX5 3 rfl rfl 0 (by decide) w_35 rfl rfl dX0_layFrom_20 ?_
      refine lv_icmp_ge (tgt := 32) hx hb dX0_layFrom_23 (by decide) (fun c_16 => ?_) (fun c_16 => ?_)
      · skip
        have c_16 := b_le (by omega) (by omega) c_16
        refine lv_aload_n hx hb dX0_layFrom_32 rfl (lv_at hl 0 rfl) ?_
        refine lv_iload hx hb dX0_layFrom_33 (lv_at hl 4 rfl) ?_
        refine g_put hC V (ci := 0) uwX0 tyX0 tyX0_ok nmX0 0 rfl rfl 0 (by decide) w_211 rfl rfl rfl rfl (Nat.le_of_ble_eq_true rfl) (ws' := [(y0, .inr (0, [.int sum, .ref y1, .ref y2])), (y1, .inl (T 0, 7, .inl yb)), (y2, .inl (T 0, 7, .inl yt)), (a0, .inr (5, [.int (nI an), .int am, .int al, .int ao, .int au, .ref a1, .ref a2, .ref a3, .ref a4, .ref a5, .ref a6, .ref a7, .ref a8, .ref a9, .ref a10])), (a1, .inl (T 0, 10, .inl af1)), (a2, .inl (T 0, 10, .inl af2))]) rfl dX0_layFrom_35 (fun H locs V => ?_)
        refine lv_aload_n hx hb dX0_layFrom_38 rfl (lv_at hl 0 rfl) ?_
        refine g_get hC V (ci := 0) uwX0 0 rfl rfl 2 (by decide) w_215 rfl rfl dX0_layFrom_39 ?_
        refine lv_iconst (v := (nI 0)) hx hb dX0_layFrom_42 (by decide +kernel) ?_
        refine lv_aload_n hx hb dX0_layFrom_43 rfl (lv_at hl 0 rfl) ?_
        refine g_get hC V (ci := 0) uwX0 0 rfl rfl 1 (by decide) w_213 rfl rfl dX0_layFrom_44 ?_
        refine lv_iconst (v := (nI 0)) hx hb dX0_layFrom_47 (by decide +kernel) ?_
        refine lv_bipush (v := (nI 7)) hx hb dX0_layFrom_48 (by decide +kernel) ?_
        refine g_copyf hC V hl.1 w_808 w_672 w_671 w_17 2 1 rfl rfl (by decide +kernel) (by decide +kernel) (Nat.le_of_ble_eq_true rfl) (Nat.le_of_ble_eq_true rfl) (Nat.le_of_ble_eq_true rfl) dX0_layFrom_50 7 (by decide +kernel) (fun g_17 hcp H locs V => ?_)
        have V : gW D T A s [(y0, .inr (0, [.int sum, .ref y1, .ref y2])), (y1, .inl (T 0, 7, .inl g_17)), (y2, .inl (T 0, 7, .inl yt)), (a0, .inr (5, [.int (nI an), .int am, .int al, .int ao, .int au, .ref a1, .ref a2, .ref a3, .ref a4, .ref a5, .ref a6, .ref a7, .ref a8, .ref a9, .ref a10])), (a1, .inl (T 0, 10, .inl af1)), (a2, .inl (T 0, 10, .inl af2))] H locs := V
        exact g_vret (Qr := (q_y_layf5 T fa pp so_ y0 a0 tk sum ys y1 y2 yb yt an am al ao au a1 a2 a3 a4 a5 a6 a7 a8 a9 a10 af1 af2)) hC V ⟨(Nat.le_of_ble_eq_true rfl), (Nat.le_of_ble_eq_true rfl)⟩ ⟨sum, g_17, yt, rfl, rfl, (by rw [show an - 5 = 0 by omega]; exact rs_up h_st h_sum (by omega) (Or.inr c_15) (fun i hi => (hcp i (by omega)).trans (h_pp.2 i (by omega)).1)), (fun _ _ => rfl)⟩ dX0_layFrom_53
      · skip
        have c_16 := b_nle (by omega) (by omega) c_16
        refine lv_iload_n hx hb dX0_layFrom_26 rfl (lv_at hl 2 rfl) ?_
        refine lv_bipush (v := (nI 7)) hx hb dX0_layFrom_27 (by decide +kernel) ?_
        refine lv_icmp_lt (tgt := 54) hx hb dX0_layFrom_29 (by decide) (fun _ => ?_) (fun c => absurd (show (nI 5) < (nI 7) by first | rfl | decide +kernel) c)
        refine lv_iconst (v := (nI 0)) hx hb dX0_layFrom_54 (by decide +kernel) ?_
        refine lv_istore (lv' := [(5, .int (nI 0)), (0, .ref y0), (1, .ref a0), (2, .int (nI 5)), (3, .int tk), (4, .int sum)]) hx hb dX0_layFrom_55 hl (by decide) rfl (fun ls hl => ?_)
        have L_18 : ∀ (fu : Nat) (k57 : Nat) (bv : Int32) (ga : Nat → Int32) (gb : Nat → Int32), k57 ≤ an → (∀ j, j < 7 → gb j = yt j) → RST an fa ((gcK an (an - 6) pp k57).foldl (upC fa) so_) bv ga → an - k57 < fu → ∀ (H : Heap) (locs : List Loc) (ls : Array Slot), gW D T A s [(y0, .inr (0, [.int bv, .ref y1, .ref y2])), (y1, .inl (T 0, 7, .inl ga)), (y2, .inl (T 0, 7, .inl gb)), (a0, .inr (5, [.int (nI an), .int am, .int al, .int ao, .int au, .ref a1, .ref a2, .ref a3, .ref a4, .ref a5, .ref a6, .ref a7, .ref a8, .ref a9, .ref a10])), (a1, .inl (T 0, 10, .inl af1)), (a2, .inl (T 0, 10, .inl af2))] H locs → lv_has ls 7 [(5, .int (nI k57)), (0, .ref y0), (1, .ref a0), (2, .int (nI 5)), (3, .int tk), (4, .int sum)] → W p l e (rmD 4 0 0) s m args below meth c H locs 0 0 (MQ below (gQ D A (q_y_layf5 T fa pp so_ y0 a0 tk sum ys y1 y2 yb yt an am al ao au a1 a2 a3 a4 a5 a6 a7 a8 a9 a10 af1 af2)) args s 0 0 A) (F0 m 57 ls []) := by
          intro fu_57
          induction fu_57 with
          | zero => intro k57 bv ga gb hk57 hgb hR hmu; exact absurd hmu (Nat.not_lt_zero _)
          | succ fu_57 ih_57 =>
            intro k57 bv ga gb hk57 hgb hR hmu_57 H locs ls V hl
            refine lv_iload hx hb dX0_layFrom_57 (lv_at hl 0 rfl) ?_
            refine lv_aload_n hx hb dX0_layFrom_59 rfl (lv_at hl 2 rfl) ?_
            refine g_get hC V (ci := 5) uwX5 3 rfl rfl 0 (by decide) w_35 rfl rfl dX0_layFrom_60 ?_
            refine lv_icmp_ge (tgt := 145) hx hb dX0_layFrom_63 (by decide) (fun c_19 => ?_) (fun c_19 => ?_)
            · skip
              have c_19 := b_le (by omega) (by omega) c_19
              exact g_vret (Qr := (q_y_layf5 T fa pp so_ y0 a0 tk sum ys y1 y2 yb yt an am al ao au a1 a2 a3 a4 a5 a6 a7 a8 a9 a10 af1 af2)) hC V ⟨(Nat.le_of_ble_eq_true rfl), (Nat.le_of_ble_eq_true rfl)⟩ ⟨bv, ga, gb, rfl, rfl, (by rw [show an - 5 = (an - 6) + 1 by omega]; have q := hR; rw [show k57 = an by omega] at q; exact q), hgb⟩ dX0_layFrom_145
            · skip
              have c_19 := b_nle (by omega) (by omega) c_19
              refine lv_iload_n hx hb dX0_layFrom_66 rfl (lv_at hl 4 rfl) ?_
              refine lv_iload hx hb dX0_layFrom_67 (lv_at hl 0 rfl) ?_
              refine g_callSNU (nA := 2) (host := RX7) hC V hl.1 (c_isIn_f l D T tk k57) w_472 (List.mem_of_getElem? (i := 7) rfl) w_2 w_471 (by decide +kernel) rfl ⟨(Nat.le_of_ble_eq_true rfl), (Nat.le_of_ble_eq_true rfl)⟩ [] rfl rfl (Nat.le_of_ble_eq_true rfl) dX0_layFrom_69 ⟨(Nat.le_of_ble_eq_true rfl), (Nat.le_of_ble_eq_true rfl)⟩ rfl (fun r w1 H locs hQ V => ?_)
              rcases hQ with ⟨rfl, rfl, f_20⟩ | ⟨rfl, rfl, f_21⟩
              · have V : gW D T A s [(y0, .inr (0, [.int bv, .ref y1, .ref y2])), (y1, .inl (T 0, 7, .inl ga)), (y2, .inl (T 0, 7, .inl gb)), (a0, .inr (5, [.int (nI an), .int am, .int al, .int ao, .int au, .ref a1, .ref a2, .ref a3, .ref a4, .ref a5, .ref a6, .ref a7, .ref a8, .ref a9, .ref a10])), (a1, .inl (T 0, 10, .inl af1)), (a2, .inl (T 0, 10, .inl af2))] H locs := V _ [] rfl rfl rfl (by decide +kernel) rfl
                show W p l e _ s m args below meth c H locs _ _ _ (F0 m 72 ls [.int (nI 1)])
                refine lv_if_ne (tgt := 139) hx hb dX0_layFrom_72 (by decide) (fun _ => ?_) (fun c => absurd (show (nI 1) = 0 from c) (by decide +kernel))
                refine lv_iinc (v := (nI (k57 + 1))) (lv' := [(5, .int (nI (k57 + 1))), (0, .ref y0), (1, .ref a0), (2, .int (nI 5)), (3, .int tk), (4, .int sum)]) hx hb dX0_layFrom_139 hl (k := 0) rfl (nI_1 _) (by decide) rfl (fun ls hl => ?_)
                refine lv_goto (tgt := 57) hx hb dX0_layFrom_142 (by decide) ?_
                exact ih_57 (k57 + 1) bv ga gb (by omega) hgb (by rw [gck_n (Or.inl ((h_us k57 (by omega)).mp f_20))]; exact hR) (by omega) _ _ _ V (lv_sub hl [0, 1, 2, 3, 4, 5] rfl)
              · have V : gW D T A s [(y0, .inr (0, [.int bv, .ref y1, .ref y2])), (y1, .inl (T 0, 7, .inl ga)), (y2, .inl (T 0, 7, .inl gb)), (a0, .inr (5, [.int (nI an), .int am, .int al, .int ao, .int au, .ref a1, .ref a2, .ref a3, .ref a4, .ref a5, .ref a6, .ref a7, .ref a8, .ref a9, .ref a10])), (a1, .inl (T 0, 10, .inl af1)), (a2, .inl (T 0, 10, .inl af2))] H locs := V _ [] rfl rfl rfl (by decide +kernel) rfl
                show W p l e _ s m args below meth c H locs _ _ _ (F0 m 72 ls [.int (nI 0)])
                refine lv_if_ne (tgt := 139) hx hb dX0_layFrom_72 (by decide) (fun c => absurd (show (nI 0) = 0 by decide +kernel) c) (fun _ => ?_)
                refine lv_aload_n hx hb dX0_layFrom_75 rfl (lv_at hl 1 rfl) ?_
                refine lv_aload_n hx hb dX0_layFrom_76 rfl (lv_at hl 2 rfl) ?_
                refine lv_iload_n hx hb dX0_layFrom_77 rfl (lv_at hl 3 rfl) ?_
                refine lv_iload hx hb dX0_layFrom_78 (lv_at hl 0 rfl) ?_
                refine g_callVU (nA := 3) hC V hl.1 (y_closes_f l D T pp y0 a0 5 k57 bv y1 y2 gb an am al ao au a1 a2 a3 a4 a5 a6 a7 a8 a9 a10 (by first | assumption | omega) (pf_e h_pp (fun j hj => hgb j (by omega))) (fun j h1 h2 => (hgb j h2).trans (h_pm j h1 h2)) (by omega) (by omega)) w_810 w_812 w_s32 w_7 w_813 (by decide +kernel) rfl ⟨(Nat.le_of_ble_eq_true rfl), (Nat.le_of_ble_eq_true rfl)⟩ 0 (ci := 0) rfl rfl [0, 2, 3] rfl rfl (Nat.le_of_ble_eq_true rfl) dX0_layFrom_80 ⟨(Nat.le_of_ble_eq_true rfl), (Nat.le_of_ble_eq_true rfl)⟩ rfl (fun r w1 H locs hQ V => ?_)
                rcases hQ with ⟨rfl, rfl, f_22⟩ | ⟨rfl, rfl, f_23⟩
                · have V : gW D T A s [(y0, .inr (0, [.int bv, .ref y1, .ref y2])), (y1, .inl (T 0, 7, .inl ga)), (y2, .inl (T 0, 7, .inl gb)), (a0, .inr (5, [.int (nI an), .int am, .int al, .int ao, .int au, .ref a1, .ref a2, .ref a3, .ref a4, .ref a5, .ref a6, .ref a7, .ref a8, .ref a9, .ref a10])), (a1, .inl (T 0, 10, .inl af1)), (a2, .inl (T 0, 10, .inl af2))] H locs := V _ [0, 1, 0] rfl rfl rfl (by decide +kernel) rfl
                  show W p l e _ s m args below meth c H locs _ _ _ (F0 m 83 ls [.int (nI 1)])
                  refine lv_if_ne (tgt := 139) hx hb dX0_layFrom_83 (by decide) (fun _ => ?_) (fun c => absurd (show (nI 1) = 0 from c) (by decide +kernel))
                  refine lv_iinc (v := (nI (k57 + 1))) (lv' := [(5, .int (nI (k57 + 1))), (0, .ref y0), (1, .ref a0), (2, .int (nI 5)), (3, .int tk), (4, .int sum)]) hx hb dX0_layFrom_139 hl (k := 0) rfl (nI_1 _) (by decide) rfl (fun ls hl => ?_)
                  refine lv_goto (tgt := 57) hx hb dX0_layFrom_142 (by decide) ?_
                  exact ih_57 (k57 + 1) bv ga gb (by omega) hgb (by rw [gck_n (Or.inr f_22)]; exact hR) (by omega) _ _ _ V (lv_sub hl [0, 1, 2, 3, 4, 5] rfl)
                · have V : gW D T A s [(y0, .inr (0, [.int bv, .ref y1, .ref y2])), (y1, .inl (T 0, 7, .inl ga)), (y2, .inl (T 0, 7, .inl gb)), (a0, .inr (5, [.int (nI an), .int am, .int al, .int ao, .int au, .ref a1, .ref a2, .ref a3, .ref a4, .ref a5, .ref a6, .ref a7, .ref a8, .ref a9, .ref a10])), (a1, .inl (T 0, 10, .inl af1)), (a2, .inl (T 0, 10, .inl af2))] H locs := V _ [0, 1, 0] rfl rfl rfl (by decide +kernel) rfl
                  show W p l e _ s m args below meth c H locs _ _ _ (F0 m 83 ls [.int (nI 0)])
                  refine lv_if_ne (tgt := 139) hx hb dX0_layFrom_83 (by decide) (fun c => absurd (show (nI 0) = 0 by decide +kernel) c) (fun _ => ?_)
                  refine lv_aload_n hx hb dX0_layFrom_86 rfl (lv_at hl 1 rfl) ?_
                  refine g_get hC V (ci := 0) uwX0 0 rfl rfl 2 (by decide) w_215 rfl rfl dX0_layFrom_87 ?_
                  refine lv_iload_n hx hb dX0_layFrom_90 rfl (lv_at hl 3 rfl) ?_
                  refine lv_iload hx hb dX0_layFrom_91 (lv_at hl 0 rfl) ?_
                  refine g_iast hC V 2 rfl (vp_in_nI (by decide) (by decide)) (f' := (upd gb 5 (nI k57))) (by rw [nI_clamp (by decide)]) (ws' := [(y0, .inr (0, [.int bv, .ref y1, .ref y2])), (y1, .inl (T 0, 7, .inl ga)), (y2, .inl (T 0, 7, .inl (upd gb 5 (nI k57)))), (a0, .inr (5, [.int (nI an), .int am, .int al, .int ao, .int au, .ref a1, .ref a2, .ref a3, .ref a4, .ref a5, .ref a6, .ref a7, .ref a8, .ref a9, .ref a10])), (a1, .inl (T 0, 10, .inl af1)), (a2, .inl (T 0, 10, .inl af2))]) rfl dX0_layFrom_93 (fun H locs V => ?_)
                  refine lv_aload_n hx hb dX0_layFrom_94 rfl (lv_at hl 2 rfl) ?_
                  refine g_get hC V (ci := 5) uwX5 3 rfl rfl 5 (by decide) w_52 rfl rfl dX0_layFrom_95 ?_
                  refine lv_iload_n hx hb dX0_layFrom_98 rfl (lv_at hl 3 rfl) ?_
                  refine g_iald hC V 4 rfl (vp_in_nI (by decide) (by decide)) (v := (af1 5)) (congrArg _ (nI_clamp (by decide))) dX0_layFrom_99 ?_
                  refine lv_aload_n hx hb dX0_layFrom_100 rfl (lv_at hl 2 rfl) ?_
                  refine g_get hC V (ci := 5) uwX5 3 rfl rfl 6 (by decide) w_58 rfl rfl dX0_layFrom_101 ?_
                  refine lv_iload hx hb dX0_layFrom_104 (lv_at hl 0 rfl) ?_
                  refine g_iald hC V 5 rfl (vp_in_nI (by omega) (by omega)) (v := (af2 k57)) (congrArg _ (nI_clamp (by omega))) dX0_layFrom_106 ?_
                  refine lv_isub hx hb dX0_layFrom_107 ?_
                  refine va_mabs hx hb (hml.trans hl.1.symm) hown (hts _ w_814) (hts _ w_815) (hts _ w_10) (hts _ w_816) (Nat.le_of_ble_eq_true rfl) (Nat.le_of_ble_eq_true rfl) (Nat.le_of_ble_eq_true rfl) (Nat.le_of_ble_eq_true rfl) dX0_layFrom_108 ?_
                  refine lv_istore (lv' := [(6, .int (if 0 ≤ ((af1 5) - (af2 k57)) then ((af1 5) - (af2 k57)) else 0 - ((af1 5) - (af2 k57)))), (5, .int (nI k57)), (0, .ref y0), (1, .ref a0), (2, .int (nI 5)), (3, .int tk), (4, .int sum)]) hx hb dX0_layFrom_111 hl (by decide) rfl (fun ls hl => ?_)
                  refine lv_aload_n hx hb dX0_layFrom_113 rfl (lv_at hl 2 rfl) ?_
                  refine lv_aload_n hx hb dX0_layFrom_114 rfl (lv_at hl 3 rfl) ?_
                  refine lv_iload_n hx hb dX0_layFrom_115 rfl (lv_at hl 4 rfl) ?_
                  refine lv_iconst (v := (nI 1)) hx hb dX0_layFrom_116 (by decide +kernel) ?_
                  refine lv_iadd hx hb dX0_layFrom_117 ?_
                  refine g_vi (y := (nI 6)) (by decide +kernel) ?_
                  refine lv_iload_n hx hb dX0_layFrom_118 rfl (lv_at hl 5 rfl) ?_
                  refine lv_iconst (v := (nI 1)) hx hb dX0_layFrom_119 (by decide +kernel) ?_
                  refine lv_iload hx hb dX0_layFrom_120 (lv_at hl 1 rfl) ?_
                  refine lv_ishl hx hb dX0_layFrom_122 ?_
                  refine lv_ior hx hb dX0_layFrom_123 ?_
                  refine lv_iload hx hb dX0_layFrom_124 (lv_at hl 6 rfl) ?_
                  refine lv_iload hx hb dX0_layFrom_126 (lv_at hl 0 rfl) ?_
                  refine lv_iadd hx hb dX0_layFrom_128 ?_
                  refine g_callV (wr := []) (nA := 4) hC V hl.1 (y_layf6 l D T fa (pp ++ [k57]) ((gcK an (an - 6) pp k57).foldl (upC fa) so_) y0 a0 (tk ||| ((nI 1) <<< ((nI k57) &&& 31))) (sum + (if 0 ≤ ((af1 5) - (af2 k57)) then ((af1 5) - (af2 k57)) else 0 - ((af1 5) - (af2 k57)))) bv y1 y2 ga (upd gb 5 (nI k57)) an am al ao au a1 a2 a3 a4 a5 a6 a7 a8 a9 a10 af1 af2 (by first | assumption | omega) (pf_s (pf_e h_pp (fun j hj => hgb j (by omega))) (by omega)) (fun j h1 h2 => (up_other (by omega)).trans ((hgb j h2).trans (h_pm j (by omega) h2))) (us_s h_us (by omega)) (sqz_s h_a (by omega) (by omega) h_sum h_pp.1 (of_c (n := an) (h_s1 5 (by omega)) (h_s2 k57 (by omega)) rfl)) (sqz_b h_a (by omega) (by omega) h_sb h_pp.1) hR (by omega) (by first | assumption | omega) (by first | assumption | omega) (by first | assumption | omega)) w_804 w_806 w_s31 w_7 w_807 (by decide +kernel) rfl ⟨(Nat.le_of_ble_eq_true rfl), (Nat.le_of_ble_eq_true rfl)⟩ 0 (ci := 0) rfl rfl [0, 1, 2, 3, 4, 5] [] rfl rfl rfl rfl (by decide) (Nat.le_of_ble_eq_true rfl) dX0_layFrom_129 ⟨(Nat.le_of_ble_eq_true rfl), (Nat.le_of_ble_eq_true rfl)⟩ rfl (fun r w1 H locs hQ V => ?_)
                  obtain ⟨bs_24, g1_25, g2_26, rfl, rfl, f_27, f_28⟩ := hQ
                  have V : gW D T A s [(y0, .inr (0, [.int bs_24, .ref y1, .ref y2])), (y1, .inl (T 0, 7, .inl g1_25)), (y2, .inl (T 0, 7, .inl g2_26)), (a0, .inr (5, [.int (nI an), .int am, .int al, .int ao, .int au, .ref a1, .ref a2, .ref a3, .ref a4, .ref a5, .ref a6, .ref a7, .ref a8, .ref a9, .ref a10])), (a1, .inl (T 0, 10, .inl af1)), (a2, .inl (T 0, 10, .inl af2))] H locs := V
                  show W p l e _ s m args below meth c H locs _ _ _ (F0 m 132 ls [])
                  refine lv_aload_n hx hb dX0_layFrom_132 rfl (lv_at hl 2 rfl) ?_
                  refine g_get hC V (ci := 0) uwX0 0 rfl rfl 2 (by decide) w_215 rfl rfl dX0_layFrom_133 ?_
                  refine lv_iload_n hx hb dX0_layFrom_136 rfl (lv_at hl 4 rfl) ?_
                  refine lv_iconst (v := (-1)) hx hb dX0_layFrom_137 (by decide +kernel) ?_
                  refine g_iast hC V 2 rfl (vp_in_nI (by decide) (by decide)) (f' := (upd g2_26 5 (-1))) (by rw [nI_clamp (by decide)]) (ws' := [(y0, .inr (0, [.int bs_24, .ref y1, .ref y2])), (y1, .inl (T 0, 7, .inl g1_25)), (y2, .inl (T 0, 7, .inl (upd g2_26 5 (-1)))), (a0, .inr (5, [.int (nI an), .int am, .int al, .int ao, .int au, .ref a1, .ref a2, .ref a3, .ref a4, .ref a5, .ref a6, .ref a7, .ref a8, .ref a9, .ref a10])), (a1, .inl (T 0, 10, .inl af1)), (a2, .inl (T 0, 10, .inl af2))]) rfl dX0_layFrom_138 (fun H locs V => ?_)
                  refine lv_iinc (v := (nI (k57 + 1))) (lv' := [(5, .int (nI (k57 + 1))), (6, .int (if 0 ≤ ((af1 5) - (af2 k57)) then ((af1 5) - (af2 k57)) else 0 - ((af1 5) - (af2 k57)))), (0, .ref y0), (1, .ref a0), (2, .int (nI 5)), (3, .int tk), (4, .int sum)]) hx hb dX0_layFrom_139 hl (k := 1) rfl (nI_1 _) (by decide) rfl (fun ls hl => ?_)
                  refine lv_goto (tgt := 57) hx hb dX0_layFrom_142 (by decide) ?_
                  exact ih_57 (k57 + 1) bs_24 g1_25 (upd g2_26 5 (-1)) (by omega) (fun j hj => if q : j = 5 then by rw [q, up_same]; exact (h_pm 5 (by omega) (by omega)).symm else (up_other q).trans ((f_28 j hj).trans ((up_other q).trans (hgb j hj)))) (by rw [gck_y (fun q => q.elim (fun r => f_21 ((h_us k57 (by omega)).mpr r)) (fun r => by rw [f_23] at r; cases r)), List.foldl_append]; exact f_27) (by omega) _ _ _ V (lv_sub hl [0, 2, 3, 4, 5, 6] rfl)
        exact L_18 _ 0 ys yb yt (by omega) (fun _ _ => rfl) h_st (Nat.lt_succ_self _) _ _ _ V (lv_sub hl [0, 1, 2, 3, 4, 5] rfl)
    · skip
      exact g_vret (Qr := (q_y_layf5 T fa pp so_ y0 a0 tk sum ys y1 y2 yb yt an am al ao au a1 a2 a3 a4 a5 a6 a7 a8 a9 a10 af1 af2)) hC V ⟨(Nat.le_of_ble_eq_true rfl), (Nat.le_of_ble_eq_true rfl)⟩ ⟨ys, yb, yt, rfl, rfl, (rs_pr h_st c_1 h_sum (by omega) c_15), (fun _ _ => rfl)⟩ dX0_layFrom_17

def q_y_layf4 (T : Nat → ClassId) (fa : Nat → Int32) (pp : List Nat) (so_ : Option (List Nat)) (y0 : Nat) (a0 : Nat) (tk : Int32) (sum : Int32) (ys : Int32) (y1 : Nat) (y2 : Nat) (yb : Nat → Int32) (yt : Nat → Int32) (an : Nat) (am : Int32) (al : Int32) (ao : Int32) (au : Int32) (a1 : Nat) (a2 : Nat) (a3 : Nat) (a4 : Nat) (a5 : Nat) (a6 : Nat) (a7 : Nat) (a8 : Nat) (a9 : Nat) (a10 : Nat) (af1 : Nat → Int32) (af2 : Nat → Int32) : Option Value → va_W → Prop := fun rr ww => (∃ (bs : Int32) (g1 : Nat → Int32) (g2 : Nat → Int32), rr = none ∧ ww = [(y0, .inr (0, [.int bs, .ref y1, .ref y2])), (y1, .inl (T 0, 7, .inl g1)), (y2, .inl (T 0, 7, .inl g2)), (a0, .inr (5, [.int (nI an), .int am, .int al, .int ao, .int au, .ref a1, .ref a2, .ref a3, .ref a4, .ref a5, .ref a6, .ref a7, .ref a8, .ref a9, .ref a10])), (a1, .inl (T 0, 10, .inl af1)), (a2, .inl (T 0, 10, .inl af2))] ∧ RST an fa ((gC an (an - 4) pp).foldl (upC fa) so_) bs g1 ∧ (∀ j, j < 7 → g2 j = yt j))
set_option maxHeartbeats 4000000 in
set_option maxRecDepth 100000 in
theorem y_layf4 (l : Launch) (D : va_G) (T : Nat → ClassId) (fa : Nat → Int32) (pp : List Nat) (so_ : Option (List Nat)) (y0 : Nat) (a0 : Nat) (tk : Int32) (sum : Int32) (ys : Int32) (y1 : Nat) (y2 : Nat) (yb : Nat → Int32) (yt : Nat → Int32) (an : Nat) (am : Int32) (al : Int32) (ao : Int32) (au : Int32) (a1 : Nat) (a2 : Nat) (a3 : Nat) (a4 : Nat) (a5 : Nat) (a6 : Nat) (a7 : Nat) (a8 : Nat) (a9 : Nat) (a10 : Nat) (af1 : Nat → Int32) (af2 : Nat → Int32) (h_n : an ≤ 7) (h_pp : PFX an pp 4 yt) (h_pm : ∀ j, 4 ≤ j → j < 7 → yt j = -1) (h_us : USE pp tk) (h_sum : sum = nI (smL fa 0 pp)) (h_sb : smL fa 0 pp ≤ 60 * 4) (h_st : RST an fa so_ ys yb) (h_kn : 4 ≤ an) (h_a : MI an fa) (h_s1 : ∀ i, i < an → af1 i = fa (4 + i)) (h_s2 : ∀ i, i < an → af2 i = fa (14 + i)) : Ct l yX0_layFrom cX0_layFrom 7 none 5 0 0 D T [.ref y0, .ref a0, .int (nI 4), .int tk, .int sum] [(y0, .inr (0, [.int ys, .ref y1, .ref y2])), (y1, .inl (T 0, 7, .inl yb)), (y2, .inl (T 0, 7, .inl yt)), (a0, .inr (5, [.int (nI an), .int am, .int al, .int ao, .int au, .ref a1, .ref a2, .ref a3, .ref a4, .ref a5, .ref a6, .ref a7, .ref a8, .ref a9, .ref a10])), (a1, .inl (T 0, 10, .inl af1)), (a2, .inl (T 0, 10, .inl af2))] (q_y_layf4 T fa pp so_ y0 a0 tk sum ys y1 y2 yb yt an am al ao au a1 a2 a3 a4 a5 a6 a7 a8 a9 a10 af1 af2) := by
  refine Ct.of (cc := cX0_layFrom) (maxL := 7) (ret := none) (by decide) (Nat.le_of_ble_eq_true rfl) ?_
  intro p e s m args below meth c A ls hC hnm V hl
  obtain ⟨hx, hb, hr, hml, hown, hts, hlocks⟩ := id hC
  generalize hH : s.heap = H at V ⊢
  clear hH
  have hl : lv_has ls 7 [(0, .ref y0), (1, .ref a0), (2, .int (nI 4)), (3, .int tk), (4, .int sum)] := hl
  generalize hlo : ([] : List Loc) = locs at V ⊢
  clear hlo
  refine lv_aload_n hx hb dX0_layFrom_0 rfl (lv_at hl 0 rfl) ?_
  refine g_get hC V (ci := 0) uwX0 0 rfl rfl 0 (by decide) w_211 rfl rfl dX0_layFrom_1 ?_
  refine lv_iconst (v := (-1)) hx hb dX0_layFrom_4 (by decide +kernel) ?_
  refine lv_icmp_eq (tgt := 18) hx hb dX0_layFrom_5 (by decide) (fun c_1 => ?_) (fun c_1 => ?_)
  · skip
    refine lv_iload_n hx hb dX0_layFrom_18 rfl (lv_at hl 2 rfl) ?_
    refine lv_aload_n hx hb dX0_layFrom_19 rfl (lv_at hl 1 rfl) ?_
    refine g_get hC V (ci := 5) uwX5 3 rfl rfl 0 (by decide) w_35 rfl rfl dX0_layFrom_20 ?_
    refine lv_icmp_ge (tgt := 32) hx hb dX0_layFrom_23 (by decide) (fun c_2 => ?_) (fun c_2 => ?_)
    · skip
      have c_2 := b_le (by omega) (by omega) c_2
      refine lv_aload_n hx hb dX0_layFrom_32 rfl (lv_at hl 0 rfl) ?_
      refine lv_iload hx hb dX0_layFrom_33 (lv_at hl 4 rfl) ?_
      refine g_put hC V (ci := 0) uwX0 tyX0 tyX0_ok nmX0 0 rfl rfl 0 (by decide) w_211 rfl rfl rfl rfl (Nat.le_of_ble_eq_true rfl) (ws' := [(y0, .inr (0, [.int sum, .ref y1, .ref y2])), (y1, .inl (T 0, 7, .inl yb)), (y2, .inl (T 0, 7, .inl yt)), (a0, .inr (5, [.int (nI an), .int am, .int al, .int ao, .int au, .ref a1, .ref a2, .ref a3, .ref a4, .ref a5, .ref a6, .ref a7, .ref a8, .ref a9, .ref a10])), (a1, .inl (T 0, 10, .inl af1)), (a2, .inl (T 0, 10, .inl af2))]) rfl dX0_layFrom_35 (fun H locs V => ?_)
      refine lv_aload_n hx hb dX0_layFrom_38 rfl (lv_at hl 0 rfl) ?_
      refine g_get hC V (ci := 0) uwX0 0 rfl rfl 2 (by decide) w_215 rfl rfl dX0_layFrom_39 ?_
      refine lv_iconst (v := (nI 0)) hx hb dX0_layFrom_42 (by decide +kernel) ?_
      refine lv_aload_n hx hb dX0_layFrom_43 rfl (lv_at hl 0 rfl) ?_
      refine g_get hC V (ci := 0) uwX0 0 rfl rfl 1 (by decide) w_213 rfl rfl dX0_layFrom_44 ?_
      refine lv_iconst (v := (nI 0)) hx hb dX0_layFrom_47 (by decide +kernel) ?_
      refine lv_bipush (v := (nI 7)) hx hb dX0_layFrom_48 (by decide +kernel) ?_
      refine g_copyf hC V hl.1 w_808 w_672 w_671 w_17 2 1 rfl rfl (by decide +kernel) (by decide +kernel) (Nat.le_of_ble_eq_true rfl) (Nat.le_of_ble_eq_true rfl) (Nat.le_of_ble_eq_true rfl) dX0_layFrom_50 7 (by decide +kernel) (fun g_3 hcp H locs V => ?_)
      have V : gW D T A s [(y0, .inr (0, [.int sum, .ref y1, .ref y2])), (y1, .inl (T 0, 7, .inl g_3)), (y2, .inl (T 0, 7, .inl yt)), (a0, .inr (5, [.int (nI an), .int am, .int al, .int ao, .int au, .ref a1, .ref a2, .ref a3, .ref a4, .ref a5, .ref a6, .ref a7, .ref a8, .ref a9, .ref a10])), (a1, .inl (T 0, 10, .inl af1)), (a2, .inl (T 0, 10, .inl af2))] H locs := V
      exact g_vret (Qr := (q_y_layf4 T fa pp so_ y0 a0 tk sum ys y1 y2 yb yt an am al ao au a1 a2 a3 a4 a5 a6 a7 a8 a9 a10 af1 af2)) hC V ⟨(Nat.le_of_ble_eq_true rfl), (Nat.le_of_ble_eq_true rfl)⟩ ⟨sum, g_3, yt, rfl, rfl, (by rw [show an - 4 = 0 by omega]; exact rs_up h_st h_sum (by omega) (Or.inl c_1) (fun i hi => (hcp i (by omega)).trans (h_pp.2 i (by omega)).1)), (fun _ _ => rfl)⟩ dX0_layFrom_53
    · skip
      have c_2 := b_nle (by omega) (by omega) c_2
      refine lv_iload_n hx hb dX0_layFrom_26 rfl (lv_at hl 2 rfl) ?_
      refine lv_bipush (v := (nI 7)) hx hb dX0_layFrom_27 (by decide +kernel) ?_
      refine lv_icmp_lt (tgt := 54) hx hb dX0_layFrom_29 (by decide) (fun _ => ?_) (fun c => absurd (show (nI 4) < (nI 7) by first | rfl | decide +kernel) c)
      refine lv_iconst (v := (nI 0)) hx hb dX0_layFrom_54 (by decide +kernel) ?_
      refine lv_istore (lv' := [(5, .int (nI 0)), (0, .ref y0), (1, .ref a0), (2, .int (nI 4)), (3, .int tk), (4, .int sum)]) hx hb dX0_layFrom_55 hl (by decide) rfl (fun ls hl => ?_)
      have L_4 : ∀ (fu : Nat) (k57 : Nat) (bv : Int32) (ga : Nat → Int32) (gb : Nat → Int32), k57 ≤ an → (∀ j, j < 7 → gb j = yt j) → RST an fa ((gcK an (an - 5) pp k57).foldl (upC fa) so_) bv ga → an - k57 < fu → ∀ (H : Heap) (locs : List Loc) (ls : Array Slot), gW D T A s [(y0, .inr (0, [.int bv, .ref y1, .ref y2])), (y1, .inl (T 0, 7, .inl ga)), (y2, .inl (T 0, 7, .inl gb)), (a0, .inr (5, [.int (nI an), .int am, .int al, .int ao, .int au, .ref a1, .ref a2, .ref a3, .ref a4, .ref a5, .ref a6, .ref a7, .ref a8, .ref a9, .ref a10])), (a1, .inl (T 0, 10, .inl af1)), (a2, .inl (T 0, 10, .inl af2))] H locs → lv_has ls 7 [(5, .int (nI k57)), (0, .ref y0), (1, .ref a0), (2, .int (nI 4)), (3, .int tk), (4, .int sum)] → W p l e (rmD 5 0 0) s m args below meth c H locs 0 0 (MQ below (gQ D A (q_y_layf4 T fa pp so_ y0 a0 tk sum ys y1 y2 yb yt an am al ao au a1 a2 a3 a4 a5 a6 a7 a8 a9 a10 af1 af2)) args s 0 0 A) (F0 m 57 ls []) := by
        intro fu_57
        induction fu_57 with
        | zero => intro k57 bv ga gb hk57 hgb hR hmu; exact absurd hmu (Nat.not_lt_zero _)
        | succ fu_57 ih_57 =>
          intro k57 bv ga gb hk57 hgb hR hmu_57 H locs ls V hl
          refine lv_iload hx hb dX0_layFrom_57 (lv_at hl 0 rfl) ?_
          refine lv_aload_n hx hb dX0_layFrom_59 rfl (lv_at hl 2 rfl) ?_
          refine g_get hC V (ci := 5) uwX5 3 rfl rfl 0 (by decide) w_35 rfl rfl dX0_layFrom_60 ?_
          refine lv_icmp_ge (tgt := 145) hx hb dX0_layFrom_63 (by decide) (fun c_5 => ?_) (fun c_5 => ?_)
          · skip
            have c_5 := b_le (by omega) (by omega) c_5
            exact g_vret (Qr := (q_y_layf4 T fa pp so_ y0 a0 tk sum ys y1 y2 yb yt an am al ao au a1 a2 a3 a4 a5 a6 a7 a8 a9 a10 af1 af2)) hC V ⟨(Nat.le_of_ble_eq_true rfl), (Nat.le_of_ble_eq_true rfl)⟩ ⟨bv, ga, gb, rfl, rfl, (by rw [show an - 4 = (an - 5) + 1 by omega]; have q := hR; rw [show k57 = an by omega] at q; exact q), hgb⟩ dX0_layFrom_145
          · skip
            have c_5 := b_nle (by omega) (by omega) c_5
            refine lv_iload_n hx hb dX0_layFrom_66 rfl (lv_at hl 4 rfl) ?_
            refine lv_iload hx hb dX0_layFrom_67 (lv_at hl 0 rfl) ?_
            refine g_callSNU (nA := 2) (host := RX7) hC V hl.1 (c_isIn_f l D T tk k57) w_472 (List.mem_of_getElem? (i := 7) rfl) w_2 w_471 (by decide +kernel) rfl ⟨(Nat.le_of_ble_eq_true rfl), (Nat.le_of_ble_eq_true rfl)⟩ [] rfl rfl (Nat.le_of_ble_eq_true rfl) dX0_layFrom_69 ⟨(Nat.le_of_ble_eq_true rfl), (Nat.le_of_ble_eq_true rfl)⟩ rfl (fun r w1 H locs hQ V => ?_)
            rcases hQ with ⟨rfl, rfl, f_6⟩ | ⟨rfl, rfl, f_7⟩
            · have V : gW D T A s [(y0, .inr (0, [.int bv, .ref y1, .ref y2])), (y1, .inl (T 0, 7, .inl ga)), (y2, .inl (T 0, 7, .inl gb)), (a0, .inr (5, [.int (nI an), .int am, .int al, .int ao, .int au, .ref a1, .ref a2, .ref a3, .ref a4, .ref a5, .ref a6, .ref a7, .ref a8, .ref a9, .ref a10])), (a1, .inl (T 0, 10, .inl af1)), (a2, .inl (T 0, 10, .inl af2))] H locs := V _ [] rfl rfl rfl (by decide +kernel) rfl
              show W p l e _ s m args below meth c H locs _ _ _ (F0 m 72 ls [.int (nI 1)])
              refine lv_if_ne (tgt := 139) hx hb dX0_layFrom_72 (by decide) (fun _ => ?_) (fun c => absurd (show (nI 1) = 0 from c) (by decide +kernel))
              refine lv_iinc (v := (nI (k57 + 1))) (lv' := [(5, .int (nI (k57 + 1))), (0, .ref y0), (1, .ref a0), (2, .int (nI 4)), (3, .int tk), (4, .int sum)]) hx hb dX0_layFrom_139 hl (k := 0) rfl (nI_1 _) (by decide) rfl (fun ls hl => ?_)
              refine lv_goto (tgt := 57) hx hb dX0_layFrom_142 (by decide) ?_
              exact ih_57 (k57 + 1) bv ga gb (by omega) hgb (by rw [gck_n (Or.inl ((h_us k57 (by omega)).mp f_6))]; exact hR) (by omega) _ _ _ V (lv_sub hl [0, 1, 2, 3, 4, 5] rfl)
            · have V : gW D T A s [(y0, .inr (0, [.int bv, .ref y1, .ref y2])), (y1, .inl (T 0, 7, .inl ga)), (y2, .inl (T 0, 7, .inl gb)), (a0, .inr (5, [.int (nI an), .int am, .int al, .int ao, .int au, .ref a1, .ref a2, .ref a3, .ref a4, .ref a5, .ref a6, .ref a7, .ref a8, .ref a9, .ref a10])), (a1, .inl (T 0, 10, .inl af1)), (a2, .inl (T 0, 10, .inl af2))] H locs := V _ [] rfl rfl rfl (by decide +kernel) rfl
              show W p l e _ s m args below meth c H locs _ _ _ (F0 m 72 ls [.int (nI 0)])
              refine lv_if_ne (tgt := 139) hx hb dX0_layFrom_72 (by decide) (fun c => absurd (show (nI 0) = 0 by decide +kernel) c) (fun _ => ?_)
              refine lv_aload_n hx hb dX0_layFrom_75 rfl (lv_at hl 1 rfl) ?_
              refine lv_aload_n hx hb dX0_layFrom_76 rfl (lv_at hl 2 rfl) ?_
              refine lv_iload_n hx hb dX0_layFrom_77 rfl (lv_at hl 3 rfl) ?_
              refine lv_iload hx hb dX0_layFrom_78 (lv_at hl 0 rfl) ?_
              refine g_callVU (nA := 3) hC V hl.1 (y_closes_f l D T pp y0 a0 4 k57 bv y1 y2 gb an am al ao au a1 a2 a3 a4 a5 a6 a7 a8 a9 a10 (by first | assumption | omega) (pf_e h_pp (fun j hj => hgb j (by omega))) (fun j h1 h2 => (hgb j h2).trans (h_pm j h1 h2)) (by omega) (by omega)) w_810 w_812 w_s32 w_7 w_813 (by decide +kernel) rfl ⟨(Nat.le_of_ble_eq_true rfl), (Nat.le_of_ble_eq_true rfl)⟩ 0 (ci := 0) rfl rfl [0, 2, 3] rfl rfl (Nat.le_of_ble_eq_true rfl) dX0_layFrom_80 ⟨(Nat.le_of_ble_eq_true rfl), (Nat.le_of_ble_eq_true rfl)⟩ rfl (fun r w1 H locs hQ V => ?_)
              rcases hQ with ⟨rfl, rfl, f_8⟩ | ⟨rfl, rfl, f_9⟩
              · have V : gW D T A s [(y0, .inr (0, [.int bv, .ref y1, .ref y2])), (y1, .inl (T 0, 7, .inl ga)), (y2, .inl (T 0, 7, .inl gb)), (a0, .inr (5, [.int (nI an), .int am, .int al, .int ao, .int au, .ref a1, .ref a2, .ref a3, .ref a4, .ref a5, .ref a6, .ref a7, .ref a8, .ref a9, .ref a10])), (a1, .inl (T 0, 10, .inl af1)), (a2, .inl (T 0, 10, .inl af2))] H locs := V _ [0, 1, 0] rfl rfl rfl (by decide +kernel) rfl
                show W p l e _ s m args below meth c H locs _ _ _ (F0 m 83 ls [.int (nI 1)])
                refine lv_if_ne (tgt := 139) hx hb dX0_layFrom_83 (by decide) (fun _ => ?_) (fun c => absurd (show (nI 1) = 0 from c) (by decide +kernel))
                refine lv_iinc (v := (nI (k57 + 1))) (lv' := [(5, .int (nI (k57 + 1))), (0, .ref y0), (1, .ref a0), (2, .int (nI 4)), (3, .int tk), (4, .int sum)]) hx hb dX0_layFrom_139 hl (k := 0) rfl (nI_1 _) (by decide) rfl (fun ls hl => ?_)
                refine lv_goto (tgt := 57) hx hb dX0_layFrom_142 (by decide) ?_
                exact ih_57 (k57 + 1) bv ga gb (by omega) hgb (by rw [gck_n (Or.inr f_8)]; exact hR) (by omega) _ _ _ V (lv_sub hl [0, 1, 2, 3, 4, 5] rfl)
              · have V : gW D T A s [(y0, .inr (0, [.int bv, .ref y1, .ref y2])), (y1, .inl (T 0, 7, .inl ga)), (y2, .inl (T 0, 7, .inl gb)), (a0, .inr (5, [.int (nI an), .int am, .int al, .int ao, .int au, .ref a1, .ref a2, .ref a3, .ref a4, .ref a5, .ref a6, .ref a7, .ref a8, .ref a9, .ref a10])), (a1, .inl (T 0, 10, .inl af1)), (a2, .inl (T 0, 10, .inl af2))] H locs := V _ [0, 1, 0] rfl rfl rfl (by decide +kernel) rfl
                show W p l e _ s m args below meth c H locs _ _ _ (F0 m 83 ls [.int (nI 0)])
                refine lv_if_ne (tgt := 139) hx hb dX0_layFrom_83 (by decide) (fun c => absurd (show (nI 0) = 0 by decide +kernel) c) (fun _ => ?_)
                refine lv_aload_n hx hb dX0_layFrom_86 rfl (lv_at hl 1 rfl) ?_
                refine g_get hC V (ci := 0) uwX0 0 rfl rfl 2 (by decide) w_215 rfl rfl dX0_layFrom_87 ?_
                refine lv_iload_n hx hb dX0_layFrom_90 rfl (lv_at hl 3 rfl) ?_
                refine lv_iload hx hb dX0_layFrom_91 (lv_at hl 0 rfl) ?_
                refine g_iast hC V 2 rfl (vp_in_nI (by decide) (by decide)) (f' := (upd gb 4 (nI k57))) (by rw [nI_clamp (by decide)]) (ws' := [(y0, .inr (0, [.int bv, .ref y1, .ref y2])), (y1, .inl (T 0, 7, .inl ga)), (y2, .inl (T 0, 7, .inl (upd gb 4 (nI k57)))), (a0, .inr (5, [.int (nI an), .int am, .int al, .int ao, .int au, .ref a1, .ref a2, .ref a3, .ref a4, .ref a5, .ref a6, .ref a7, .ref a8, .ref a9, .ref a10])), (a1, .inl (T 0, 10, .inl af1)), (a2, .inl (T 0, 10, .inl af2))]) rfl dX0_layFrom_93 (fun H locs V => ?_)
                refine lv_aload_n hx hb dX0_layFrom_94 rfl (lv_at hl 2 rfl) ?_
                refine g_get hC V (ci := 5) uwX5 3 rfl rfl 5 (by decide) w_52 rfl rfl dX0_layFrom_95 ?_
                refine lv_iload_n hx hb dX0_layFrom_98 rfl (lv_at hl 3 rfl) ?_
                refine g_iald hC V 4 rfl (vp_in_nI (by decide) (by decide)) (v := (af1 4)) (congrArg _ (nI_clamp (by decide))) dX0_layFrom_99 ?_
                refine lv_aload_n hx hb dX0_layFrom_100 rfl (lv_at hl 2 rfl) ?_
                refine g_get hC V (ci := 5) uwX5 3 rfl rfl 6 (by decide) w_58 rfl rfl dX0_layFrom_101 ?_
                refine lv_iload hx hb dX0_layFrom_104 (lv_at hl 0 rfl) ?_
                refine g_iald hC V 5 rfl (vp_in_nI (by omega) (by omega)) (v := (af2 k57)) (congrArg _ (nI_clamp (by omega))) dX0_layFrom_106 ?_
                refine lv_isub hx hb dX0_layFrom_107 ?_
                refine va_mabs hx hb (hml.trans hl.1.symm) hown (hts _ w_814) (hts _ w_815) (hts _ w_10) (hts _ w_816) (Nat.le_of_ble_eq_true rfl) (Nat.le_of_ble_eq_true rfl) (Nat.le_of_ble_eq_true rfl) (Nat.le_of_ble_eq_true rfl) dX0_layFrom_108 ?_
                refine lv_istore (lv' := [(6, .int (if 0 ≤ ((af1 4) - (af2 k57)) then ((af1 4) - (af2 k57)) else 0 - ((af1 4) - (af2 k57)))), (5, .int (nI k57)), (0, .ref y0), (1, .ref a0), (2, .int (nI 4)), (3, .int tk), (4, .int sum)]) hx hb dX0_layFrom_111 hl (by decide) rfl (fun ls hl => ?_)
                refine lv_aload_n hx hb dX0_layFrom_113 rfl (lv_at hl 2 rfl) ?_
                refine lv_aload_n hx hb dX0_layFrom_114 rfl (lv_at hl 3 rfl) ?_
                refine lv_iload_n hx hb dX0_layFrom_115 rfl (lv_at hl 4 rfl) ?_
                refine lv_iconst (v := (nI 1)) hx hb dX0_layFrom_116 (by decide +kernel) ?_
                refine lv_iadd hx hb dX0_layFrom_117 ?_
                refine g_vi (y := (nI 5)) (by decide +kernel) ?_
                refine lv_iload_n hx hb dX0_layFrom_118 rfl (lv_at hl 5 rfl) ?_
                refine lv_iconst (v := (nI 1)) hx hb dX0_layFrom_119 (by decide +kernel) ?_
                refine lv_iload hx hb dX0_layFrom_120 (lv_at hl 1 rfl) ?_
                refine lv_ishl hx hb dX0_layFrom_122 ?_
                refine lv_ior hx hb dX0_layFrom_123 ?_
                refine lv_iload hx hb dX0_layFrom_124 (lv_at hl 6 rfl) ?_
                refine lv_iload hx hb dX0_layFrom_126 (lv_at hl 0 rfl) ?_
                refine lv_iadd hx hb dX0_layFrom_128 ?_
                refine g_callV (wr := []) (nA := 4) hC V hl.1 (y_layf5 l D T fa (pp ++ [k57]) ((gcK an (an - 5) pp k57).foldl (upC fa) so_) y0 a0 (tk ||| ((nI 1) <<< ((nI k57) &&& 31))) (sum + (if 0 ≤ ((af1 4) - (af2 k57)) then ((af1 4) - (af2 k57)) else 0 - ((af1 4) - (af2 k57)))) bv y1 y2 ga (upd gb 4 (nI k57)) an am al ao au a1 a2 a3 a4 a5 a6 a7 a8 a9 a10 af1 af2 (by first | assumption | omega) (pf_s (pf_e h_pp (fun j hj => hgb j (by omega))) (by omega)) (fun j h1 h2 => (up_other (by omega)).trans ((hgb j h2).trans (h_pm j (by omega) h2))) (us_s h_us (by omega)) (sqz_s h_a (by omega) (by omega) h_sum h_pp.1 (of_c (n := an) (h_s1 4 (by omega)) (h_s2 k57 (by omega)) rfl)) (sqz_b h_a (by omega) (by omega) h_sb h_pp.1) hR (by omega) (by first | assumption | omega) (by first | assumption | omega) (by first | assumption | omega)) w_804 w_806 w_s31 w_7 w_807 (by decide +kernel) rfl ⟨(Nat.le_of_ble_eq_true rfl), (Nat.le_of_ble_eq_true rfl)⟩ 0 (ci := 0) rfl rfl [0, 1, 2, 3, 4, 5] [] rfl rfl rfl rfl (by decide) (Nat.le_of_ble_eq_true rfl) dX0_layFrom_129 ⟨(Nat.le_of_ble_eq_true rfl), (Nat.le_of_ble_eq_true rfl)⟩ rfl (fun r w1 H locs hQ V => ?_)
                obtain ⟨bs_10, g1_11, g2_12, rfl, rfl, f_13, f_14⟩ := hQ
                have V : gW D T A s [(y0, .inr (0, [.int bs_10, .ref y1, .ref y2])), (y1, .inl (T 0, 7, .inl g1_11)), (y2, .inl (T 0, 7, .inl g2_12)), (a0, .inr (5, [.int (nI an), .int am, .int al, .int ao, .int au, .ref a1, .ref a2, .ref a3, .ref a4, .ref a5, .ref a6, .ref a7, .ref a8, .ref a9, .ref a10])), (a1, .inl (T 0, 10, .inl af1)), (a2, .inl (T 0, 10, .inl af2))] H locs := V
                show W p l e _ s m args below meth c H locs _ _ _ (F0 m 132 ls [])
                refine lv_aload_n hx hb dX0_layFrom_132 rfl (lv_at hl 2 rfl) ?_
                refine g_get hC V (ci := 0) uwX0 0 rfl rfl 2 (by decide) w_215 rfl rfl dX0_layFrom_133 ?_
                refine lv_iload_n hx hb dX0_layFrom_136 rfl (lv_at hl 4 rfl) ?_
                refine lv_iconst (v := (-1)) hx hb dX0_layFrom_137 (by decide +kernel) ?_
                refine g_iast hC V 2 rfl (vp_in_nI (by decide) (by decide)) (f' := (upd g2_12 4 (-1))) (by rw [nI_clamp (by decide)]) (ws' := [(y0, .inr (0, [.int bs_10, .ref y1, .ref y2])), (y1, .inl (T 0, 7, .inl g1_11)), (y2, .inl (T 0, 7, .inl (upd g2_12 4 (-1)))), (a0, .inr (5, [.int (nI an), .int am, .int al, .int ao, .int au, .ref a1, .ref a2, .ref a3, .ref a4, .ref a5, .ref a6, .ref a7, .ref a8, .ref a9, .ref a10])), (a1, .inl (T 0, 10, .inl af1)), (a2, .inl (T 0, 10, .inl af2))]) rfl dX0_layFrom_138 (fun H locs V => ?_)
                refine lv_iinc (v := (nI (k57 + 1))) (lv' := [(5, .int (nI (k57 + 1))), (6, .int (if 0 ≤ ((af1 4) - (af2 k57)) then ((af1 4) - (af2 k57)) else 0 - ((af1 4) - (af2 k57)))), (0, .ref y0), (1, .ref a0), (2, .int (nI 4)), (3, .int tk), (4, .int sum)]) hx hb dX0_layFrom_139 hl (k := 1) rfl (nI_1 _) (by decide) rfl (fun ls hl => ?_)
                refine lv_goto (tgt := 57) hx hb dX0_layFrom_142 (by decide) ?_
                exact ih_57 (k57 + 1) bs_10 g1_11 (upd g2_12 4 (-1)) (by omega) (fun j hj => if q : j = 4 then by rw [q, up_same]; exact (h_pm 4 (by omega) (by omega)).symm else (up_other q).trans ((f_14 j hj).trans ((up_other q).trans (hgb j hj)))) (by rw [gck_y (fun q => q.elim (fun r => f_7 ((h_us k57 (by omega)).mpr r)) (fun r => by rw [f_9] at r; cases r)), List.foldl_append]; exact f_13) (by omega) _ _ _ V (lv_sub hl [0, 2, 3, 4, 5, 6] rfl)
      exact L_4 _ 0 ys yb yt (by omega) (fun _ _ => rfl) h_st (Nat.lt_succ_self _) _ _ _ V (lv_sub hl [0, 1, 2, 3, 4, 5] rfl)
  · skip
    refine lv_iload hx hb dX0_layFrom_8 (lv_at hl 4 rfl) ?_
    refine lv_aload_n hx hb dX0_layFrom_10 rfl (lv_at hl 0 rfl) ?_
    refine g_get hC V (ci := 0) uwX0 0 rfl rfl 0 (by decide) w_211 rfl rfl dX0_layFrom_11 ?_
    refine lv_icmp_lt (tgt := 18) hx hb dX0_layFrom_14 (by decide) (fun c_15 => ?_) (fun c_15 => ?_)
    · skip
      refine lv_iload_n hx hb dX0_layFrom_18 rfl (lv_at hl 2 rfl) ?_
      refine lv_aload_n hx hb dX0_layFrom_19 rfl (lv_at hl 1 rfl) ?_
      refine g_get hC V (ci := 5) uwX5 3 rfl rfl 0 (by decide) w_35 rfl rfl dX0_layFrom_20 ?_
      refine lv_icmp_ge (tgt := 32) hx hb dX0_layFrom_23 (by decide) (fun c_16 => ?_) (fun c_16 => ?_)
      · skip
        have c_16 := b_le (by omega) (by omega) c_16
        refine lv_aload_n hx hb dX0_layFrom_32 rfl (lv_at hl 0 rfl) ?_
        refine lv_iload hx hb dX0_layFrom_33 (lv_at hl 4 rfl) ?_
        refine g_put hC V (ci := 0) uwX0 tyX0 tyX0_ok nmX0 0 rfl rfl 0 (by decide) w_211 rfl rfl rfl rfl (Nat.le_of_ble_eq_true rfl) (ws' := [(y0, .inr (0, [.int sum, .ref y1, .ref y2])), (y1, .inl (T 0, 7, .inl yb)), (y2, .inl (T 0, 7, .inl yt)), (a0, .inr (5, [.int (nI an), .int am, .int al, .int ao, .int au, .ref a1, .ref a2, .ref a3, .ref a4, .ref a5, .ref a6, .ref a7, .ref a8, .ref a9, .ref a10])), (a1, .inl (T 0, 10, .inl af1)), (a2, .inl (T 0, 10, .inl af2))]) rfl dX0_layFrom_35 (fun H locs V => ?_)
        refine lv_aload_n hx hb dX0_layFrom_38 rfl (lv_at hl 0 rfl) ?_
        refine g_get hC V (ci := 0) uwX0 0 rfl rfl 2 (by decide) w_215 rfl rfl dX0_layFrom_39 ?_
        refine lv_iconst (v := (nI 0)) hx hb dX0_layFrom_42 (by decide +kernel) ?_
        refine lv_aload_n hx hb dX0_layFrom_43 rfl (lv_at hl 0 rfl) ?_
        refine g_get hC V (ci := 0) uwX0 0 rfl rfl 1 (by decide) w_213 rfl rfl dX0_layFrom_44 ?_
        refine lv_iconst (v := (nI 0)) hx hb dX0_layFrom_47 (by decide +kernel) ?_
        refine lv_bipush (v := (nI 7)) hx hb dX0_layFrom_48 (by decide +kernel) ?_
        refine g_copyf hC V hl.1 w_808 w_672 w_671 w_17 2 1 rfl rfl (by decide +kernel) (by decide +kernel) (Nat.le_of_ble_eq_true rfl) (Nat.le_of_ble_eq_true rfl) (Nat.le_of_ble_eq_true rfl) dX0_layFrom_50 7 (by decide +kernel) (fun g_17 hcp H locs V => ?_)
        have V : gW D T A s [(y0, .inr (0, [.int sum, .ref y1, .ref y2])), (y1, .inl (T 0, 7, .inl g_17)), (y2, .inl (T 0, 7, .inl yt)), (a0, .inr (5, [.int (nI an), .int am, .int al, .int ao, .int au, .ref a1, .ref a2, .ref a3, .ref a4, .ref a5, .ref a6, .ref a7, .ref a8, .ref a9, .ref a10])), (a1, .inl (T 0, 10, .inl af1)), (a2, .inl (T 0, 10, .inl af2))] H locs := V
        exact g_vret (Qr := (q_y_layf4 T fa pp so_ y0 a0 tk sum ys y1 y2 yb yt an am al ao au a1 a2 a3 a4 a5 a6 a7 a8 a9 a10 af1 af2)) hC V ⟨(Nat.le_of_ble_eq_true rfl), (Nat.le_of_ble_eq_true rfl)⟩ ⟨sum, g_17, yt, rfl, rfl, (by rw [show an - 4 = 0 by omega]; exact rs_up h_st h_sum (by omega) (Or.inr c_15) (fun i hi => (hcp i (by omega)).trans (h_pp.2 i (by omega)).1)), (fun _ _ => rfl)⟩ dX0_layFrom_53
      · skip
        have c_16 := b_nle (by omega) (by omega) c_16
        refine lv_iload_n hx hb dX0_layFrom_26 rfl (lv_at hl 2 rfl) ?_
        refine lv_bipush (v := (nI 7)) hx hb dX0_layFrom_27 (by decide +kernel) ?_
        refine lv_icmp_lt (tgt := 54) hx hb dX0_layFrom_29 (by decide) (fun _ => ?_) (fun c => absurd (show (nI 4) < (nI 7) by first | rfl | decide +kernel) c)
        refine lv_iconst (v := (nI 0)) hx hb dX0_layFrom_54 (by decide +kernel) ?_
        refine lv_istore (lv' := [(5, .int (nI 0)), (0, .ref y0), (1, .ref a0), (2, .int (nI 4)), (3, .int tk), (4, .int sum)]) hx hb dX0_layFrom_55 hl (by decide) rfl (fun ls hl => ?_)
        have L_18 : ∀ (fu : Nat) (k57 : Nat) (bv : Int32) (ga : Nat → Int32) (gb : Nat → Int32), k57 ≤ an → (∀ j, j < 7 → gb j = yt j) → RST an fa ((gcK an (an - 5) pp k57).foldl (upC fa) so_) bv ga → an - k57 < fu → ∀ (H : Heap) (locs : List Loc) (ls : Array Slot), gW D T A s [(y0, .inr (0, [.int bv, .ref y1, .ref y2])), (y1, .inl (T 0, 7, .inl ga)), (y2, .inl (T 0, 7, .inl gb)), (a0, .inr (5, [.int (nI an), .int am, .int al, .int ao, .int au, .ref a1, .ref a2, .ref a3, .ref a4, .ref a5, .ref a6, .ref a7, .ref a8, .ref a9, .ref a10])), (a1, .inl (T 0, 10, .inl af1)), (a2, .inl (T 0, 10, .inl af2))] H locs → lv_has ls 7 [(5, .int (nI k57)), (0, .ref y0), (1, .ref a0), (2, .int (nI 4)), (3, .int tk), (4, .int sum)] → W p l e (rmD 5 0 0) s m args below meth c H locs 0 0 (MQ below (gQ D A (q_y_layf4 T fa pp so_ y0 a0 tk sum ys y1 y2 yb yt an am al ao au a1 a2 a3 a4 a5 a6 a7 a8 a9 a10 af1 af2)) args s 0 0 A) (F0 m 57 ls []) := by
          intro fu_57
          induction fu_57 with
          | zero => intro k57 bv ga gb hk57 hgb hR hmu; exact absurd hmu (Nat.not_lt_zero _)
          | succ fu_57 ih_57 =>
            intro k57 bv ga gb hk57 hgb hR hmu_57 H locs ls V hl
            refine lv_iload hx hb dX0_layFrom_57 (lv_at hl 0 rfl) ?_
            refine lv_aload_n hx hb dX0_layFrom_59 rfl (lv_at hl 2 rfl) ?_
            refine g_get hC V (ci := 5) uwX5 3 rfl rfl 0 (by decide) w_35 rfl rfl dX0_layFrom_60 ?_
            refine lv_icmp_ge (tgt := 145) hx hb dX0_layFrom_63 (by decide) (fun c_19 => ?_) (fun c_19 => ?_)
            · skip
              have c_19 := b_le (by omega) (by omega) c_19
              exact g_vret (Qr := (q_y_layf4 T fa pp so_ y0 a0 tk sum ys y1 y2 yb yt an am al ao au a1 a2 a3 a4 a5 a6 a7 a8 a9 a10 af1 af2)) hC V ⟨(Nat.le_of_ble_eq_true rfl), (Nat.le_of_ble_eq_true rfl)⟩ ⟨bv, ga, gb, rfl, rfl, (by rw [show an - 4 = (an - 5) + 1 by omega]; have q := hR; rw [show k57 = an by omega] at q; exact q), hgb⟩ dX0_layFrom_145
            · skip
              have c_19 := b_nle (by omega) (by omega) c_19
              refine lv_iload_n hx hb dX0_layFrom_66 rfl (lv_at hl 4 rfl) ?_
              refine lv_iload hx hb dX0_layFrom_67 (lv_at hl 0 rfl) ?_
              refine g_callSNU (nA := 2) (host := RX7) hC V hl.1 (c_isIn_f l D T tk k57) w_472 (List.mem_of_getElem? (i := 7) rfl) w_2 w_471 (by decide +kernel) rfl ⟨(Nat.le_of_ble_eq_true rfl), (Nat.le_of_ble_eq_true rfl)⟩ [] rfl rfl (Nat.le_of_ble_eq_true rfl) dX0_layFrom_69 ⟨(Nat.le_of_ble_eq_true rfl), (Nat.le_of_ble_eq_true rfl)⟩ rfl (fun r w1 H locs hQ V => ?_)
              rcases hQ with ⟨rfl, rfl, f_20⟩ | ⟨rfl, rfl, f_21⟩
              · have V : gW D T A s [(y0, .inr (0, [.int bv, .ref y1, .ref y2])), (y1, .inl (T 0, 7, .inl ga)), (y2, .inl (T 0, 7, .inl gb)), (a0, .inr (5, [.int (nI an), .int am, .int al, .int ao, .int au, .ref a1, .ref a2, .ref a3, .ref a4, .ref a5, .ref a6, .ref a7, .ref a8, .ref a9, .ref a10])), (a1, .inl (T 0, 10, .inl af1)), (a2, .inl (T 0, 10, .inl af2))] H locs := V _ [] rfl rfl rfl (by decide +kernel) rfl
                show W p l e _ s m args below meth c H locs _ _ _ (F0 m 72 ls [.int (nI 1)])
                refine lv_if_ne (tgt := 139) hx hb dX0_layFrom_72 (by decide) (fun _ => ?_) (fun c => absurd (show (nI 1) = 0 from c) (by decide +kernel))
                refine lv_iinc (v := (nI (k57 + 1))) (lv' := [(5, .int (nI (k57 + 1))), (0, .ref y0), (1, .ref a0), (2, .int (nI 4)), (3, .int tk), (4, .int sum)]) hx hb dX0_layFrom_139 hl (k := 0) rfl (nI_1 _) (by decide) rfl (fun ls hl => ?_)
                refine lv_goto (tgt := 57) hx hb dX0_layFrom_142 (by decide) ?_
                exact ih_57 (k57 + 1) bv ga gb (by omega) hgb (by rw [gck_n (Or.inl ((h_us k57 (by omega)).mp f_20))]; exact hR) (by omega) _ _ _ V (lv_sub hl [0, 1, 2, 3, 4, 5] rfl)
              · have V : gW D T A s [(y0, .inr (0, [.int bv, .ref y1, .ref y2])), (y1, .inl (T 0, 7, .inl ga)), (y2, .inl (T 0, 7, .inl gb)), (a0, .inr (5, [.int (nI an), .int am, .int al, .int ao, .int au, .ref a1, .ref a2, .ref a3, .ref a4, .ref a5, .ref a6, .ref a7, .ref a8, .ref a9, .ref a10])), (a1, .inl (T 0, 10, .inl af1)), (a2, .inl (T 0, 10, .inl af2))] H locs := V _ [] rfl rfl rfl (by decide +kernel) rfl
                show W p l e _ s m args below meth c H locs _ _ _ (F0 m 72 ls [.int (nI 0)])
                refine lv_if_ne (tgt := 139) hx hb dX0_layFrom_72 (by decide) (fun c => absurd (show (nI 0) = 0 by decide +kernel) c) (fun _ => ?_)
                refine lv_aload_n hx hb dX0_layFrom_75 rfl (lv_at hl 1 rfl) ?_
                refine lv_aload_n hx hb dX0_layFrom_76 rfl (lv_at hl 2 rfl) ?_
                refine lv_iload_n hx hb dX0_layFrom_77 rfl (lv_at hl 3 rfl) ?_
                refine lv_iload hx hb dX0_layFrom_78 (lv_at hl 0 rfl) ?_
                refine g_callVU (nA := 3) hC V hl.1 (y_closes_f l D T pp y0 a0 4 k57 bv y1 y2 gb an am al ao au a1 a2 a3 a4 a5 a6 a7 a8 a9 a10 (by first | assumption | omega) (pf_e h_pp (fun j hj => hgb j (by omega))) (fun j h1 h2 => (hgb j h2).trans (h_pm j h1 h2)) (by omega) (by omega)) w_810 w_812 w_s32 w_7 w_813 (by decide +kernel) rfl ⟨(Nat.le_of_ble_eq_true rfl), (Nat.le_of_ble_eq_true rfl)⟩ 0 (ci := 0) rfl rfl [0, 2, 3] rfl rfl (Nat.le_of_ble_eq_true rfl) dX0_layFrom_80 ⟨(Nat.le_of_ble_eq_true rfl), (Nat.le_of_ble_eq_true rfl)⟩ rfl (fun r w1 H locs hQ V => ?_)
                rcases hQ with ⟨rfl, rfl, f_22⟩ | ⟨rfl, rfl, f_23⟩
                · have V : gW D T A s [(y0, .inr (0, [.int bv, .ref y1, .ref y2])), (y1, .inl (T 0, 7, .inl ga)), (y2, .inl (T 0, 7, .inl gb)), (a0, .inr (5, [.int (nI an), .int am, .int al, .int ao, .int au, .ref a1, .ref a2, .ref a3, .ref a4, .ref a5, .ref a6, .ref a7, .ref a8, .ref a9, .ref a10])), (a1, .inl (T 0, 10, .inl af1)), (a2, .inl (T 0, 10, .inl af2))] H locs := V _ [0, 1, 0] rfl rfl rfl (by decide +kernel) rfl
                  show W p l e _ s m args below meth c H locs _ _ _ (F0 m 83 ls [.int (nI 1)])
                  refine lv_if_ne (tgt := 139) hx hb dX0_layFrom_83 (by decide) (fun _ => ?_) (fun c => absurd (show (nI 1) = 0 from c) (by decide +kernel))
                  refine lv_iinc (v := (nI (k57 + 1))) (lv' := [(5, .int (nI (k57 + 1))), (0, .ref y0), (1, .ref a0), (2, .int (nI 4)), (3, .int tk), (4, .int sum)]) hx hb dX0_layFrom_139 hl (k := 0) rfl (nI_1 _) (by decide) rfl (fun ls hl => ?_)
                  refine lv_goto (tgt := 57) hx hb dX0_layFrom_142 (by decide) ?_
                  exact ih_57 (k57 + 1) bv ga gb (by omega) hgb (by rw [gck_n (Or.inr f_22)]; exact hR) (by omega) _ _ _ V (lv_sub hl [0, 1, 2, 3, 4, 5] rfl)
                · have V : gW D T A s [(y0, .inr (0, [.int bv, .ref y1, .ref y2])), (y1, .inl (T 0, 7, .inl ga)), (y2, .inl (T 0, 7, .inl gb)), (a0, .inr (5, [.int (nI an), .int am, .int al, .int ao, .int au, .ref a1, .ref a2, .ref a3, .ref a4, .ref a5, .ref a6, .ref a7, .ref a8, .ref a9, .ref a10])), (a1, .inl (T 0, 10, .inl af1)), (a2, .inl (T 0, 10, .inl af2))] H locs := V _ [0, 1, 0] rfl rfl rfl (by decide +kernel) rfl
                  show W p l e _ s m args below meth c H locs _ _ _ (F0 m 83 ls [.int (nI 0)])
                  refine lv_if_ne (tgt := 139) hx hb dX0_layFrom_83 (by decide) (fun c => absurd (show (nI 0) = 0 by decide +kernel) c) (fun _ => ?_)
                  refine lv_aload_n hx hb dX0_layFrom_86 rfl (lv_at hl 1 rfl) ?_
                  refine g_get hC V (ci := 0) uwX0 0 rfl rfl 2 (by decide) w_215 rfl rfl dX0_layFrom_87 ?_
                  refine lv_iload_n hx hb dX0_layFrom_90 rfl (lv_at hl 3 rfl) ?_
                  refine lv_iload hx hb dX0_layFrom_91 (lv_at hl 0 rfl) ?_
                  refine g_iast hC V 2 rfl (vp_in_nI (by decide) (by decide)) (f' := (upd gb 4 (nI k57))) (by rw [nI_clamp (by decide)]) (ws' := [(y0, .inr (0, [.int bv, .ref y1, .ref y2])), (y1, .inl (T 0, 7, .inl ga)), (y2, .inl (T 0, 7, .inl (upd gb 4 (nI k57)))), (a0, .inr (5, [.int (nI an), .int am, .int al, .int ao, .int au, .ref a1, .ref a2, .ref a3, .ref a4, .ref a5, .ref a6, .ref a7, .ref a8, .ref a9, .ref a10])), (a1, .inl (T 0, 10, .inl af1)), (a2, .inl (T 0, 10, .inl af2))]) rfl dX0_layFrom_93 (fun H locs V => ?_)
                  refine lv_aload_n hx hb dX0_layFrom_94 rfl (lv_at hl 2 rfl) ?_
                  refine g_get hC V (ci := 5) uwX5 3 rfl rfl 5 (by decide) w_52 rfl rfl dX0_layFrom_95 ?_
                  refine lv_iload_n hx hb dX0_layFrom_98 rfl (lv_at hl 3 rfl) ?_
                  refine g_iald hC V 4 rfl (vp_in_nI (by decide) (by decide)) (v := (af1 4)) (congrArg _ (nI_clamp (by decide))) dX0_layFrom_99 ?_
                  refine lv_aload_n hx hb dX0_layFrom_100 rfl (lv_at hl 2 rfl) ?_
                  refine g_get hC V (ci := 5) uwX5 3 rfl rfl 6 (by decide) w_58 rfl rfl dX0_layFrom_101 ?_
                  refine lv_iload hx hb dX0_layFrom_104 (lv_at hl 0 rfl) ?_
                  refine g_iald hC V 5 rfl (vp_in_nI (by omega) (by omega)) (v := (af2 k57)) (congrArg _ (nI_clamp (by omega))) dX0_layFrom_106 ?_
                  refine lv_isub hx hb dX0_layFrom_107 ?_
                  refine va_mabs hx hb (hml.trans hl.1.symm) hown (hts _ w_814) (hts _ w_815) (hts _ w_10) (hts _ w_816) (Nat.le_of_ble_eq_true rfl) (Nat.le_of_ble_eq_true rfl) (Nat.le_of_ble_eq_true rfl) (Nat.le_of_ble_eq_true rfl) dX0_layFrom_108 ?_
                  refine lv_istore (lv' := [(6, .int (if 0 ≤ ((af1 4) - (af2 k57)) then ((af1 4) - (af2 k57)) else 0 - ((af1 4) - (af2 k57)))), (5, .int (nI k57)), (0, .ref y0), (1, .ref a0), (2, .int (nI 4)), (3, .int tk), (4, .int sum)]) hx hb dX0_layFrom_111 hl (by decide) rfl (fun ls hl => ?_)
                  refine lv_aload_n hx hb dX0_layFrom_113 rfl (lv_at hl 2 rfl) ?_
                  refine lv_aload_n hx hb dX0_layFrom_114 rfl (lv_at hl 3 rfl) ?_
                  refine lv_iload_n hx hb dX0_layFrom_115 rfl (lv_at hl 4 rfl) ?_
                  refine lv_iconst (v := (nI 1)) hx hb dX0_layFrom_116 (by decide +kernel) ?_
                  refine lv_iadd hx hb dX0_layFrom_117 ?_
                  refine g_vi (y := (nI 5)) (by decide +kernel) ?_
                  refine lv_iload_n hx hb dX0_layFrom_118 rfl (lv_at hl 5 rfl) ?_
                  refine lv_iconst (v := (nI 1)) hx hb dX0_layFrom_119 (by decide +kernel) ?_
                  refine lv_iload hx hb dX0_layFrom_120 (lv_at hl 1 rfl) ?_
                  refine lv_ishl hx hb dX0_layFrom_122 ?_
                  refine lv_ior hx hb dX0_layFrom_123 ?_
                  refine lv_iload hx hb dX0_layFrom_124 (lv_at hl 6 rfl) ?_
                  refine lv_iload hx hb dX0_layFrom_126 (lv_at hl 0 rfl) ?_
                  refine lv_iadd hx hb dX0_layFrom_128 ?_
                  refine g_callV (wr := []) (nA := 4) hC V hl.1 (y_layf5 l D T fa (pp ++ [k57]) ((gcK an (an - 5) pp k57).foldl (upC fa) so_) y0 a0 (tk ||| ((nI 1) <<< ((nI k57) &&& 31))) (sum + (if 0 ≤ ((af1 4) - (af2 k57)) then ((af1 4) - (af2 k57)) else 0 - ((af1 4) - (af2 k57)))) bv y1 y2 ga (upd gb 4 (nI k57)) an am al ao au a1 a2 a3 a4 a5 a6 a7 a8 a9 a10 af1 af2 (by first | assumption | omega) (pf_s (pf_e h_pp (fun j hj => hgb j (by omega))) (by omega)) (fun j h1 h2 => (up_other (by omega)).trans ((hgb j h2).trans (h_pm j (by omega) h2))) (us_s h_us (by omega)) (sqz_s h_a (by omega) (by omega) h_sum h_pp.1 (of_c (n := an) (h_s1 4 (by omega)) (h_s2 k57 (by omega)) rfl)) (sqz_b h_a (by omega) (by omega) h_sb h_pp.1) hR (by omega) (by first | assumption | omega) (by first | assumption | omega) (by first | assumption | omega)) w_804 w_806 w_s31 w_7 w_807 (by decide +kernel) rfl ⟨(Nat.le_of_ble_eq_true rfl), (Nat.le_of_ble_eq_true rfl)⟩ 0 (ci := 0) rfl rfl [0, 1, 2, 3, 4, 5] [] rfl rfl rfl rfl (by decide) (Nat.le_of_ble_eq_true rfl) dX0_layFrom_129 ⟨(Nat.le_of_ble_eq_true rfl), (Nat.le_of_ble_eq_true rfl)⟩ rfl (fun r w1 H locs hQ V => ?_)
                  obtain ⟨bs_24, g1_25, g2_26, rfl, rfl, f_27, f_28⟩ := hQ
                  have V : gW D T A s [(y0, .inr (0, [.int bs_24, .ref y1, .ref y2])), (y1, .inl (T 0, 7, .inl g1_25)), (y2, .inl (T 0, 7, .inl g2_26)), (a0, .inr (5, [.int (nI an), .int am, .int al, .int ao, .int au, .ref a1, .ref a2, .ref a3, .ref a4, .ref a5, .ref a6, .ref a7, .ref a8, .ref a9, .ref a10])), (a1, .inl (T 0, 10, .inl af1)), (a2, .inl (T 0, 10, .inl af2))] H locs := V
                  show W p l e _ s m args below meth c H locs _ _ _ (F0 m 132 ls [])
                  refine lv_aload_n hx hb dX0_layFrom_132 rfl (lv_at hl 2 rfl) ?_
                  refine g_get hC V (ci := 0) uwX0 0 rfl rfl 2 (by decide) w_215 rfl rfl dX0_layFrom_133 ?_
                  refine lv_iload_n hx hb dX0_layFrom_136 rfl (lv_at hl 4 rfl) ?_
                  refine lv_iconst (v := (-1)) hx hb dX0_layFrom_137 (by decide +kernel) ?_
                  refine g_iast hC V 2 rfl (vp_in_nI (by decide) (by decide)) (f' := (upd g2_26 4 (-1))) (by rw [nI_clamp (by decide)]) (ws' := [(y0, .inr (0, [.int bs_24, .ref y1, .ref y2])), (y1, .inl (T 0, 7, .inl g1_25)), (y2, .inl (T 0, 7, .inl (upd g2_26 4 (-1)))), (a0, .inr (5, [.int (nI an), .int am, .int al, .int ao, .int au, .ref a1, .ref a2, .ref a3, .ref a4, .ref a5, .ref a6, .ref a7, .ref a8, .ref a9, .ref a10])), (a1, .inl (T 0, 10, .inl af1)), (a2, .inl (T 0, 10, .inl af2))]) rfl dX0_layFrom_138 (fun H locs V => ?_)
                  refine lv_iinc (v := (nI (k57 + 1))) (lv' := [(5, .int (nI (k57 + 1))), (6, .int (if 0 ≤ ((af1 4) - (af2 k57)) then ((af1 4) - (af2 k57)) else 0 - ((af1 4) - (af2 k57)))), (0, .ref y0), (1, .ref a0), (2, .int (nI 4)), (3, .int tk), (4, .int sum)]) hx hb dX0_layFrom_139 hl (k := 1) rfl (nI_1 _) (by decide) rfl (fun ls hl => ?_)
                  refine lv_goto (tgt := 57) hx hb dX0_layFrom_142 (by decide) ?_
                  exact ih_57 (k57 + 1) bs_24 g1_25 (upd g2_26 4 (-1)) (by omega) (fun j hj => if q : j = 4 then by rw [q, up_same]; exact (h_pm 4 (by omega) (by omega)).symm else (up_other q).trans ((f_28 j hj).trans ((up_other q).trans (hgb j hj)))) (by rw [gck_y (fun q => q.elim (fun r => f_21 ((h_us k57 (by omega)).mpr r)) (fun r => by rw [f_23] at r; cases r)), List.foldl_append]; exact f_27) (by omega) _ _ _ V (lv_sub hl [0, 2, 3, 4, 5, 6] rfl)
        exact L_18 _ 0 ys yb yt (by omega) (fun _ _ => rfl) h_st (Nat.lt_succ_self _) _ _ _ V (lv_sub hl [0, 1, 2, 3, 4, 5] rfl)
    · skip
      exact g_vret (Qr := (q_y_layf4 T fa pp so_ y0 a0 tk sum ys y1 y2 yb yt an am al ao au a1 a2 a3 a4 a5 a6 a7 a8 a9 a10 af1 af2)) hC V ⟨(Nat.le_of_ble_eq_true rfl), (Nat.le_of_ble_eq_true rfl)⟩ ⟨ys, yb, yt, rfl, rfl, (rs_pr h_st c_1 h_sum (by omega) c_15), (fun _ _ => rfl)⟩ dX0_layFrom_17

def q_y_layf3 (T : Nat → ClassId) (fa : Nat → Int32) (pp : List Nat) (so_ : Option (List Nat)) (y0 : Nat) (a0 : Nat) (tk : Int32) (sum : Int32) (ys : Int32) (y1 : Nat) (y2 : Nat) (yb : Nat → Int32) (yt : Nat → Int32) (an : Nat) (am : Int32) (al : Int32) (ao : Int32) (au : Int32) (a1 : Nat) (a2 : Nat) (a3 : Nat) (a4 : Nat) (a5 : Nat) (a6 : Nat) (a7 : Nat) (a8 : Nat) (a9 : Nat) (a10 : Nat) (af1 : Nat → Int32) (af2 : Nat → Int32) : Option Value → va_W → Prop := fun rr ww => (∃ (bs : Int32) (g1 : Nat → Int32) (g2 : Nat → Int32), rr = none ∧ ww = [(y0, .inr (0, [.int bs, .ref y1, .ref y2])), (y1, .inl (T 0, 7, .inl g1)), (y2, .inl (T 0, 7, .inl g2)), (a0, .inr (5, [.int (nI an), .int am, .int al, .int ao, .int au, .ref a1, .ref a2, .ref a3, .ref a4, .ref a5, .ref a6, .ref a7, .ref a8, .ref a9, .ref a10])), (a1, .inl (T 0, 10, .inl af1)), (a2, .inl (T 0, 10, .inl af2))] ∧ RST an fa ((gC an (an - 3) pp).foldl (upC fa) so_) bs g1 ∧ (∀ j, j < 7 → g2 j = yt j))
set_option maxHeartbeats 4000000 in
set_option maxRecDepth 100000 in
theorem y_layf3 (l : Launch) (D : va_G) (T : Nat → ClassId) (fa : Nat → Int32) (pp : List Nat) (so_ : Option (List Nat)) (y0 : Nat) (a0 : Nat) (tk : Int32) (sum : Int32) (ys : Int32) (y1 : Nat) (y2 : Nat) (yb : Nat → Int32) (yt : Nat → Int32) (an : Nat) (am : Int32) (al : Int32) (ao : Int32) (au : Int32) (a1 : Nat) (a2 : Nat) (a3 : Nat) (a4 : Nat) (a5 : Nat) (a6 : Nat) (a7 : Nat) (a8 : Nat) (a9 : Nat) (a10 : Nat) (af1 : Nat → Int32) (af2 : Nat → Int32) (h_n : an ≤ 7) (h_pp : PFX an pp 3 yt) (h_pm : ∀ j, 3 ≤ j → j < 7 → yt j = -1) (h_us : USE pp tk) (h_sum : sum = nI (smL fa 0 pp)) (h_sb : smL fa 0 pp ≤ 60 * 3) (h_st : RST an fa so_ ys yb) (h_kn : 3 ≤ an) (h_a : MI an fa) (h_s1 : ∀ i, i < an → af1 i = fa (4 + i)) (h_s2 : ∀ i, i < an → af2 i = fa (14 + i)) : Ct l yX0_layFrom cX0_layFrom 7 none 6 0 0 D T [.ref y0, .ref a0, .int (nI 3), .int tk, .int sum] [(y0, .inr (0, [.int ys, .ref y1, .ref y2])), (y1, .inl (T 0, 7, .inl yb)), (y2, .inl (T 0, 7, .inl yt)), (a0, .inr (5, [.int (nI an), .int am, .int al, .int ao, .int au, .ref a1, .ref a2, .ref a3, .ref a4, .ref a5, .ref a6, .ref a7, .ref a8, .ref a9, .ref a10])), (a1, .inl (T 0, 10, .inl af1)), (a2, .inl (T 0, 10, .inl af2))] (q_y_layf3 T fa pp so_ y0 a0 tk sum ys y1 y2 yb yt an am al ao au a1 a2 a3 a4 a5 a6 a7 a8 a9 a10 af1 af2) := by
  refine Ct.of (cc := cX0_layFrom) (maxL := 7) (ret := none) (by decide) (Nat.le_of_ble_eq_true rfl) ?_
  intro p e s m args below meth c A ls hC hnm V hl
  obtain ⟨hx, hb, hr, hml, hown, hts, hlocks⟩ := id hC
  generalize hH : s.heap = H at V ⊢
  clear hH
  have hl : lv_has ls 7 [(0, .ref y0), (1, .ref a0), (2, .int (nI 3)), (3, .int tk), (4, .int sum)] := hl
  generalize hlo : ([] : List Loc) = locs at V ⊢
  clear hlo
  refine lv_aload_n hx hb dX0_layFrom_0 rfl (lv_at hl 0 rfl) ?_
  refine g_get hC V (ci := 0) uwX0 0 rfl rfl 0 (by decide) w_211 rfl rfl dX0_layFrom_1 ?_
  refine lv_iconst (v := (-1)) hx hb dX0_layFrom_4 (by decide +kernel) ?_
  refine lv_icmp_eq (tgt := 18) hx hb dX0_layFrom_5 (by decide) (fun c_1 => ?_) (fun c_1 => ?_)
  · skip
    refine lv_iload_n hx hb dX0_layFrom_18 rfl (lv_at hl 2 rfl) ?_
    refine lv_aload_n hx hb dX0_layFrom_19 rfl (lv_at hl 1 rfl) ?_
    refine g_get hC V (ci := 5) uwX5 3 rfl rfl 0 (by decide) w_35 rfl rfl dX0_layFrom_20 ?_
    refine lv_icmp_ge (tgt := 32) hx hb dX0_layFrom_23 (by decide) (fun c_2 => ?_) (fun c_2 => ?_)
    · skip
      have c_2 := b_le (by omega) (by omega) c_2
      refine lv_aload_n hx hb dX0_layFrom_32 rfl (lv_at hl 0 rfl) ?_
      refine lv_iload hx hb dX0_layFrom_33 (lv_at hl 4 rfl) ?_
      refine g_put hC V (ci := 0) uwX0 tyX0 tyX0_ok nmX0 0 rfl rfl 0 (by decide) w_211 rfl rfl rfl rfl (Nat.le_of_ble_eq_true rfl) (ws' := [(y0, .inr (0, [.int sum, .ref y1, .ref y2])), (y1, .inl (T 0, 7, .inl yb)), (y2, .inl (T 0, 7, .inl yt)), (a0, .inr (5, [.int (nI an), .int am, .int al, .int ao, .int au, .ref a1, .ref a2, .ref a3, .ref a4, .ref a5, .ref a6, .ref a7, .ref a8, .ref a9, .ref a10])), (a1, .inl (T 0, 10, .inl af1)), (a2, .inl (T 0, 10, .inl af2))]) rfl dX0_layFrom_35 (fun H locs V => ?_)
      refine lv_aload_n hx hb dX0_layFrom_38 rfl (lv_at hl 0 rfl) ?_
      refine g_get hC V (ci := 0) uwX0 0 rfl rfl 2 (by decide) w_215 rfl rfl dX0_layFrom_39 ?_
      refine lv_iconst (v := (nI 0)) hx hb dX0_layFrom_42 (by decide +kernel) ?_
      refine lv_aload_n hx hb dX0_layFrom_43 rfl (lv_at hl 0 rfl) ?_
      refine g_get hC V (ci := 0) uwX0 0 rfl rfl 1 (by decide) w_213 rfl rfl dX0_layFrom_44 ?_
      refine lv_iconst (v := (nI 0)) hx hb dX0_layFrom_47 (by decide +kernel) ?_
      refine lv_bipush (v := (nI 7)) hx hb dX0_layFrom_48 (by decide +kernel) ?_
      refine g_copyf hC V hl.1 w_808 w_672 w_671 w_17 2 1 rfl rfl (by decide +kernel) (by decide +kernel) (Nat.le_of_ble_eq_true rfl) (Nat.le_of_ble_eq_true rfl) (Nat.le_of_ble_eq_true rfl) dX0_layFrom_50 7 (by decide +kernel) (fun g_3 hcp H locs V => ?_)
      have V : gW D T A s [(y0, .inr (0, [.int sum, .ref y1, .ref y2])), (y1, .inl (T 0, 7, .inl g_3)), (y2, .inl (T 0, 7, .inl yt)), (a0, .inr (5, [.int (nI an), .int am, .int al, .int ao, .int au, .ref a1, .ref a2, .ref a3, .ref a4, .ref a5, .ref a6, .ref a7, .ref a8, .ref a9, .ref a10])), (a1, .inl (T 0, 10, .inl af1)), (a2, .inl (T 0, 10, .inl af2))] H locs := V
      exact g_vret (Qr := (q_y_layf3 T fa pp so_ y0 a0 tk sum ys y1 y2 yb yt an am al ao au a1 a2 a3 a4 a5 a6 a7 a8 a9 a10 af1 af2)) hC V ⟨(Nat.le_of_ble_eq_true rfl), (Nat.le_of_ble_eq_true rfl)⟩ ⟨sum, g_3, yt, rfl, rfl, (by rw [show an - 3 = 0 by omega]; exact rs_up h_st h_sum (by omega) (Or.inl c_1) (fun i hi => (hcp i (by omega)).trans (h_pp.2 i (by omega)).1)), (fun _ _ => rfl)⟩ dX0_layFrom_53
    · skip
      have c_2 := b_nle (by omega) (by omega) c_2
      refine lv_iload_n hx hb dX0_layFrom_26 rfl (lv_at hl 2 rfl) ?_
      refine lv_bipush (v := (nI 7)) hx hb dX0_layFrom_27 (by decide +kernel) ?_
      refine lv_icmp_lt (tgt := 54) hx hb dX0_layFrom_29 (by decide) (fun _ => ?_) (fun c => absurd (show (nI 3) < (nI 7) by first | rfl | decide +kernel) c)
      refine lv_iconst (v := (nI 0)) hx hb dX0_layFrom_54 (by decide +kernel) ?_
      refine lv_istore (lv' := [(5, .int (nI 0)), (0, .ref y0), (1, .ref a0), (2, .int (nI 3)), (3, .int tk), (4, .int sum)]) hx hb dX0_layFrom_55 hl (by decide) rfl (fun ls hl => ?_)
      have L_4 : ∀ (fu : Nat) (k57 : Nat) (bv : Int32) (ga : Nat → Int32) (gb : Nat → Int32), k57 ≤ an → (∀ j, j < 7 → gb j = yt j) → RST an fa ((gcK an (an - 4) pp k57).foldl (upC fa) so_) bv ga → an - k57 < fu → ∀ (H : Heap) (locs : List Loc) (ls : Array Slot), gW D T A s [(y0, .inr (0, [.int bv, .ref y1, .ref y2])), (y1, .inl (T 0, 7, .inl ga)), (y2, .inl (T 0, 7, .inl gb)), (a0, .inr (5, [.int (nI an), .int am, .int al, .int ao, .int au, .ref a1, .ref a2, .ref a3, .ref a4, .ref a5, .ref a6, .ref a7, .ref a8, .ref a9, .ref a10])), (a1, .inl (T 0, 10, .inl af1)), (a2, .inl (T 0, 10, .inl af2))] H locs → lv_has ls 7 [(5, .int (nI k57)), (0, .ref y0), (1, .ref a0), (2, .int (nI 3)), (3, .int tk), (4, .int sum)] → W p l e (rmD 6 0 0) s m args below meth c H locs 0 0 (MQ below (gQ D A (q_y_layf3 T fa pp so_ y0 a0 tk sum ys y1 y2 yb yt an am al ao au a1 a2 a3 a4 a5 a6 a7 a8 a9 a10 af1 af2)) args s 0 0 A) (F0 m 57 ls []) := by
        intro fu_57
        induction fu_57 with
        | zero => intro k57 bv ga gb hk57 hgb hR hmu; exact absurd hmu (Nat.not_lt_zero _)
        | succ fu_57 ih_57 =>
          intro k57 bv ga gb hk57 hgb hR hmu_57 H locs ls V hl
          refine lv_iload hx hb dX0_layFrom_57 (lv_at hl 0 rfl) ?_
          refine lv_aload_n hx hb dX0_layFrom_59 rfl (lv_at hl 2 rfl) ?_
          refine g_get hC V (ci := 5) uwX5 3 rfl rfl 0 (by decide) w_35 rfl rfl dX0_layFrom_60 ?_
          refine lv_icmp_ge (tgt := 145) hx hb dX0_layFrom_63 (by decide) (fun c_5 => ?_) (fun c_5 => ?_)
          · skip
            have c_5 := b_le (by omega) (by omega) c_5
            exact g_vret (Qr := (q_y_layf3 T fa pp so_ y0 a0 tk sum ys y1 y2 yb yt an am al ao au a1 a2 a3 a4 a5 a6 a7 a8 a9 a10 af1 af2)) hC V ⟨(Nat.le_of_ble_eq_true rfl), (Nat.le_of_ble_eq_true rfl)⟩ ⟨bv, ga, gb, rfl, rfl, (by rw [show an - 3 = (an - 4) + 1 by omega]; have q := hR; rw [show k57 = an by omega] at q; exact q), hgb⟩ dX0_layFrom_145
          · skip
            have c_5 := b_nle (by omega) (by omega) c_5
            refine lv_iload_n hx hb dX0_layFrom_66 rfl (lv_at hl 4 rfl) ?_
            refine lv_iload hx hb dX0_layFrom_67 (lv_at hl 0 rfl) ?_
            refine g_callSNU (nA := 2) (host := RX7) hC V hl.1 (c_isIn_f l D T tk k57) w_472 (List.mem_of_getElem? (i := 7) rfl) w_2 w_471 (by decide +kernel) rfl ⟨(Nat.le_of_ble_eq_true rfl), (Nat.le_of_ble_eq_true rfl)⟩ [] rfl rfl (Nat.le_of_ble_eq_true rfl) dX0_layFrom_69 ⟨(Nat.le_of_ble_eq_true rfl), (Nat.le_of_ble_eq_true rfl)⟩ rfl (fun r w1 H locs hQ V => ?_)
            rcases hQ with ⟨rfl, rfl, f_6⟩ | ⟨rfl, rfl, f_7⟩
            · have V : gW D T A s [(y0, .inr (0, [.int bv, .ref y1, .ref y2])), (y1, .inl (T 0, 7, .inl ga)), (y2, .inl (T 0, 7, .inl gb)), (a0, .inr (5, [.int (nI an), .int am, .int al, .int ao, .int au, .ref a1, .ref a2, .ref a3, .ref a4, .ref a5, .ref a6, .ref a7, .ref a8, .ref a9, .ref a10])), (a1, .inl (T 0, 10, .inl af1)), (a2, .inl (T 0, 10, .inl af2))] H locs := V _ [] rfl rfl rfl (by decide +kernel) rfl
              show W p l e _ s m args below meth c H locs _ _ _ (F0 m 72 ls [.int (nI 1)])
              refine lv_if_ne (tgt := 139) hx hb dX0_layFrom_72 (by decide) (fun _ => ?_) (fun c => absurd (show (nI 1) = 0 from c) (by decide +kernel))
              refine lv_iinc (v := (nI (k57 + 1))) (lv' := [(5, .int (nI (k57 + 1))), (0, .ref y0), (1, .ref a0), (2, .int (nI 3)), (3, .int tk), (4, .int sum)]) hx hb dX0_layFrom_139 hl (k := 0) rfl (nI_1 _) (by decide) rfl (fun ls hl => ?_)
              refine lv_goto (tgt := 57) hx hb dX0_layFrom_142 (by decide) ?_
              exact ih_57 (k57 + 1) bv ga gb (by omega) hgb (by rw [gck_n (Or.inl ((h_us k57 (by omega)).mp f_6))]; exact hR) (by omega) _ _ _ V (lv_sub hl [0, 1, 2, 3, 4, 5] rfl)
            · have V : gW D T A s [(y0, .inr (0, [.int bv, .ref y1, .ref y2])), (y1, .inl (T 0, 7, .inl ga)), (y2, .inl (T 0, 7, .inl gb)), (a0, .inr (5, [.int (nI an), .int am, .int al, .int ao, .int au, .ref a1, .ref a2, .ref a3, .ref a4, .ref a5, .ref a6, .ref a7, .ref a8, .ref a9, .ref a10])), (a1, .inl (T 0, 10, .inl af1)), (a2, .inl (T 0, 10, .inl af2))] H locs := V _ [] rfl rfl rfl (by decide +kernel) rfl
              show W p l e _ s m args below meth c H locs _ _ _ (F0 m 72 ls [.int (nI 0)])
              refine lv_if_ne (tgt := 139) hx hb dX0_layFrom_72 (by decide) (fun c => absurd (show (nI 0) = 0 by decide +kernel) c) (fun _ => ?_)
              refine lv_aload_n hx hb dX0_layFrom_75 rfl (lv_at hl 1 rfl) ?_
              refine lv_aload_n hx hb dX0_layFrom_76 rfl (lv_at hl 2 rfl) ?_
              refine lv_iload_n hx hb dX0_layFrom_77 rfl (lv_at hl 3 rfl) ?_
              refine lv_iload hx hb dX0_layFrom_78 (lv_at hl 0 rfl) ?_
              refine g_callVU (nA := 3) hC V hl.1 (y_closes_f l D T pp y0 a0 3 k57 bv y1 y2 gb an am al ao au a1 a2 a3 a4 a5 a6 a7 a8 a9 a10 (by first | assumption | omega) (pf_e h_pp (fun j hj => hgb j (by omega))) (fun j h1 h2 => (hgb j h2).trans (h_pm j h1 h2)) (by omega) (by omega)) w_810 w_812 w_s32 w_7 w_813 (by decide +kernel) rfl ⟨(Nat.le_of_ble_eq_true rfl), (Nat.le_of_ble_eq_true rfl)⟩ 0 (ci := 0) rfl rfl [0, 2, 3] rfl rfl (Nat.le_of_ble_eq_true rfl) dX0_layFrom_80 ⟨(Nat.le_of_ble_eq_true rfl), (Nat.le_of_ble_eq_true rfl)⟩ rfl (fun r w1 H locs hQ V => ?_)
              rcases hQ with ⟨rfl, rfl, f_8⟩ | ⟨rfl, rfl, f_9⟩
              · have V : gW D T A s [(y0, .inr (0, [.int bv, .ref y1, .ref y2])), (y1, .inl (T 0, 7, .inl ga)), (y2, .inl (T 0, 7, .inl gb)), (a0, .inr (5, [.int (nI an), .int am, .int al, .int ao, .int au, .ref a1, .ref a2, .ref a3, .ref a4, .ref a5, .ref a6, .ref a7, .ref a8, .ref a9, .ref a10])), (a1, .inl (T 0, 10, .inl af1)), (a2, .inl (T 0, 10, .inl af2))] H locs := V _ [0, 1, 0] rfl rfl rfl (by decide +kernel) rfl
                show W p l e _ s m args below meth c H locs _ _ _ (F0 m 83 ls [.int (nI 1)])
                refine lv_if_ne (tgt := 139) hx hb dX0_layFrom_83 (by decide) (fun _ => ?_) (fun c => absurd (show (nI 1) = 0 from c) (by decide +kernel))
                refine lv_iinc (v := (nI (k57 + 1))) (lv' := [(5, .int (nI (k57 + 1))), (0, .ref y0), (1, .ref a0), (2, .int (nI 3)), (3, .int tk), (4, .int sum)]) hx hb dX0_layFrom_139 hl (k := 0) rfl (nI_1 _) (by decide) rfl (fun ls hl => ?_)
                refine lv_goto (tgt := 57) hx hb dX0_layFrom_142 (by decide) ?_
                exact ih_57 (k57 + 1) bv ga gb (by omega) hgb (by rw [gck_n (Or.inr f_8)]; exact hR) (by omega) _ _ _ V (lv_sub hl [0, 1, 2, 3, 4, 5] rfl)
              · have V : gW D T A s [(y0, .inr (0, [.int bv, .ref y1, .ref y2])), (y1, .inl (T 0, 7, .inl ga)), (y2, .inl (T 0, 7, .inl gb)), (a0, .inr (5, [.int (nI an), .int am, .int al, .int ao, .int au, .ref a1, .ref a2, .ref a3, .ref a4, .ref a5, .ref a6, .ref a7, .ref a8, .ref a9, .ref a10])), (a1, .inl (T 0, 10, .inl af1)), (a2, .inl (T 0, 10, .inl af2))] H locs := V _ [0, 1, 0] rfl rfl rfl (by decide +kernel) rfl
                show W p l e _ s m args below meth c H locs _ _ _ (F0 m 83 ls [.int (nI 0)])
                refine lv_if_ne (tgt := 139) hx hb dX0_layFrom_83 (by decide) (fun c => absurd (show (nI 0) = 0 by decide +kernel) c) (fun _ => ?_)
                refine lv_aload_n hx hb dX0_layFrom_86 rfl (lv_at hl 1 rfl) ?_
                refine g_get hC V (ci := 0) uwX0 0 rfl rfl 2 (by decide) w_215 rfl rfl dX0_layFrom_87 ?_
                refine lv_iload_n hx hb dX0_layFrom_90 rfl (lv_at hl 3 rfl) ?_
                refine lv_iload hx hb dX0_layFrom_91 (lv_at hl 0 rfl) ?_
                refine g_iast hC V 2 rfl (vp_in_nI (by decide) (by decide)) (f' := (upd gb 3 (nI k57))) (by rw [nI_clamp (by decide)]) (ws' := [(y0, .inr (0, [.int bv, .ref y1, .ref y2])), (y1, .inl (T 0, 7, .inl ga)), (y2, .inl (T 0, 7, .inl (upd gb 3 (nI k57)))), (a0, .inr (5, [.int (nI an), .int am, .int al, .int ao, .int au, .ref a1, .ref a2, .ref a3, .ref a4, .ref a5, .ref a6, .ref a7, .ref a8, .ref a9, .ref a10])), (a1, .inl (T 0, 10, .inl af1)), (a2, .inl (T 0, 10, .inl af2))]) rfl dX0_layFrom_93 (fun H locs V => ?_)
                refine lv_aload_n hx hb dX0_layFrom_94 rfl (lv_at hl 2 rfl) ?_
                refine g_get hC V (ci := 5) uwX5 3 rfl rfl 5 (by decide) w_52 rfl rfl dX0_layFrom_95 ?_
                refine lv_iload_n hx hb dX0_layFrom_98 rfl (lv_at hl 3 rfl) ?_
                refine g_iald hC V 4 rfl (vp_in_nI (by decide) (by decide)) (v := (af1 3)) (congrArg _ (nI_clamp (by decide))) dX0_layFrom_99 ?_
                refine lv_aload_n hx hb dX0_layFrom_100 rfl (lv_at hl 2 rfl) ?_
                refine g_get hC V (ci := 5) uwX5 3 rfl rfl 6 (by decide) w_58 rfl rfl dX0_layFrom_101 ?_
                refine lv_iload hx hb dX0_layFrom_104 (lv_at hl 0 rfl) ?_
                refine g_iald hC V 5 rfl (vp_in_nI (by omega) (by omega)) (v := (af2 k57)) (congrArg _ (nI_clamp (by omega))) dX0_layFrom_106 ?_
                refine lv_isub hx hb dX0_layFrom_107 ?_
                refine va_mabs hx hb (hml.trans hl.1.symm) hown (hts _ w_814) (hts _ w_815) (hts _ w_10) (hts _ w_816) (Nat.le_of_ble_eq_true rfl) (Nat.le_of_ble_eq_true rfl) (Nat.le_of_ble_eq_true rfl) (Nat.le_of_ble_eq_true rfl) dX0_layFrom_108 ?_
                refine lv_istore (lv' := [(6, .int (if 0 ≤ ((af1 3) - (af2 k57)) then ((af1 3) - (af2 k57)) else 0 - ((af1 3) - (af2 k57)))), (5, .int (nI k57)), (0, .ref y0), (1, .ref a0), (2, .int (nI 3)), (3, .int tk), (4, .int sum)]) hx hb dX0_layFrom_111 hl (by decide) rfl (fun ls hl => ?_)
                refine lv_aload_n hx hb dX0_layFrom_113 rfl (lv_at hl 2 rfl) ?_
                refine lv_aload_n hx hb dX0_layFrom_114 rfl (lv_at hl 3 rfl) ?_
                refine lv_iload_n hx hb dX0_layFrom_115 rfl (lv_at hl 4 rfl) ?_
                refine lv_iconst (v := (nI 1)) hx hb dX0_layFrom_116 (by decide +kernel) ?_
                refine lv_iadd hx hb dX0_layFrom_117 ?_
                refine g_vi (y := (nI 4)) (by decide +kernel) ?_
                refine lv_iload_n hx hb dX0_layFrom_118 rfl (lv_at hl 5 rfl) ?_
                refine lv_iconst (v := (nI 1)) hx hb dX0_layFrom_119 (by decide +kernel) ?_
                refine lv_iload hx hb dX0_layFrom_120 (lv_at hl 1 rfl) ?_
                refine lv_ishl hx hb dX0_layFrom_122 ?_
                refine lv_ior hx hb dX0_layFrom_123 ?_
                refine lv_iload hx hb dX0_layFrom_124 (lv_at hl 6 rfl) ?_
                refine lv_iload hx hb dX0_layFrom_126 (lv_at hl 0 rfl) ?_
                refine lv_iadd hx hb dX0_layFrom_128 ?_
                refine g_callV (wr := []) (nA := 4) hC V hl.1 (y_layf4 l D T fa (pp ++ [k57]) ((gcK an (an - 4) pp k57).foldl (upC fa) so_) y0 a0 (tk ||| ((nI 1) <<< ((nI k57) &&& 31))) (sum + (if 0 ≤ ((af1 3) - (af2 k57)) then ((af1 3) - (af2 k57)) else 0 - ((af1 3) - (af2 k57)))) bv y1 y2 ga (upd gb 3 (nI k57)) an am al ao au a1 a2 a3 a4 a5 a6 a7 a8 a9 a10 af1 af2 (by first | assumption | omega) (pf_s (pf_e h_pp (fun j hj => hgb j (by omega))) (by omega)) (fun j h1 h2 => (up_other (by omega)).trans ((hgb j h2).trans (h_pm j (by omega) h2))) (us_s h_us (by omega)) (sqz_s h_a (by omega) (by omega) h_sum h_pp.1 (of_c (n := an) (h_s1 3 (by omega)) (h_s2 k57 (by omega)) rfl)) (sqz_b h_a (by omega) (by omega) h_sb h_pp.1) hR (by omega) (by first | assumption | omega) (by first | assumption | omega) (by first | assumption | omega)) w_804 w_806 w_s31 w_7 w_807 (by decide +kernel) rfl ⟨(Nat.le_of_ble_eq_true rfl), (Nat.le_of_ble_eq_true rfl)⟩ 0 (ci := 0) rfl rfl [0, 1, 2, 3, 4, 5] [] rfl rfl rfl rfl (by decide) (Nat.le_of_ble_eq_true rfl) dX0_layFrom_129 ⟨(Nat.le_of_ble_eq_true rfl), (Nat.le_of_ble_eq_true rfl)⟩ rfl (fun r w1 H locs hQ V => ?_)
                obtain ⟨bs_10, g1_11, g2_12, rfl, rfl, f_13, f_14⟩ := hQ
                have V : gW D T A s [(y0, .inr (0, [.int bs_10, .ref y1, .ref y2])), (y1, .inl (T 0, 7, .inl g1_11)), (y2, .inl (T 0, 7, .inl g2_12)), (a0, .inr (5, [.int (nI an), .int am, .int al, .int ao, .int au, .ref a1, .ref a2, .ref a3, .ref a4, .ref a5, .ref a6, .ref a7, .ref a8, .ref a9, .ref a10])), (a1, .inl (T 0, 10, .inl af1)), (a2, .inl (T 0, 10, .inl af2))] H locs := V
                show W p l e _ s m args below meth c H locs _ _ _ (F0 m 132 ls [])
                refine lv_aload_n hx hb dX0_layFrom_132 rfl (lv_at hl 2 rfl) ?_
                refine g_get hC V (ci := 0) uwX0 0 rfl rfl 2 (by decide) w_215 rfl rfl dX0_layFrom_133 ?_
                refine lv_iload_n hx hb dX0_layFrom_136 rfl (lv_at hl 4 rfl) ?_
                refine lv_iconst (v := (-1)) hx hb dX0_layFrom_137 (by decide +kernel) ?_
                refine g_iast hC V 2 rfl (vp_in_nI (by decide) (by decide)) (f' := (upd g2_12 3 (-1))) (by rw [nI_clamp (by decide)]) (ws' := [(y0, .inr (0, [.int bs_10, .ref y1, .ref y2])), (y1, .inl (T 0, 7, .inl g1_11)), (y2, .inl (T 0, 7, .inl (upd g2_12 3 (-1)))), (a0, .inr (5, [.int (nI an), .int am, .int al, .int ao, .int au, .ref a1, .ref a2, .ref a3, .ref a4, .ref a5, .ref a6, .ref a7, .ref a8, .ref a9, .ref a10])), (a1, .inl (T 0, 10, .inl af1)), (a2, .inl (T 0, 10, .inl af2))]) rfl dX0_layFrom_138 (fun H locs V => ?_)
                refine lv_iinc (v := (nI (k57 + 1))) (lv' := [(5, .int (nI (k57 + 1))), (6, .int (if 0 ≤ ((af1 3) - (af2 k57)) then ((af1 3) - (af2 k57)) else 0 - ((af1 3) - (af2 k57)))), (0, .ref y0), (1, .ref a0), (2, .int (nI 3)), (3, .int tk), (4, .int sum)]) hx hb dX0_layFrom_139 hl (k := 1) rfl (nI_1 _) (by decide) rfl (fun ls hl => ?_)
                refine lv_goto (tgt := 57) hx hb dX0_layFrom_142 (by decide) ?_
                exact ih_57 (k57 + 1) bs_10 g1_11 (upd g2_12 3 (-1)) (by omega) (fun j hj => if q : j = 3 then by rw [q, up_same]; exact (h_pm 3 (by omega) (by omega)).symm else (up_other q).trans ((f_14 j hj).trans ((up_other q).trans (hgb j hj)))) (by rw [gck_y (fun q => q.elim (fun r => f_7 ((h_us k57 (by omega)).mpr r)) (fun r => by rw [f_9] at r; cases r)), List.foldl_append]; exact f_13) (by omega) _ _ _ V (lv_sub hl [0, 2, 3, 4, 5, 6] rfl)
      exact L_4 _ 0 ys yb yt (by omega) (fun _ _ => rfl) h_st (Nat.lt_succ_self _) _ _ _ V (lv_sub hl [0, 1, 2, 3, 4, 5] rfl)
  · skip
    refine lv_iload hx hb dX0_layFrom_8 (lv_at hl 4 rfl) ?_
    refine lv_aload_n hx hb dX0_layFrom_10 rfl (lv_at hl 0 rfl) ?_
    refine g_get hC V (ci := 0) uwX0 0 rfl rfl 0 (by decide) w_211 rfl rfl dX0_layFrom_11 ?_
    refine lv_icmp_lt (tgt := 18) hx hb dX0_layFrom_14 (by decide) (fun c_15 => ?_) (fun c_15 => ?_)
    · skip
      refine lv_iload_n hx hb dX0_layFrom_18 rfl (lv_at hl 2 rfl) ?_
      refine lv_aload_n hx hb dX0_layFrom_19 rfl (lv_at hl 1 rfl) ?_
      refine g_get hC V (ci := 5) uwX5 3 rfl rfl 0 (by decide) w_35 rfl rfl dX0_layFrom_20 ?_
      refine lv_icmp_ge (tgt := 32) hx hb dX0_layFrom_23 (by decide) (fun c_16 => ?_) (fun c_16 => ?_)
      · skip
        have c_16 := b_le (by omega) (by omega) c_16
        refine lv_aload_n hx hb dX0_layFrom_32 rfl (lv_at hl 0 rfl) ?_
        refine lv_iload hx hb dX0_layFrom_33 (lv_at hl 4 rfl) ?_
        refine g_put hC V (ci := 0) uwX0 tyX0 tyX0_ok nmX0 0 rfl rfl 0 (by decide) w_211 rfl rfl rfl rfl (Nat.le_of_ble_eq_true rfl) (ws' := [(y0, .inr (0, [.int sum, .ref y1, .ref y2])), (y1, .inl (T 0, 7, .inl yb)), (y2, .inl (T 0, 7, .inl yt)), (a0, .inr (5, [.int (nI an), .int am, .int al, .int ao, .int au, .ref a1, .ref a2, .ref a3, .ref a4, .ref a5, .ref a6, .ref a7, .ref a8, .ref a9, .ref a10])), (a1, .inl (T 0, 10, .inl af1)), (a2, .inl (T 0, 10, .inl af2))]) rfl dX0_layFrom_35 (fun H locs V => ?_)
        refine lv_aload_n hx hb dX0_layFrom_38 rfl (lv_at hl 0 rfl) ?_
        refine g_get hC V (ci := 0) uwX0 0 rfl rfl 2 (by decide) w_215 rfl rfl dX0_layFrom_39 ?_
        refine lv_iconst (v := (nI 0)) hx hb dX0_layFrom_42 (by decide +kernel) ?_
        refine lv_aload_n hx hb dX0_layFrom_43 rfl (lv_at hl 0 rfl) ?_
        refine g_get hC V (ci := 0) uwX0 0 rfl rfl 1 (by decide) w_213 rfl rfl dX0_layFrom_44 ?_
        refine lv_iconst (v := (nI 0)) hx hb dX0_layFrom_47 (by decide +kernel) ?_
        refine lv_bipush (v := (nI 7)) hx hb dX0_layFrom_48 (by decide +kernel) ?_
        refine g_copyf hC V hl.1 w_808 w_672 w_671 w_17 2 1 rfl rfl (by decide +kernel) (by decide +kernel) (Nat.le_of_ble_eq_true rfl) (Nat.le_of_ble_eq_true rfl) (Nat.le_of_ble_eq_true rfl) dX0_layFrom_50 7 (by decide +kernel) (fun g_17 hcp H locs V => ?_)
        have V : gW D T A s [(y0, .inr (0, [.int sum, .ref y1, .ref y2])), (y1, .inl (T 0, 7, .inl g_17)), (y2, .inl (T 0, 7, .inl yt)), (a0, .inr (5, [.int (nI an), .int am, .int al, .int ao, .int au, .ref a1, .ref a2, .ref a3, .ref a4, .ref a5, .ref a6, .ref a7, .ref a8, .ref a9, .ref a10])), (a1, .inl (T 0, 10, .inl af1)), (a2, .inl (T 0, 10, .inl af2))] H locs := V
        exact g_vret (Qr := (q_y_layf3 T fa pp so_ y0 a0 tk sum ys y1 y2 yb yt an am al ao au a1 a2 a3 a4 a5 a6 a7 a8 a9 a10 af1 af2)) hC V ⟨(Nat.le_of_ble_eq_true rfl), (Nat.le_of_ble_eq_true rfl)⟩ ⟨sum, g_17, yt, rfl, rfl, (by rw [show an - 3 = 0 by omega]; exact rs_up h_st h_sum (by omega) (Or.inr c_15) (fun i hi => (hcp i (by omega)).trans (h_pp.2 i (by omega)).1)), (fun _ _ => rfl)⟩ dX0_layFrom_53
      · skip
        have c_16 := b_nle (by omega) (by omega) c_16
        refine lv_iload_n hx hb dX0_layFrom_26 rfl (lv_at hl 2 rfl) ?_
        refine lv_bipush (v := (nI 7)) hx hb dX0_layFrom_27 (by decide +kernel) ?_
        refine lv_icmp_lt (tgt := 54) hx hb dX0_layFrom_29 (by decide) (fun _ => ?_) (fun c => absurd (show (nI 3) < (nI 7) by first | rfl | decide +kernel) c)
        refine lv_iconst (v := (nI 0)) hx hb dX0_layFrom_54 (by decide +kernel) ?_
        refine lv_istore (lv' := [(5, .int (nI 0)), (0, .ref y0), (1, .ref a0), (2, .int (nI 3)), (3, .int tk), (4, .int sum)]) hx hb dX0_layFrom_55 hl (by decide) rfl (fun ls hl => ?_)
        have L_18 : ∀ (fu : Nat) (k57 : Nat) (bv : Int32) (ga : Nat → Int32) (gb : Nat → Int32), k57 ≤ an → (∀ j, j < 7 → gb j = yt j) → RST an fa ((gcK an (an - 4) pp k57).foldl (upC fa) so_) bv ga → an - k57 < fu → ∀ (H : Heap) (locs : List Loc) (ls : Array Slot), gW D T A s [(y0, .inr (0, [.int bv, .ref y1, .ref y2])), (y1, .inl (T 0, 7, .inl ga)), (y2, .inl (T 0, 7, .inl gb)), (a0, .inr (5, [.int (nI an), .int am, .int al, .int ao, .int au, .ref a1, .ref a2, .ref a3, .ref a4, .ref a5, .ref a6, .ref a7, .ref a8, .ref a9, .ref a10])), (a1, .inl (T 0, 10, .inl af1)), (a2, .inl (T 0, 10, .inl af2))] H locs → lv_has ls 7 [(5, .int (nI k57)), (0, .ref y0), (1, .ref a0), (2, .int (nI 3)), (3, .int tk), (4, .int sum)] → W p l e (rmD 6 0 0) s m args below meth c H locs 0 0 (MQ below (gQ D A (q_y_layf3 T fa pp so_ y0 a0 tk sum ys y1 y2 yb yt an am al ao au a1 a2 a3 a4 a5 a6 a7 a8 a9 a10 af1 af2)) args s 0 0 A) (F0 m 57 ls []) := by
          intro fu_57
          induction fu_57 with
          | zero => intro k57 bv ga gb hk57 hgb hR hmu; exact absurd hmu (Nat.not_lt_zero _)
          | succ fu_57 ih_57 =>
            intro k57 bv ga gb hk57 hgb hR hmu_57 H locs ls V hl
            refine lv_iload hx hb dX0_layFrom_57 (lv_at hl 0 rfl) ?_
            refine lv_aload_n hx hb dX0_layFrom_59 rfl (lv_at hl 2 rfl) ?_
            refine g_get hC V (ci := 5) uwX5 3 rfl rfl 0 (by decide) w_35 rfl rfl dX0_layFrom_60 ?_
            refine lv_icmp_ge (tgt := 145) hx hb dX0_layFrom_63 (by decide) (fun c_19 => ?_) (fun c_19 => ?_)
            · skip
              have c_19 := b_le (by omega) (by omega) c_19
              exact g_vret (Qr := (q_y_layf3 T fa pp so_ y0 a0 tk sum ys y1 y2 yb yt an am al ao au a1 a2 a3 a4 a5 a6 a7 a8 a9 a10 af1 af2)) hC V ⟨(Nat.le_of_ble_eq_true rfl), (Nat.le_of_ble_eq_true rfl)⟩ ⟨bv, ga, gb, rfl, rfl, (by rw [show an - 3 = (an - 4) + 1 by omega]; have q := hR; rw [show k57 = an by omega] at q; exact q), hgb⟩ dX0_layFrom_145
            · skip
              have c_19 := b_nle (by omega) (by omega) c_19
              refine lv_iload_n hx hb dX0_layFrom_66 rfl (lv_at hl 4 rfl) ?_
              refine lv_iload hx hb dX0_layFrom_67 (lv_at hl 0 rfl) ?_
              refine g_callSNU (nA := 2) (host := RX7) hC V hl.1 (c_isIn_f l D T tk k57) w_472 (List.mem_of_getElem? (i := 7) rfl) w_2 w_471 (by decide +kernel) rfl ⟨(Nat.le_of_ble_eq_true rfl), (Nat.le_of_ble_eq_true rfl)⟩ [] rfl rfl (Nat.le_of_ble_eq_true rfl) dX0_layFrom_69 ⟨(Nat.le_of_ble_eq_true rfl), (Nat.le_of_ble_eq_true rfl)⟩ rfl (fun r w1 H locs hQ V => ?_)
              rcases hQ with ⟨rfl, rfl, f_20⟩ | ⟨rfl, rfl, f_21⟩
              · have V : gW D T A s [(y0, .inr (0, [.int bv, .ref y1, .ref y2])), (y1, .inl (T 0, 7, .inl ga)), (y2, .inl (T 0, 7, .inl gb)), (a0, .inr (5, [.int (nI an), .int am, .int al, .int ao, .int au, .ref a1, .ref a2, .ref a3, .ref a4, .ref a5, .ref a6, .ref a7, .ref a8, .ref a9, .ref a10])), (a1, .inl (T 0, 10, .inl af1)), (a2, .inl (T 0, 10, .inl af2))] H locs := V _ [] rfl rfl rfl (by decide +kernel) rfl
                show W p l e _ s m args below meth c H locs _ _ _ (F0 m 72 ls [.int (nI 1)])
                refine lv_if_ne (tgt := 139) hx hb dX0_layFrom_72 (by decide) (fun _ => ?_) (fun c => absurd (show (nI 1) = 0 from c) (by decide +kernel))
                refine lv_iinc (v := (nI (k57 + 1))) (lv' := [(5, .int (nI (k57 + 1))), (0, .ref y0), (1, .ref a0), (2, .int (nI 3)), (3, .int tk), (4, .int sum)]) hx hb dX0_layFrom_139 hl (k := 0) rfl (nI_1 _) (by decide) rfl (fun ls hl => ?_)
                refine lv_goto (tgt := 57) hx hb dX0_layFrom_142 (by decide) ?_
                exact ih_57 (k57 + 1) bv ga gb (by omega) hgb (by rw [gck_n (Or.inl ((h_us k57 (by omega)).mp f_20))]; exact hR) (by omega) _ _ _ V (lv_sub hl [0, 1, 2, 3, 4, 5] rfl)
              · have V : gW D T A s [(y0, .inr (0, [.int bv, .ref y1, .ref y2])), (y1, .inl (T 0, 7, .inl ga)), (y2, .inl (T 0, 7, .inl gb)), (a0, .inr (5, [.int (nI an), .int am, .int al, .int ao, .int au, .ref a1, .ref a2, .ref a3, .ref a4, .ref a5, .ref a6, .ref a7, .ref a8, .ref a9, .ref a10])), (a1, .inl (T 0, 10, .inl af1)), (a2, .inl (T 0, 10, .inl af2))] H locs := V _ [] rfl rfl rfl (by decide +kernel) rfl
                show W p l e _ s m args below meth c H locs _ _ _ (F0 m 72 ls [.int (nI 0)])
                refine lv_if_ne (tgt := 139) hx hb dX0_layFrom_72 (by decide) (fun c => absurd (show (nI 0) = 0 by decide +kernel) c) (fun _ => ?_)
                refine lv_aload_n hx hb dX0_layFrom_75 rfl (lv_at hl 1 rfl) ?_
                refine lv_aload_n hx hb dX0_layFrom_76 rfl (lv_at hl 2 rfl) ?_
                refine lv_iload_n hx hb dX0_layFrom_77 rfl (lv_at hl 3 rfl) ?_
                refine lv_iload hx hb dX0_layFrom_78 (lv_at hl 0 rfl) ?_
                refine g_callVU (nA := 3) hC V hl.1 (y_closes_f l D T pp y0 a0 3 k57 bv y1 y2 gb an am al ao au a1 a2 a3 a4 a5 a6 a7 a8 a9 a10 (by first | assumption | omega) (pf_e h_pp (fun j hj => hgb j (by omega))) (fun j h1 h2 => (hgb j h2).trans (h_pm j h1 h2)) (by omega) (by omega)) w_810 w_812 w_s32 w_7 w_813 (by decide +kernel) rfl ⟨(Nat.le_of_ble_eq_true rfl), (Nat.le_of_ble_eq_true rfl)⟩ 0 (ci := 0) rfl rfl [0, 2, 3] rfl rfl (Nat.le_of_ble_eq_true rfl) dX0_layFrom_80 ⟨(Nat.le_of_ble_eq_true rfl), (Nat.le_of_ble_eq_true rfl)⟩ rfl (fun r w1 H locs hQ V => ?_)
                rcases hQ with ⟨rfl, rfl, f_22⟩ | ⟨rfl, rfl, f_23⟩
                · have V : gW D T A s [(y0, .inr (0, [.int bv, .ref y1, .ref y2])), (y1, .inl (T 0, 7, .inl ga)), (y2, .inl (T 0, 7, .inl gb)), (a0, .inr (5, [.int (nI an), .int am, .int al, .int ao, .int au, .ref a1, .ref a2, .ref a3, .ref a4, .ref a5, .ref a6, .ref a7, .ref a8, .ref a9, .ref a10])), (a1, .inl (T 0, 10, .inl af1)), (a2, .inl (T 0, 10, .inl af2))] H locs := V _ [0, 1, 0] rfl rfl rfl (by decide +kernel) rfl
                  show W p l e _ s m args below meth c H locs _ _ _ (F0 m 83 ls [.int (nI 1)])
                  refine lv_if_ne (tgt := 139) hx hb dX0_layFrom_83 (by decide) (fun _ => ?_) (fun c => absurd (show (nI 1) = 0 from c) (by decide +kernel))
                  refine lv_iinc (v := (nI (k57 + 1))) (lv' := [(5, .int (nI (k57 + 1))), (0, .ref y0), (1, .ref a0), (2, .int (nI 3)), (3, .int tk), (4, .int sum)]) hx hb dX0_layFrom_139 hl (k := 0) rfl (nI_1 _) (by decide) rfl (fun ls hl => ?_)
                  refine lv_goto (tgt := 57) hx hb dX0_layFrom_142 (by decide) ?_
                  exact ih_57 (k57 + 1) bv ga gb (by omega) hgb (by rw [gck_n (Or.inr f_22)]; exact hR) (by omega) _ _ _ V (lv_sub hl [0, 1, 2, 3, 4, 5] rfl)
                · have V : gW D T A s [(y0, .inr (0, [.int bv, .ref y1, .ref y2])), (y1, .inl (T 0, 7, .inl ga)), (y2, .inl (T 0, 7, .inl gb)), (a0, .inr (5, [.int (nI an), .int am, .int al, .int ao, .int au, .ref a1, .ref a2, .ref a3, .ref a4, .ref a5, .ref a6, .ref a7, .ref a8, .ref a9, .ref a10])), (a1, .inl (T 0, 10, .inl af1)), (a2, .inl (T 0, 10, .inl af2))] H locs := V _ [0, 1, 0] rfl rfl rfl (by decide +kernel) rfl
                  show W p l e _ s m args below meth c H locs _ _ _ (F0 m 83 ls [.int (nI 0)])
                  refine lv_if_ne (tgt := 139) hx hb dX0_layFrom_83 (by decide) (fun c => absurd (show (nI 0) = 0 by decide +kernel) c) (fun _ => ?_)
                  refine lv_aload_n hx hb dX0_layFrom_86 rfl (lv_at hl 1 rfl) ?_
                  refine g_get hC V (ci := 0) uwX0 0 rfl rfl 2 (by decide) w_215 rfl rfl dX0_layFrom_87 ?_
                  refine lv_iload_n hx hb dX0_layFrom_90 rfl (lv_at hl 3 rfl) ?_
                  refine lv_iload hx hb dX0_layFrom_91 (lv_at hl 0 rfl) ?_
                  refine g_iast hC V 2 rfl (vp_in_nI (by decide) (by decide)) (f' := (upd gb 3 (nI k57))) (by rw [nI_clamp (by decide)]) (ws' := [(y0, .inr (0, [.int bv, .ref y1, .ref y2])), (y1, .inl (T 0, 7, .inl ga)), (y2, .inl (T 0, 7, .inl (upd gb 3 (nI k57)))), (a0, .inr (5, [.int (nI an), .int am, .int al, .int ao, .int au, .ref a1, .ref a2, .ref a3, .ref a4, .ref a5, .ref a6, .ref a7, .ref a8, .ref a9, .ref a10])), (a1, .inl (T 0, 10, .inl af1)), (a2, .inl (T 0, 10, .inl af2))]) rfl dX0_layFrom_93 (fun H locs V => ?_)
                  refine lv_aload_n hx hb dX0_layFrom_94 rfl (lv_at hl 2 rfl) ?_
                  refine g_get hC V (ci := 5) uwX5 3 rfl rfl 5 (by decide) w_52 rfl rfl dX0_layFrom_95 ?_
                  refine lv_iload_n hx hb dX0_layFrom_98 rfl (lv_at hl 3 rfl) ?_
                  refine g_iald hC V 4 rfl (vp_in_nI (by decide) (by decide)) (v := (af1 3)) (congrArg _ (nI_clamp (by decide))) dX0_layFrom_99 ?_
                  refine lv_aload_n hx hb dX0_layFrom_100 rfl (lv_at hl 2 rfl) ?_
                  refine g_get hC V (ci := 5) uwX5 3 rfl rfl 6 (by decide) w_58 rfl rfl dX0_layFrom_101 ?_
                  refine lv_iload hx hb dX0_layFrom_104 (lv_at hl 0 rfl) ?_
                  refine g_iald hC V 5 rfl (vp_in_nI (by omega) (by omega)) (v := (af2 k57)) (congrArg _ (nI_clamp (by omega))) dX0_layFrom_106 ?_
                  refine lv_isub hx hb dX0_layFrom_107 ?_
                  refine va_mabs hx hb (hml.trans hl.1.symm) hown (hts _ w_814) (hts _ w_815) (hts _ w_10) (hts _ w_816) (Nat.le_of_ble_eq_true rfl) (Nat.le_of_ble_eq_true rfl) (Nat.le_of_ble_eq_true rfl) (Nat.le_of_ble_eq_true rfl) dX0_layFrom_108 ?_
                  refine lv_istore (lv' := [(6, .int (if 0 ≤ ((af1 3) - (af2 k57)) then ((af1 3) - (af2 k57)) else 0 - ((af1 3) - (af2 k57)))), (5, .int (nI k57)), (0, .ref y0), (1, .ref a0), (2, .int (nI 3)), (3, .int tk), (4, .int sum)]) hx hb dX0_layFrom_111 hl (by decide) rfl (fun ls hl => ?_)
                  refine lv_aload_n hx hb dX0_layFrom_113 rfl (lv_at hl 2 rfl) ?_
                  refine lv_aload_n hx hb dX0_layFrom_114 rfl (lv_at hl 3 rfl) ?_
                  refine lv_iload_n hx hb dX0_layFrom_115 rfl (lv_at hl 4 rfl) ?_
                  refine lv_iconst (v := (nI 1)) hx hb dX0_layFrom_116 (by decide +kernel) ?_
                  refine lv_iadd hx hb dX0_layFrom_117 ?_
                  refine g_vi (y := (nI 4)) (by decide +kernel) ?_
                  refine lv_iload_n hx hb dX0_layFrom_118 rfl (lv_at hl 5 rfl) ?_
                  refine lv_iconst (v := (nI 1)) hx hb dX0_layFrom_119 (by decide +kernel) ?_
                  refine lv_iload hx hb dX0_layFrom_120 (lv_at hl 1 rfl) ?_
                  refine lv_ishl hx hb dX0_layFrom_122 ?_
                  refine lv_ior hx hb dX0_layFrom_123 ?_
                  refine lv_iload hx hb dX0_layFrom_124 (lv_at hl 6 rfl) ?_
                  refine lv_iload hx hb dX0_layFrom_126 (lv_at hl 0 rfl) ?_
                  refine lv_iadd hx hb dX0_layFrom_128 ?_
                  refine g_callV (wr := []) (nA := 4) hC V hl.1 (y_layf4 l D T fa (pp ++ [k57]) ((gcK an (an - 4) pp k57).foldl (upC fa) so_) y0 a0 (tk ||| ((nI 1) <<< ((nI k57) &&& 31))) (sum + (if 0 ≤ ((af1 3) - (af2 k57)) then ((af1 3) - (af2 k57)) else 0 - ((af1 3) - (af2 k57)))) bv y1 y2 ga (upd gb 3 (nI k57)) an am al ao au a1 a2 a3 a4 a5 a6 a7 a8 a9 a10 af1 af2 (by first | assumption | omega) (pf_s (pf_e h_pp (fun j hj => hgb j (by omega))) (by omega)) (fun j h1 h2 => (up_other (by omega)).trans ((hgb j h2).trans (h_pm j (by omega) h2))) (us_s h_us (by omega)) (sqz_s h_a (by omega) (by omega) h_sum h_pp.1 (of_c (n := an) (h_s1 3 (by omega)) (h_s2 k57 (by omega)) rfl)) (sqz_b h_a (by omega) (by omega) h_sb h_pp.1) hR (by omega) (by first | assumption | omega) (by first | assumption | omega) (by first | assumption | omega)) w_804 w_806 w_s31 w_7 w_807 (by decide +kernel) rfl ⟨(Nat.le_of_ble_eq_true rfl), (Nat.le_of_ble_eq_true rfl)⟩ 0 (ci := 0) rfl rfl [0, 1, 2, 3, 4, 5] [] rfl rfl rfl rfl (by decide) (Nat.le_of_ble_eq_true rfl) dX0_layFrom_129 ⟨(Nat.le_of_ble_eq_true rfl), (Nat.le_of_ble_eq_true rfl)⟩ rfl (fun r w1 H locs hQ V => ?_)
                  obtain ⟨bs_24, g1_25, g2_26, rfl, rfl, f_27, f_28⟩ := hQ
                  have V : gW D T A s [(y0, .inr (0, [.int bs_24, .ref y1, .ref y2])), (y1, .inl (T 0, 7, .inl g1_25)), (y2, .inl (T 0, 7, .inl g2_26)), (a0, .inr (5, [.int (nI an), .int am, .int al, .int ao, .int au, .ref a1, .ref a2, .ref a3, .ref a4, .ref a5, .ref a6, .ref a7, .ref a8, .ref a9, .ref a10])), (a1, .inl (T 0, 10, .inl af1)), (a2, .inl (T 0, 10, .inl af2))] H locs := V
                  show W p l e _ s m args below meth c H locs _ _ _ (F0 m 132 ls [])
                  refine lv_aload_n hx hb dX0_layFrom_132 rfl (lv_at hl 2 rfl) ?_
                  refine g_get hC V (ci := 0) uwX0 0 rfl rfl 2 (by decide) w_215 rfl rfl dX0_layFrom_133 ?_
                  refine lv_iload_n hx hb dX0_layFrom_136 rfl (lv_at hl 4 rfl) ?_
                  refine lv_iconst (v := (-1)) hx hb dX0_layFrom_137 (by decide +kernel) ?_
                  refine g_iast hC V 2 rfl (vp_in_nI (by decide) (by decide)) (f' := (upd g2_26 3 (-1))) (by rw [nI_clamp (by decide)]) (ws' := [(y0, .inr (0, [.int bs_24, .ref y1, .ref y2])), (y1, .inl (T 0, 7, .inl g1_25)), (y2, .inl (T 0, 7, .inl (upd g2_26 3 (-1)))), (a0, .inr (5, [.int (nI an), .int am, .int al, .int ao, .int au, .ref a1, .ref a2, .ref a3, .ref a4, .ref a5, .ref a6, .ref a7, .ref a8, .ref a9, .ref a10])), (a1, .inl (T 0, 10, .inl af1)), (a2, .inl (T 0, 10, .inl af2))]) rfl dX0_layFrom_138 (fun H locs V => ?_)
                  refine lv_iinc (v := (nI (k57 + 1))) (lv' := [(5, .int (nI (k57 + 1))), (6, .int (if 0 ≤ ((af1 3) - (af2 k57)) then ((af1 3) - (af2 k57)) else 0 - ((af1 3) - (af2 k57)))), (0, .ref y0), (1, .ref a0), (2, .int (nI 3)), (3, .int tk), (4, .int sum)]) hx hb dX0_layFrom_139 hl (k := 1) rfl (nI_1 _) (by decide) rfl (fun ls hl => ?_)
                  refine lv_goto (tgt := 57) hx hb dX0_layFrom_142 (by decide) ?_
                  exact ih_57 (k57 + 1) bs_24 g1_25 (upd g2_26 3 (-1)) (by omega) (fun j hj => if q : j = 3 then by rw [q, up_same]; exact (h_pm 3 (by omega) (by omega)).symm else (up_other q).trans ((f_28 j hj).trans ((up_other q).trans (hgb j hj)))) (by rw [gck_y (fun q => q.elim (fun r => f_21 ((h_us k57 (by omega)).mpr r)) (fun r => by rw [f_23] at r; cases r)), List.foldl_append]; exact f_27) (by omega) _ _ _ V (lv_sub hl [0, 2, 3, 4, 5, 6] rfl)
        exact L_18 _ 0 ys yb yt (by omega) (fun _ _ => rfl) h_st (Nat.lt_succ_self _) _ _ _ V (lv_sub hl [0, 1, 2, 3, 4, 5] rfl)
    · skip
      exact g_vret (Qr := (q_y_layf3 T fa pp so_ y0 a0 tk sum ys y1 y2 yb yt an am al ao au a1 a2 a3 a4 a5 a6 a7 a8 a9 a10 af1 af2)) hC V ⟨(Nat.le_of_ble_eq_true rfl), (Nat.le_of_ble_eq_true rfl)⟩ ⟨ys, yb, yt, rfl, rfl, (rs_pr h_st c_1 h_sum (by omega) c_15), (fun _ _ => rfl)⟩ dX0_layFrom_17

def q_y_layf2 (T : Nat → ClassId) (fa : Nat → Int32) (pp : List Nat) (so_ : Option (List Nat)) (y0 : Nat) (a0 : Nat) (tk : Int32) (sum : Int32) (ys : Int32) (y1 : Nat) (y2 : Nat) (yb : Nat → Int32) (yt : Nat → Int32) (an : Nat) (am : Int32) (al : Int32) (ao : Int32) (au : Int32) (a1 : Nat) (a2 : Nat) (a3 : Nat) (a4 : Nat) (a5 : Nat) (a6 : Nat) (a7 : Nat) (a8 : Nat) (a9 : Nat) (a10 : Nat) (af1 : Nat → Int32) (af2 : Nat → Int32) : Option Value → va_W → Prop := fun rr ww => (∃ (bs : Int32) (g1 : Nat → Int32) (g2 : Nat → Int32), rr = none ∧ ww = [(y0, .inr (0, [.int bs, .ref y1, .ref y2])), (y1, .inl (T 0, 7, .inl g1)), (y2, .inl (T 0, 7, .inl g2)), (a0, .inr (5, [.int (nI an), .int am, .int al, .int ao, .int au, .ref a1, .ref a2, .ref a3, .ref a4, .ref a5, .ref a6, .ref a7, .ref a8, .ref a9, .ref a10])), (a1, .inl (T 0, 10, .inl af1)), (a2, .inl (T 0, 10, .inl af2))] ∧ RST an fa ((gC an (an - 2) pp).foldl (upC fa) so_) bs g1 ∧ (∀ j, j < 7 → g2 j = yt j))
set_option maxHeartbeats 4000000 in
set_option maxRecDepth 100000 in
theorem y_layf2 (l : Launch) (D : va_G) (T : Nat → ClassId) (fa : Nat → Int32) (pp : List Nat) (so_ : Option (List Nat)) (y0 : Nat) (a0 : Nat) (tk : Int32) (sum : Int32) (ys : Int32) (y1 : Nat) (y2 : Nat) (yb : Nat → Int32) (yt : Nat → Int32) (an : Nat) (am : Int32) (al : Int32) (ao : Int32) (au : Int32) (a1 : Nat) (a2 : Nat) (a3 : Nat) (a4 : Nat) (a5 : Nat) (a6 : Nat) (a7 : Nat) (a8 : Nat) (a9 : Nat) (a10 : Nat) (af1 : Nat → Int32) (af2 : Nat → Int32) (h_n : an ≤ 7) (h_pp : PFX an pp 2 yt) (h_pm : ∀ j, 2 ≤ j → j < 7 → yt j = -1) (h_us : USE pp tk) (h_sum : sum = nI (smL fa 0 pp)) (h_sb : smL fa 0 pp ≤ 60 * 2) (h_st : RST an fa so_ ys yb) (h_kn : 2 ≤ an) (h_a : MI an fa) (h_s1 : ∀ i, i < an → af1 i = fa (4 + i)) (h_s2 : ∀ i, i < an → af2 i = fa (14 + i)) : Ct l yX0_layFrom cX0_layFrom 7 none 7 0 0 D T [.ref y0, .ref a0, .int (nI 2), .int tk, .int sum] [(y0, .inr (0, [.int ys, .ref y1, .ref y2])), (y1, .inl (T 0, 7, .inl yb)), (y2, .inl (T 0, 7, .inl yt)), (a0, .inr (5, [.int (nI an), .int am, .int al, .int ao, .int au, .ref a1, .ref a2, .ref a3, .ref a4, .ref a5, .ref a6, .ref a7, .ref a8, .ref a9, .ref a10])), (a1, .inl (T 0, 10, .inl af1)), (a2, .inl (T 0, 10, .inl af2))] (q_y_layf2 T fa pp so_ y0 a0 tk sum ys y1 y2 yb yt an am al ao au a1 a2 a3 a4 a5 a6 a7 a8 a9 a10 af1 af2) := by
  refine Ct.of (cc := cX0_layFrom) (maxL := 7) (ret := none) (by decide) (Nat.le_of_ble_eq_true rfl) ?_
  intro p e s m args below meth c A ls hC hnm V hl
  obtain ⟨hx, hb, hr, hml, hown, hts, hlocks⟩ := id hC
  generalize hH : s.heap = H at V ⊢
  clear hH
  have hl : lv_has ls 7 [(0, .ref y0), (1, .ref a0), (2, .int (nI 2)), (3, .int tk), (4, .int sum)] := hl
  generalize hlo : ([] : List Loc) = locs at V ⊢
  clear hlo
  refine lv_aload_n hx hb dX0_layFrom_0 rfl (lv_at hl 0 rfl) ?_
  refine g_get hC V (ci := 0) uwX0 0 rfl rfl 0 (by decide) w_211 rfl rfl dX0_layFrom_1 ?_
  refine lv_iconst (v := (-1)) hx hb dX0_layFrom_4 (by decide +kernel) ?_
  refine lv_icmp_eq (tgt := 18) hx hb dX0_layFrom_5 (by decide) (fun c_1 => ?_) (fun c_1 => ?_)
  · skip
    refine lv_iload_n hx hb dX0_layFrom_18 rfl (lv_at hl 2 rfl) ?_
    refine lv_aload_n hx hb dX0_layFrom_19 rfl (lv_at hl 1 rfl) ?_
    refine g_get hC V (ci := 5) uwX5 3 rfl rfl 0 (by decide) w_35 rfl rfl dX0_layFrom_20 ?_
    refine lv_icmp_ge (tgt := 32) hx hb dX0_layFrom_23 (by decide) (fun c_2 => ?_) (fun c_2 => ?_)
    · skip
      have c_2 := b_le (by omega) (by omega) c_2
      refine lv_aload_n hx hb dX0_layFrom_32 rfl (lv_at hl 0 rfl) ?_
      refine lv_iload hx hb dX0_layFrom_33 (lv_at hl 4 rfl) ?_
      refine g_put hC V (ci := 0) uwX0 tyX0 tyX0_ok nmX0 0 rfl rfl 0 (by decide) w_211 rfl rfl rfl rfl (Nat.le_of_ble_eq_true rfl) (ws' := [(y0, .inr (0, [.int sum, .ref y1, .ref y2])), (y1, .inl (T 0, 7, .inl yb)), (y2, .inl (T 0, 7, .inl yt)), (a0, .inr (5, [.int (nI an), .int am, .int al, .int ao, .int au, .ref a1, .ref a2, .ref a3, .ref a4, .ref a5, .ref a6, .ref a7, .ref a8, .ref a9, .ref a10])), (a1, .inl (T 0, 10, .inl af1)), (a2, .inl (T 0, 10, .inl af2))]) rfl dX0_layFrom_35 (fun H locs V => ?_)
      refine lv_aload_n hx hb dX0_layFrom_38 rfl (lv_at hl 0 rfl) ?_
      refine g_get hC V (ci := 0) uwX0 0 rfl rfl 2 (by decide) w_215 rfl rfl dX0_layFrom_39 ?_
      refine lv_iconst (v := (nI 0)) hx hb dX0_layFrom_42 (by decide +kernel) ?_
      refine lv_aload_n hx hb dX0_layFrom_43 rfl (lv_at hl 0 rfl) ?_
      refine g_get hC V (ci := 0) uwX0 0 rfl rfl 1 (by decide) w_213 rfl rfl dX0_layFrom_44 ?_
      refine lv_iconst (v := (nI 0)) hx hb dX0_layFrom_47 (by decide +kernel) ?_
      refine lv_bipush (v := (nI 7)) hx hb dX0_layFrom_48 (by decide +kernel) ?_
      refine g_copyf hC V hl.1 w_808 w_672 w_671 w_17 2 1 rfl rfl (by decide +kernel) (by decide +kernel) (Nat.le_of_ble_eq_true rfl) (Nat.le_of_ble_eq_true rfl) (Nat.le_of_ble_eq_true rfl) dX0_layFrom_50 7 (by decide +kernel) (fun g_3 hcp H locs V => ?_)
      have V : gW D T A s [(y0, .inr (0, [.int sum, .ref y1, .ref y2])), (y1, .inl (T 0, 7, .inl g_3)), (y2, .inl (T 0, 7, .inl yt)), (a0, .inr (5, [.int (nI an), .int am, .int al, .int ao, .int au, .ref a1, .ref a2, .ref a3, .ref a4, .ref a5, .ref a6, .ref a7, .ref a8, .ref a9, .ref a10])), (a1, .inl (T 0, 10, .inl af1)), (a2, .inl (T 0, 10, .inl af2))] H locs := V
      exact g_vret (Qr := (q_y_layf2 T fa pp so_ y0 a0 tk sum ys y1 y2 yb yt an am al ao au a1 a2 a3 a4 a5 a6 a7 a8 a9 a10 af1 af2)) hC V ⟨(Nat.le_of_ble_eq_true rfl), (Nat.le_of_ble_eq_true rfl)⟩ ⟨sum, g_3, yt, rfl, rfl, (by rw [show an - 2 = 0 by omega]; exact rs_up h_st h_sum (by omega) (Or.inl c_1) (fun i hi => (hcp i (by omega)).trans (h_pp.2 i (by omega)).1)), (fun _ _ => rfl)⟩ dX0_layFrom_53
    · skip
      have c_2 := b_nle (by omega) (by omega) c_2
      refine lv_iload_n hx hb dX0_layFrom_26 rfl (lv_at hl 2 rfl) ?_
      refine lv_bipush (v := (nI 7)) hx hb dX0_layFrom_27 (by decide +kernel) ?_
      refine lv_icmp_lt (tgt := 54) hx hb dX0_layFrom_29 (by decide) (fun _ => ?_) (fun c => absurd (show (nI 2) < (nI 7) by first | rfl | decide +kernel) c)
      refine lv_iconst (v := (nI 0)) hx hb dX0_layFrom_54 (by decide +kernel) ?_
      refine lv_istore (lv' := [(5, .int (nI 0)), (0, .ref y0), (1, .ref a0), (2, .int (nI 2)), (3, .int tk), (4, .int sum)]) hx hb dX0_layFrom_55 hl (by decide) rfl (fun ls hl => ?_)
      have L_4 : ∀ (fu : Nat) (k57 : Nat) (bv : Int32) (ga : Nat → Int32) (gb : Nat → Int32), k57 ≤ an → (∀ j, j < 7 → gb j = yt j) → RST an fa ((gcK an (an - 3) pp k57).foldl (upC fa) so_) bv ga → an - k57 < fu → ∀ (H : Heap) (locs : List Loc) (ls : Array Slot), gW D T A s [(y0, .inr (0, [.int bv, .ref y1, .ref y2])), (y1, .inl (T 0, 7, .inl ga)), (y2, .inl (T 0, 7, .inl gb)), (a0, .inr (5, [.int (nI an), .int am, .int al, .int ao, .int au, .ref a1, .ref a2, .ref a3, .ref a4, .ref a5, .ref a6, .ref a7, .ref a8, .ref a9, .ref a10])), (a1, .inl (T 0, 10, .inl af1)), (a2, .inl (T 0, 10, .inl af2))] H locs → lv_has ls 7 [(5, .int (nI k57)), (0, .ref y0), (1, .ref a0), (2, .int (nI 2)), (3, .int tk), (4, .int sum)] → W p l e (rmD 7 0 0) s m args below meth c H locs 0 0 (MQ below (gQ D A (q_y_layf2 T fa pp so_ y0 a0 tk sum ys y1 y2 yb yt an am al ao au a1 a2 a3 a4 a5 a6 a7 a8 a9 a10 af1 af2)) args s 0 0 A) (F0 m 57 ls []) := by
        intro fu_57
        induction fu_57 with
        | zero => intro k57 bv ga gb hk57 hgb hR hmu; exact absurd hmu (Nat.not_lt_zero _)
        | succ fu_57 ih_57 =>
          intro k57 bv ga gb hk57 hgb hR hmu_57 H locs ls V hl
          refine lv_iload hx hb dX0_layFrom_57 (lv_at hl 0 rfl) ?_
          refine lv_aload_n hx hb dX0_layFrom_59 rfl (lv_at hl 2 rfl) ?_
          refine g_get hC V (ci := 5) uwX5 3 rfl rfl 0 (by decide) w_35 rfl rfl dX0_layFrom_60 ?_
          refine lv_icmp_ge (tgt := 145) hx hb dX0_layFrom_63 (by decide) (fun c_5 => ?_) (fun c_5 => ?_)
          · skip
            have c_5 := b_le (by omega) (by omega) c_5
            exact g_vret (Qr := (q_y_layf2 T fa pp so_ y0 a0 tk sum ys y1 y2 yb yt an am al ao au a1 a2 a3 a4 a5 a6 a7 a8 a9 a10 af1 af2)) hC V ⟨(Nat.le_of_ble_eq_true rfl), (Nat.le_of_ble_eq_true rfl)⟩ ⟨bv, ga, gb, rfl, rfl, (by rw [show an - 2 = (an - 3) + 1 by omega]; have q := hR; rw [show k57 = an by omega] at q; exact q), hgb⟩ dX0_layFrom_145
          · skip
            have c_5 := b_nle (by omega) (by omega) c_5
            refine lv_iload_n hx hb dX0_layFrom_66 rfl (lv_at hl 4 rfl) ?_
            refine lv_iload hx hb dX0_layFrom_67 (lv_at hl 0 rfl) ?_
            refine g_callSNU (nA := 2) (host := RX7) hC V hl.1 (c_isIn_f l D T tk k57) w_472 (List.mem_of_getElem? (i := 7) rfl) w_2 w_471 (by decide +kernel) rfl ⟨(Nat.le_of_ble_eq_true rfl), (Nat.le_of_ble_eq_true rfl)⟩ [] rfl rfl (Nat.le_of_ble_eq_true rfl) dX0_layFrom_69 ⟨(Nat.le_of_ble_eq_true rfl), (Nat.le_of_ble_eq_true rfl)⟩ rfl (fun r w1 H locs hQ V => ?_)
            rcases hQ with ⟨rfl, rfl, f_6⟩ | ⟨rfl, rfl, f_7⟩
            · have V : gW D T A s [(y0, .inr (0, [.int bv, .ref y1, .ref y2])), (y1, .inl (T 0, 7, .inl ga)), (y2, .inl (T 0, 7, .inl gb)), (a0, .inr (5, [.int (nI an), .int am, .int al, .int ao, .int au, .ref a1, .ref a2, .ref a3, .ref a4, .ref a5, .ref a6, .ref a7, .ref a8, .ref a9, .ref a10])), (a1, .inl (T 0, 10, .inl af1)), (a2, .inl (T 0, 10, .inl af2))] H locs := V _ [] rfl rfl rfl (by decide +kernel) rfl
              show W p l e _ s m args below meth c H locs _ _ _ (F0 m 72 ls [.int (nI 1)])
              refine lv_if_ne (tgt := 139) hx hb dX0_layFrom_72 (by decide) (fun _ => ?_) (fun c => absurd (show (nI 1) = 0 from c) (by decide +kernel))
              refine lv_iinc (v := (nI (k57 + 1))) (lv' := [(5, .int (nI (k57 + 1))), (0, .ref y0), (1, .ref a0), (2, .int (nI 2)), (3, .int tk), (4, .int sum)]) hx hb dX0_layFrom_139 hl (k := 0) rfl (nI_1 _) (by decide) rfl (fun ls hl => ?_)
              refine lv_goto (tgt := 57) hx hb dX0_layFrom_142 (by decide) ?_
              exact ih_57 (k57 + 1) bv ga gb (by omega) hgb (by rw [gck_n (Or.inl ((h_us k57 (by omega)).mp f_6))]; exact hR) (by omega) _ _ _ V (lv_sub hl [0, 1, 2, 3, 4, 5] rfl)
            · have V : gW D T A s [(y0, .inr (0, [.int bv, .ref y1, .ref y2])), (y1, .inl (T 0, 7, .inl ga)), (y2, .inl (T 0, 7, .inl gb)), (a0, .inr (5, [.int (nI an), .int am, .int al, .int ao, .int au, .ref a1, .ref a2, .ref a3, .ref a4, .ref a5, .ref a6, .ref a7, .ref a8, .ref a9, .ref a10])), (a1, .inl (T 0, 10, .inl af1)), (a2, .inl (T 0, 10, .inl af2))] H locs := V _ [] rfl rfl rfl (by decide +kernel) rfl
              show W p l e _ s m args below meth c H locs _ _ _ (F0 m 72 ls [.int (nI 0)])
              refine lv_if_ne (tgt := 139) hx hb dX0_layFrom_72 (by decide) (fun c => absurd (show (nI 0) = 0 by decide +kernel) c) (fun _ => ?_)
              refine lv_aload_n hx hb dX0_layFrom_75 rfl (lv_at hl 1 rfl) ?_
              refine lv_aload_n hx hb dX0_layFrom_76 rfl (lv_at hl 2 rfl) ?_
              refine lv_iload_n hx hb dX0_layFrom_77 rfl (lv_at hl 3 rfl) ?_
              refine lv_iload hx hb dX0_layFrom_78 (lv_at hl 0 rfl) ?_
              refine g_callVU (nA := 3) hC V hl.1 (y_closes_f l D T pp y0 a0 2 k57 bv y1 y2 gb an am al ao au a1 a2 a3 a4 a5 a6 a7 a8 a9 a10 (by first | assumption | omega) (pf_e h_pp (fun j hj => hgb j (by omega))) (fun j h1 h2 => (hgb j h2).trans (h_pm j h1 h2)) (by omega) (by omega)) w_810 w_812 w_s32 w_7 w_813 (by decide +kernel) rfl ⟨(Nat.le_of_ble_eq_true rfl), (Nat.le_of_ble_eq_true rfl)⟩ 0 (ci := 0) rfl rfl [0, 2, 3] rfl rfl (Nat.le_of_ble_eq_true rfl) dX0_layFrom_80 ⟨(Nat.le_of_ble_eq_true rfl), (Nat.le_of_ble_eq_true rfl)⟩ rfl (fun r w1 H locs hQ V => ?_)
              rcases hQ with ⟨rfl, rfl, f_8⟩ | ⟨rfl, rfl, f_9⟩
              · have V : gW D T A s [(y0, .inr (0, [.int bv, .ref y1, .ref y2])), (y1, .inl (T 0, 7, .inl ga)), (y2, .inl (T 0, 7, .inl gb)), (a0, .inr (5, [.int (nI an), .int am, .int al, .int ao, .int au, .ref a1, .ref a2, .ref a3, .ref a4, .ref a5, .ref a6, .ref a7, .ref a8, .ref a9, .ref a10])), (a1, .inl (T 0, 10, .inl af1)), (a2, .inl (T 0, 10, .inl af2))] H locs := V _ [0, 1, 0] rfl rfl rfl (by decide +kernel) rfl
                show W p l e _ s m args below meth c H locs _ _ _ (F0 m 83 ls [.int (nI 1)])
                refine lv_if_ne (tgt := 139) hx hb dX0_layFrom_83 (by decide) (fun _ => ?_) (fun c => absurd (show (nI 1) = 0 from c) (by decide +kernel))
                refine lv_iinc (v := (nI (k57 + 1))) (lv' := [(5, .int (nI (k57 + 1))), (0, .ref y0), (1, .ref a0), (2, .int (nI 2)), (3, .int tk), (4, .int sum)]) hx hb dX0_layFrom_139 hl (k := 0) rfl (nI_1 _) (by decide) rfl (fun ls hl => ?_)
                refine lv_goto (tgt := 57) hx hb dX0_layFrom_142 (by decide) ?_
                exact ih_57 (k57 + 1) bv ga gb (by omega) hgb (by rw [gck_n (Or.inr f_8)]; exact hR) (by omega) _ _ _ V (lv_sub hl [0, 1, 2, 3, 4, 5] rfl)
              · have V : gW D T A s [(y0, .inr (0, [.int bv, .ref y1, .ref y2])), (y1, .inl (T 0, 7, .inl ga)), (y2, .inl (T 0, 7, .inl gb)), (a0, .inr (5, [.int (nI an), .int am, .int al, .int ao, .int au, .ref a1, .ref a2, .ref a3, .ref a4, .ref a5, .ref a6, .ref a7, .ref a8, .ref a9, .ref a10])), (a1, .inl (T 0, 10, .inl af1)), (a2, .inl (T 0, 10, .inl af2))] H locs := V _ [0, 1, 0] rfl rfl rfl (by decide +kernel) rfl
                show W p l e _ s m args below meth c H locs _ _ _ (F0 m 83 ls [.int (nI 0)])
                refine lv_if_ne (tgt := 139) hx hb dX0_layFrom_83 (by decide) (fun c => absurd (show (nI 0) = 0 by decide +kernel) c) (fun _ => ?_)
                refine lv_aload_n hx hb dX0_layFrom_86 rfl (lv_at hl 1 rfl) ?_
                refine g_get hC V (ci := 0) uwX0 0 rfl rfl 2 (by decide) w_215 rfl rfl dX0_layFrom_87 ?_
                refine lv_iload_n hx hb dX0_layFrom_90 rfl (lv_at hl 3 rfl) ?_
                refine lv_iload hx hb dX0_layFrom_91 (lv_at hl 0 rfl) ?_
                refine g_iast hC V 2 rfl (vp_in_nI (by decide) (by decide)) (f' := (upd gb 2 (nI k57))) (by rw [nI_clamp (by decide)]) (ws' := [(y0, .inr (0, [.int bv, .ref y1, .ref y2])), (y1, .inl (T 0, 7, .inl ga)), (y2, .inl (T 0, 7, .inl (upd gb 2 (nI k57)))), (a0, .inr (5, [.int (nI an), .int am, .int al, .int ao, .int au, .ref a1, .ref a2, .ref a3, .ref a4, .ref a5, .ref a6, .ref a7, .ref a8, .ref a9, .ref a10])), (a1, .inl (T 0, 10, .inl af1)), (a2, .inl (T 0, 10, .inl af2))]) rfl dX0_layFrom_93 (fun H locs V => ?_)
                refine lv_aload_n hx hb dX0_layFrom_94 rfl (lv_at hl 2 rfl) ?_
                refine g_get hC V (ci := 5) uwX5 3 rfl rfl 5 (by decide) w_52 rfl rfl dX0_layFrom_95 ?_
                refine lv_iload_n hx hb dX0_layFrom_98 rfl (lv_at hl 3 rfl) ?_
                refine g_iald hC V 4 rfl (vp_in_nI (by decide) (by decide)) (v := (af1 2)) (congrArg _ (nI_clamp (by decide))) dX0_layFrom_99 ?_
                refine lv_aload_n hx hb dX0_layFrom_100 rfl (lv_at hl 2 rfl) ?_
                refine g_get hC V (ci := 5) uwX5 3 rfl rfl 6 (by decide) w_58 rfl rfl dX0_layFrom_101 ?_
                refine lv_iload hx hb dX0_layFrom_104 (lv_at hl 0 rfl) ?_
                refine g_iald hC V 5 rfl (vp_in_nI (by omega) (by omega)) (v := (af2 k57)) (congrArg _ (nI_clamp (by omega))) dX0_layFrom_106 ?_
                refine lv_isub hx hb dX0_layFrom_107 ?_
                refine va_mabs hx hb (hml.trans hl.1.symm) hown (hts _ w_814) (hts _ w_815) (hts _ w_10) (hts _ w_816) (Nat.le_of_ble_eq_true rfl) (Nat.le_of_ble_eq_true rfl) (Nat.le_of_ble_eq_true rfl) (Nat.le_of_ble_eq_true rfl) dX0_layFrom_108 ?_
                refine lv_istore (lv' := [(6, .int (if 0 ≤ ((af1 2) - (af2 k57)) then ((af1 2) - (af2 k57)) else 0 - ((af1 2) - (af2 k57)))), (5, .int (nI k57)), (0, .ref y0), (1, .ref a0), (2, .int (nI 2)), (3, .int tk), (4, .int sum)]) hx hb dX0_layFrom_111 hl (by decide) rfl (fun ls hl => ?_)
                refine lv_aload_n hx hb dX0_layFrom_113 rfl (lv_at hl 2 rfl) ?_
                refine lv_aload_n hx hb dX0_layFrom_114 rfl (lv_at hl 3 rfl) ?_
                refine lv_iload_n hx hb dX0_layFrom_115 rfl (lv_at hl 4 rfl) ?_
                refine lv_iconst (v := (nI 1)) hx hb dX0_layFrom_116 (by decide +kernel) ?_
                refine lv_iadd hx hb dX0_layFrom_117 ?_
                refine g_vi (y := (nI 3)) (by decide +kernel) ?_
                refine lv_iload_n hx hb dX0_layFrom_118 rfl (lv_at hl 5 rfl) ?_
                refine lv_iconst (v := (nI 1)) hx hb dX0_layFrom_119 (by decide +kernel) ?_
                refine lv_iload hx hb dX0_layFrom_120 (lv_at hl 1 rfl) ?_
                refine lv_ishl hx hb dX0_layFrom_122 ?_
                refine lv_ior hx hb dX0_layFrom_123 ?_
                refine lv_iload hx hb dX0_layFrom_124 (lv_at hl 6 rfl) ?_
                refine lv_iload hx hb dX0_layFrom_126 (lv_at hl 0 rfl) ?_
                refine lv_iadd hx hb dX0_layFrom_128 ?_
                refine g_callV (wr := []) (nA := 4) hC V hl.1 (y_layf3 l D T fa (pp ++ [k57]) ((gcK an (an - 3) pp k57).foldl (upC fa) so_) y0 a0 (tk ||| ((nI 1) <<< ((nI k57) &&& 31))) (sum + (if 0 ≤ ((af1 2) - (af2 k57)) then ((af1 2) - (af2 k57)) else 0 - ((af1 2) - (af2 k57)))) bv y1 y2 ga (upd gb 2 (nI k57)) an am al ao au a1 a2 a3 a4 a5 a6 a7 a8 a9 a10 af1 af2 (by first | assumption | omega) (pf_s (pf_e h_pp (fun j hj => hgb j (by omega))) (by omega)) (fun j h1 h2 => (up_other (by omega)).trans ((hgb j h2).trans (h_pm j (by omega) h2))) (us_s h_us (by omega)) (sqz_s h_a (by omega) (by omega) h_sum h_pp.1 (of_c (n := an) (h_s1 2 (by omega)) (h_s2 k57 (by omega)) rfl)) (sqz_b h_a (by omega) (by omega) h_sb h_pp.1) hR (by omega) (by first | assumption | omega) (by first | assumption | omega) (by first | assumption | omega)) w_804 w_806 w_s31 w_7 w_807 (by decide +kernel) rfl ⟨(Nat.le_of_ble_eq_true rfl), (Nat.le_of_ble_eq_true rfl)⟩ 0 (ci := 0) rfl rfl [0, 1, 2, 3, 4, 5] [] rfl rfl rfl rfl (by decide) (Nat.le_of_ble_eq_true rfl) dX0_layFrom_129 ⟨(Nat.le_of_ble_eq_true rfl), (Nat.le_of_ble_eq_true rfl)⟩ rfl (fun r w1 H locs hQ V => ?_)
                obtain ⟨bs_10, g1_11, g2_12, rfl, rfl, f_13, f_14⟩ := hQ
                have V : gW D T A s [(y0, .inr (0, [.int bs_10, .ref y1, .ref y2])), (y1, .inl (T 0, 7, .inl g1_11)), (y2, .inl (T 0, 7, .inl g2_12)), (a0, .inr (5, [.int (nI an), .int am, .int al, .int ao, .int au, .ref a1, .ref a2, .ref a3, .ref a4, .ref a5, .ref a6, .ref a7, .ref a8, .ref a9, .ref a10])), (a1, .inl (T 0, 10, .inl af1)), (a2, .inl (T 0, 10, .inl af2))] H locs := V
                show W p l e _ s m args below meth c H locs _ _ _ (F0 m 132 ls [])
                refine lv_aload_n hx hb dX0_layFrom_132 rfl (lv_at hl 2 rfl) ?_
                refine g_get hC V (ci := 0) uwX0 0 rfl rfl 2 (by decide) w_215 rfl rfl dX0_layFrom_133 ?_
                refine lv_iload_n hx hb dX0_layFrom_136 rfl (lv_at hl 4 rfl) ?_
                refine lv_iconst (v := (-1)) hx hb dX0_layFrom_137 (by decide +kernel) ?_
                refine g_iast hC V 2 rfl (vp_in_nI (by decide) (by decide)) (f' := (upd g2_12 2 (-1))) (by rw [nI_clamp (by decide)]) (ws' := [(y0, .inr (0, [.int bs_10, .ref y1, .ref y2])), (y1, .inl (T 0, 7, .inl g1_11)), (y2, .inl (T 0, 7, .inl (upd g2_12 2 (-1)))), (a0, .inr (5, [.int (nI an), .int am, .int al, .int ao, .int au, .ref a1, .ref a2, .ref a3, .ref a4, .ref a5, .ref a6, .ref a7, .ref a8, .ref a9, .ref a10])), (a1, .inl (T 0, 10, .inl af1)), (a2, .inl (T 0, 10, .inl af2))]) rfl dX0_layFrom_138 (fun H locs V => ?_)
                refine lv_iinc (v := (nI (k57 + 1))) (lv' := [(5, .int (nI (k57 + 1))), (6, .int (if 0 ≤ ((af1 2) - (af2 k57)) then ((af1 2) - (af2 k57)) else 0 - ((af1 2) - (af2 k57)))), (0, .ref y0), (1, .ref a0), (2, .int (nI 2)), (3, .int tk), (4, .int sum)]) hx hb dX0_layFrom_139 hl (k := 1) rfl (nI_1 _) (by decide) rfl (fun ls hl => ?_)
                refine lv_goto (tgt := 57) hx hb dX0_layFrom_142 (by decide) ?_
                exact ih_57 (k57 + 1) bs_10 g1_11 (upd g2_12 2 (-1)) (by omega) (fun j hj => if q : j = 2 then by rw [q, up_same]; exact (h_pm 2 (by omega) (by omega)).symm else (up_other q).trans ((f_14 j hj).trans ((up_other q).trans (hgb j hj)))) (by rw [gck_y (fun q => q.elim (fun r => f_7 ((h_us k57 (by omega)).mpr r)) (fun r => by rw [f_9] at r; cases r)), List.foldl_append]; exact f_13) (by omega) _ _ _ V (lv_sub hl [0, 2, 3, 4, 5, 6] rfl)
      exact L_4 _ 0 ys yb yt (by omega) (fun _ _ => rfl) h_st (Nat.lt_succ_self _) _ _ _ V (lv_sub hl [0, 1, 2, 3, 4, 5] rfl)
  · skip
    refine lv_iload hx hb dX0_layFrom_8 (lv_at hl 4 rfl) ?_
    refine lv_aload_n hx hb dX0_layFrom_10 rfl (lv_at hl 0 rfl) ?_
    refine g_get hC V (ci := 0) uwX0 0 rfl rfl 0 (by decide) w_211 rfl rfl dX0_layFrom_11 ?_
    refine lv_icmp_lt (tgt := 18) hx hb dX0_layFrom_14 (by decide) (fun c_15 => ?_) (fun c_15 => ?_)
    · skip
      refine lv_iload_n hx hb dX0_layFrom_18 rfl (lv_at hl 2 rfl) ?_
      refine lv_aload_n hx hb dX0_layFrom_19 rfl (lv_at hl 1 rfl) ?_
      refine g_get hC V (ci := 5) uwX5 3 rfl rfl 0 (by decide) w_35 rfl rfl dX0_layFrom_20 ?_
      refine lv_icmp_ge (tgt := 32) hx hb dX0_layFrom_23 (by decide) (fun c_16 => ?_) (fun c_16 => ?_)
      · skip
        have c_16 := b_le (by omega) (by omega) c_16
        refine lv_aload_n hx hb dX0_layFrom_32 rfl (lv_at hl 0 rfl) ?_
        refine lv_iload hx hb dX0_layFrom_33 (lv_at hl 4 rfl) ?_
        refine g_put hC V (ci := 0) uwX0 tyX0 tyX0_ok nmX0 0 rfl rfl 0 (by decide) w_211 rfl rfl rfl rfl (Nat.le_of_ble_eq_true rfl) (ws' := [(y0, .inr (0, [.int sum, .ref y1, .ref y2])), (y1, .inl (T 0, 7, .inl yb)), (y2, .inl (T 0, 7, .inl yt)), (a0, .inr (5, [.int (nI an), .int am, .int al, .int ao, .int au, .ref a1, .ref a2, .ref a3, .ref a4, .ref a5, .ref a6, .ref a7, .ref a8, .ref a9, .ref a10])), (a1, .inl (T 0, 10, .inl af1)), (a2, .inl (T 0, 10, .inl af2))]) rfl dX0_layFrom_35 (fun H locs V => ?_)
        refine lv_aload_n hx hb dX0_layFrom_38 rfl (lv_at hl 0 rfl) ?_
        refine g_get hC V (ci := 0) uwX0 0 rfl rfl 2 (by decide) w_215 rfl rfl dX0_layFrom_39 ?_
        refine lv_iconst (v := (nI 0)) hx hb dX0_layFrom_42 (by decide +kernel) ?_
        refine lv_aload_n hx hb dX0_layFrom_43 rfl (lv_at hl 0 rfl) ?_
        refine g_get hC V (ci := 0) uwX0 0 rfl rfl 1 (by decide) w_213 rfl rfl dX0_layFrom_44 ?_
        refine lv_iconst (v := (nI 0)) hx hb dX0_layFrom_47 (by decide +kernel) ?_
        refine lv_bipush (v := (nI 7)) hx hb dX0_layFrom_48 (by decide +kernel) ?_
        refine g_copyf hC V hl.1 w_808 w_672 w_671 w_17 2 1 rfl rfl (by decide +kernel) (by decide +kernel) (Nat.le_of_ble_eq_true rfl) (Nat.le_of_ble_eq_true rfl) (Nat.le_of_ble_eq_true rfl) dX0_layFrom_50 7 (by decide +kernel) (fun g_17 hcp H locs V => ?_)
        have V : gW D T A s [(y0, .inr (0, [.int sum, .ref y1, .ref y2])), (y1, .inl (T 0, 7, .inl g_17)), (y2, .inl (T 0, 7, .inl yt)), (a0, .inr (5, [.int (nI an), .int am, .int al, .int ao, .int au, .ref a1, .ref a2, .ref a3, .ref a4, .ref a5, .ref a6, .ref a7, .ref a8, .ref a9, .ref a10])), (a1, .inl (T 0, 10, .inl af1)), (a2, .inl (T 0, 10, .inl af2))] H locs := V
        exact g_vret (Qr := (q_y_layf2 T fa pp so_ y0 a0 tk sum ys y1 y2 yb yt an am al ao au a1 a2 a3 a4 a5 a6 a7 a8 a9 a10 af1 af2)) hC V ⟨(Nat.le_of_ble_eq_true rfl), (Nat.le_of_ble_eq_true rfl)⟩ ⟨sum, g_17, yt, rfl, rfl, (by rw [show an - 2 = 0 by omega]; exact rs_up h_st h_sum (by omega) (Or.inr c_15) (fun i hi => (hcp i (by omega)).trans (h_pp.2 i (by omega)).1)), (fun _ _ => rfl)⟩ dX0_layFrom_53
      · skip
        have c_16 := b_nle (by omega) (by omega) c_16
        refine lv_iload_n hx hb dX0_layFrom_26 rfl (lv_at hl 2 rfl) ?_
        refine lv_bipush (v := (nI 7)) hx hb dX0_layFrom_27 (by decide +kernel) ?_
        refine lv_icmp_lt (tgt := 54) hx hb dX0_layFrom_29 (by decide) (fun _ => ?_) (fun c => absurd (show (nI 2) < (nI 7) by first | rfl | decide +kernel) c)
        refine lv_iconst (v := (nI 0)) hx hb dX0_layFrom_54 (by decide +kernel) ?_
        refine lv_istore (lv' := [(5, .int (nI 0)), (0, .ref y0), (1, .ref a0), (2, .int (nI 2)), (3, .int tk), (4, .int sum)]) hx hb dX0_layFrom_55 hl (by decide) rfl (fun ls hl => ?_)
        have L_18 : ∀ (fu : Nat) (k57 : Nat) (bv : Int32) (ga : Nat → Int32) (gb : Nat → Int32), k57 ≤ an → (∀ j, j < 7 → gb j = yt j) → RST an fa ((gcK an (an - 3) pp k57).foldl (upC fa) so_) bv ga → an - k57 < fu → ∀ (H : Heap) (locs : List Loc) (ls : Array Slot), gW D T A s [(y0, .inr (0, [.int bv, .ref y1, .ref y2])), (y1, .inl (T 0, 7, .inl ga)), (y2, .inl (T 0, 7, .inl gb)), (a0, .inr (5, [.int (nI an), .int am, .int al, .int ao, .int au, .ref a1, .ref a2, .ref a3, .ref a4, .ref a5, .ref a6, .ref a7, .ref a8, .ref a9, .ref a10])), (a1, .inl (T 0, 10, .inl af1)), (a2, .inl (T 0, 10, .inl af2))] H locs → lv_has ls 7 [(5, .int (nI k57)), (0, .ref y0), (1, .ref a0), (2, .int (nI 2)), (3, .int tk), (4, .int sum)] → W p l e (rmD 7 0 0) s m args below meth c H locs 0 0 (MQ below (gQ D A (q_y_layf2 T fa pp so_ y0 a0 tk sum ys y1 y2 yb yt an am al ao au a1 a2 a3 a4 a5 a6 a7 a8 a9 a10 af1 af2)) args s 0 0 A) (F0 m 57 ls []) := by
          intro fu_57
          induction fu_57 with
          | zero => intro k57 bv ga gb hk57 hgb hR hmu; exact absurd hmu (Nat.not_lt_zero _)
          | succ fu_57 ih_57 =>
            intro k57 bv ga gb hk57 hgb hR hmu_57 H locs ls V hl
            refine lv_iload hx hb dX0_layFrom_57 (lv_at hl 0 rfl) ?_
            refine lv_aload_n hx hb dX0_layFrom_59 rfl (lv_at hl 2 rfl) ?_
            refine g_get hC V (ci := 5) uwX5 3 rfl rfl 0 (by decide) w_35 rfl rfl dX0_layFrom_60 ?_
            refine lv_icmp_ge (tgt := 145) hx hb dX0_layFrom_63 (by decide) (fun c_19 => ?_) (fun c_19 => ?_)
            · skip
              have c_19 := b_le (by omega) (by omega) c_19
              exact g_vret (Qr := (q_y_layf2 T fa pp so_ y0 a0 tk sum ys y1 y2 yb yt an am al ao au a1 a2 a3 a4 a5 a6 a7 a8 a9 a10 af1 af2)) hC V ⟨(Nat.le_of_ble_eq_true rfl), (Nat.le_of_ble_eq_true rfl)⟩ ⟨bv, ga, gb, rfl, rfl, (by rw [show an - 2 = (an - 3) + 1 by omega]; have q := hR; rw [show k57 = an by omega] at q; exact q), hgb⟩ dX0_layFrom_145
            · skip
              have c_19 := b_nle (by omega) (by omega) c_19
              refine lv_iload_n hx hb dX0_layFrom_66 rfl (lv_at hl 4 rfl) ?_
              refine lv_iload hx hb dX0_layFrom_67 (lv_at hl 0 rfl) ?_
              refine g_callSNU (nA := 2) (host := RX7) hC V hl.1 (c_isIn_f l D T tk k57) w_472 (List.mem_of_getElem? (i := 7) rfl) w_2 w_471 (by decide +kernel) rfl ⟨(Nat.le_of_ble_eq_true rfl), (Nat.le_of_ble_eq_true rfl)⟩ [] rfl rfl (Nat.le_of_ble_eq_true rfl) dX0_layFrom_69 ⟨(Nat.le_of_ble_eq_true rfl), (Nat.le_of_ble_eq_true rfl)⟩ rfl (fun r w1 H locs hQ V => ?_)
              rcases hQ with ⟨rfl, rfl, f_20⟩ | ⟨rfl, rfl, f_21⟩
              · have V : gW D T A s [(y0, .inr (0, [.int bv, .ref y1, .ref y2])), (y1, .inl (T 0, 7, .inl ga)), (y2, .inl (T 0, 7, .inl gb)), (a0, .inr (5, [.int (nI an), .int am, .int al, .int ao, .int au, .ref a1, .ref a2, .ref a3, .ref a4, .ref a5, .ref a6, .ref a7, .ref a8, .ref a9, .ref a10])), (a1, .inl (T 0, 10, .inl af1)), (a2, .inl (T 0, 10, .inl af2))] H locs := V _ [] rfl rfl rfl (by decide +kernel) rfl
                show W p l e _ s m args below meth c H locs _ _ _ (F0 m 72 ls [.int (nI 1)])
                refine lv_if_ne (tgt := 139) hx hb dX0_layFrom_72 (by decide) (fun _ => ?_) (fun c => absurd (show (nI 1) = 0 from c) (by decide +kernel))
                refine lv_iinc (v := (nI (k57 + 1))) (lv' := [(5, .int (nI (k57 + 1))), (0, .ref y0), (1, .ref a0), (2, .int (nI 2)), (3, .int tk), (4, .int sum)]) hx hb dX0_layFrom_139 hl (k := 0) rfl (nI_1 _) (by decide) rfl (fun ls hl => ?_)
                refine lv_goto (tgt := 57) hx hb dX0_layFrom_142 (by decide) ?_
                exact ih_57 (k57 + 1) bv ga gb (by omega) hgb (by rw [gck_n (Or.inl ((h_us k57 (by omega)).mp f_20))]; exact hR) (by omega) _ _ _ V (lv_sub hl [0, 1, 2, 3, 4, 5] rfl)
              · have V : gW D T A s [(y0, .inr (0, [.int bv, .ref y1, .ref y2])), (y1, .inl (T 0, 7, .inl ga)), (y2, .inl (T 0, 7, .inl gb)), (a0, .inr (5, [.int (nI an), .int am, .int al, .int ao, .int au, .ref a1, .ref a2, .ref a3, .ref a4, .ref a5, .ref a6, .ref a7, .ref a8, .ref a9, .ref a10])), (a1, .inl (T 0, 10, .inl af1)), (a2, .inl (T 0, 10, .inl af2))] H locs := V _ [] rfl rfl rfl (by decide +kernel) rfl
                show W p l e _ s m args below meth c H locs _ _ _ (F0 m 72 ls [.int (nI 0)])
                refine lv_if_ne (tgt := 139) hx hb dX0_layFrom_72 (by decide) (fun c => absurd (show (nI 0) = 0 by decide +kernel) c) (fun _ => ?_)
                refine lv_aload_n hx hb dX0_layFrom_75 rfl (lv_at hl 1 rfl) ?_
                refine lv_aload_n hx hb dX0_layFrom_76 rfl (lv_at hl 2 rfl) ?_
                refine lv_iload_n hx hb dX0_layFrom_77 rfl (lv_at hl 3 rfl) ?_
                refine lv_iload hx hb dX0_layFrom_78 (lv_at hl 0 rfl) ?_
                refine g_callVU (nA := 3) hC V hl.1 (y_closes_f l D T pp y0 a0 2 k57 bv y1 y2 gb an am al ao au a1 a2 a3 a4 a5 a6 a7 a8 a9 a10 (by first | assumption | omega) (pf_e h_pp (fun j hj => hgb j (by omega))) (fun j h1 h2 => (hgb j h2).trans (h_pm j h1 h2)) (by omega) (by omega)) w_810 w_812 w_s32 w_7 w_813 (by decide +kernel) rfl ⟨(Nat.le_of_ble_eq_true rfl), (Nat.le_of_ble_eq_true rfl)⟩ 0 (ci := 0) rfl rfl [0, 2, 3] rfl rfl (Nat.le_of_ble_eq_true rfl) dX0_layFrom_80 ⟨(Nat.le_of_ble_eq_true rfl), (Nat.le_of_ble_eq_true rfl)⟩ rfl (fun r w1 H locs hQ V => ?_)
                rcases hQ with ⟨rfl, rfl, f_22⟩ | ⟨rfl, rfl, f_23⟩
                · have V : gW D T A s [(y0, .inr (0, [.int bv, .ref y1, .ref y2])), (y1, .inl (T 0, 7, .inl ga)), (y2, .inl (T 0, 7, .inl gb)), (a0, .inr (5, [.int (nI an), .int am, .int al, .int ao, .int au, .ref a1, .ref a2, .ref a3, .ref a4, .ref a5, .ref a6, .ref a7, .ref a8, .ref a9, .ref a10])), (a1, .inl (T 0, 10, .inl af1)), (a2, .inl (T 0, 10, .inl af2))] H locs := V _ [0, 1, 0] rfl rfl rfl (by decide +kernel) rfl
                  show W p l e _ s m args below meth c H locs _ _ _ (F0 m 83 ls [.int (nI 1)])
                  refine lv_if_ne (tgt := 139) hx hb dX0_layFrom_83 (by decide) (fun _ => ?_) (fun c => absurd (show (nI 1) = 0 from c) (by decide +kernel))
                  refine lv_iinc (v := (nI (k57 + 1))) (lv' := [(5, .int (nI (k57 + 1))), (0, .ref y0), (1, .ref a0), (2, .int (nI 2)), (3, .int tk), (4, .int sum)]) hx hb dX0_layFrom_139 hl (k := 0) rfl (nI_1 _) (by decide) rfl (fun ls hl => ?_)
                  refine lv_goto (tgt := 57) hx hb dX0_layFrom_142 (by decide) ?_
                  exact ih_57 (k57 + 1) bv ga gb (by omega) hgb (by rw [gck_n (Or.inr f_22)]; exact hR) (by omega) _ _ _ V (lv_sub hl [0, 1, 2, 3, 4, 5] rfl)
                · have V : gW D T A s [(y0, .inr (0, [.int bv, .ref y1, .ref y2])), (y1, .inl (T 0, 7, .inl ga)), (y2, .inl (T 0, 7, .inl gb)), (a0, .inr (5, [.int (nI an), .int am, .int al, .int ao, .int au, .ref a1, .ref a2, .ref a3, .ref a4, .ref a5, .ref a6, .ref a7, .ref a8, .ref a9, .ref a10])), (a1, .inl (T 0, 10, .inl af1)), (a2, .inl (T 0, 10, .inl af2))] H locs := V _ [0, 1, 0] rfl rfl rfl (by decide +kernel) rfl
                  show W p l e _ s m args below meth c H locs _ _ _ (F0 m 83 ls [.int (nI 0)])
                  refine lv_if_ne (tgt := 139) hx hb dX0_layFrom_83 (by decide) (fun c => absurd (show (nI 0) = 0 by decide +kernel) c) (fun _ => ?_)
                  refine lv_aload_n hx hb dX0_layFrom_86 rfl (lv_at hl 1 rfl) ?_
                  refine g_get hC V (ci := 0) uwX0 0 rfl rfl 2 (by decide) w_215 rfl rfl dX0_layFrom_87 ?_
                  refine lv_iload_n hx hb dX0_layFrom_90 rfl (lv_at hl 3 rfl) ?_
                  refine lv_iload hx hb dX0_layFrom_91 (lv_at hl 0 rfl) ?_
                  refine g_iast hC V 2 rfl (vp_in_nI (by decide) (by decide)) (f' := (upd gb 2 (nI k57))) (by rw [nI_clamp (by decide)]) (ws' := [(y0, .inr (0, [.int bv, .ref y1, .ref y2])), (y1, .inl (T 0, 7, .inl ga)), (y2, .inl (T 0, 7, .inl (upd gb 2 (nI k57)))), (a0, .inr (5, [.int (nI an), .int am, .int al, .int ao, .int au, .ref a1, .ref a2, .ref a3, .ref a4, .ref a5, .ref a6, .ref a7, .ref a8, .ref a9, .ref a10])), (a1, .inl (T 0, 10, .inl af1)), (a2, .inl (T 0, 10, .inl af2))]) rfl dX0_layFrom_93 (fun H locs V => ?_)
                  refine lv_aload_n hx hb dX0_layFrom_94 rfl (lv_at hl 2 rfl) ?_
                  refine g_get hC V (ci := 5) uwX5 3 rfl rfl 5 (by decide) w_52 rfl rfl dX0_layFrom_95 ?_
                  refine lv_iload_n hx hb dX0_layFrom_98 rfl (lv_at hl 3 rfl) ?_
                  refine g_iald hC V 4 rfl (vp_in_nI (by decide) (by decide)) (v := (af1 2)) (congrArg _ (nI_clamp (by decide))) dX0_layFrom_99 ?_
                  refine lv_aload_n hx hb dX0_layFrom_100 rfl (lv_at hl 2 rfl) ?_
                  refine g_get hC V (ci := 5) uwX5 3 rfl rfl 6 (by decide) w_58 rfl rfl dX0_layFrom_101 ?_
                  refine lv_iload hx hb dX0_layFrom_104 (lv_at hl 0 rfl) ?_
                  refine g_iald hC V 5 rfl (vp_in_nI (by omega) (by omega)) (v := (af2 k57)) (congrArg _ (nI_clamp (by omega))) dX0_layFrom_106 ?_
                  refine lv_isub hx hb dX0_layFrom_107 ?_
                  refine va_mabs hx hb (hml.trans hl.1.symm) hown (hts _ w_814) (hts _ w_815) (hts _ w_10) (hts _ w_816) (Nat.le_of_ble_eq_true rfl) (Nat.le_of_ble_eq_true rfl) (Nat.le_of_ble_eq_true rfl) (Nat.le_of_ble_eq_true rfl) dX0_layFrom_108 ?_
                  refine lv_istore (lv' := [(6, .int (if 0 ≤ ((af1 2) - (af2 k57)) then ((af1 2) - (af2 k57)) else 0 - ((af1 2) - (af2 k57)))), (5, .int (nI k57)), (0, .ref y0), (1, .ref a0), (2, .int (nI 2)), (3, .int tk), (4, .int sum)]) hx hb dX0_layFrom_111 hl (by decide) rfl (fun ls hl => ?_)
                  refine lv_aload_n hx hb dX0_layFrom_113 rfl (lv_at hl 2 rfl) ?_
                  refine lv_aload_n hx hb dX0_layFrom_114 rfl (lv_at hl 3 rfl) ?_
                  refine lv_iload_n hx hb dX0_layFrom_115 rfl (lv_at hl 4 rfl) ?_
                  refine lv_iconst (v := (nI 1)) hx hb dX0_layFrom_116 (by decide +kernel) ?_
                  refine lv_iadd hx hb dX0_layFrom_117 ?_
                  refine g_vi (y := (nI 3)) (by decide +kernel) ?_
                  refine lv_iload_n hx hb dX0_layFrom_118 rfl (lv_at hl 5 rfl) ?_
                  refine lv_iconst (v := (nI 1)) hx hb dX0_layFrom_119 (by decide +kernel) ?_
                  refine lv_iload hx hb dX0_layFrom_120 (lv_at hl 1 rfl) ?_
                  refine lv_ishl hx hb dX0_layFrom_122 ?_
                  refine lv_ior hx hb dX0_layFrom_123 ?_
                  refine lv_iload hx hb dX0_layFrom_124 (lv_at hl 6 rfl) ?_
                  refine lv_iload hx hb dX0_layFrom_126 (lv_at hl 0 rfl) ?_
                  refine lv_iadd hx hb dX0_layFrom_128 ?_
                  refine g_callV (wr := []) (nA := 4) hC V hl.1 (y_layf3 l D T fa (pp ++ [k57]) ((gcK an (an - 3) pp k57).foldl (upC fa) so_) y0 a0 (tk ||| ((nI 1) <<< ((nI k57) &&& 31))) (sum + (if 0 ≤ ((af1 2) - (af2 k57)) then ((af1 2) - (af2 k57)) else 0 - ((af1 2) - (af2 k57)))) bv y1 y2 ga (upd gb 2 (nI k57)) an am al ao au a1 a2 a3 a4 a5 a6 a7 a8 a9 a10 af1 af2 (by first | assumption | omega) (pf_s (pf_e h_pp (fun j hj => hgb j (by omega))) (by omega)) (fun j h1 h2 => (up_other (by omega)).trans ((hgb j h2).trans (h_pm j (by omega) h2))) (us_s h_us (by omega)) (sqz_s h_a (by omega) (by omega) h_sum h_pp.1 (of_c (n := an) (h_s1 2 (by omega)) (h_s2 k57 (by omega)) rfl)) (sqz_b h_a (by omega) (by omega) h_sb h_pp.1) hR (by omega) (by first | assumption | omega) (by first | assumption | omega) (by first | assumption | omega)) w_804 w_806 w_s31 w_7 w_807 (by decide +kernel) rfl ⟨(Nat.le_of_ble_eq_true rfl), (Nat.le_of_ble_eq_true rfl)⟩ 0 (ci := 0) rfl rfl [0, 1, 2, 3, 4, 5] [] rfl rfl rfl rfl (by decide) (Nat.le_of_ble_eq_true rfl) dX0_layFrom_129 ⟨(Nat.le_of_ble_eq_true rfl), (Nat.le_of_ble_eq_true rfl)⟩ rfl (fun r w1 H locs hQ V => ?_)
                  obtain ⟨bs_24, g1_25, g2_26, rfl, rfl, f_27, f_28⟩ := hQ
                  have V : gW D T A s [(y0, .inr (0, [.int bs_24, .ref y1, .ref y2])), (y1, .inl (T 0, 7, .inl g1_25)), (y2, .inl (T 0, 7, .inl g2_26)), (a0, .inr (5, [.int (nI an), .int am, .int al, .int ao, .int au, .ref a1, .ref a2, .ref a3, .ref a4, .ref a5, .ref a6, .ref a7, .ref a8, .ref a9, .ref a10])), (a1, .inl (T 0, 10, .inl af1)), (a2, .inl (T 0, 10, .inl af2))] H locs := V
                  show W p l e _ s m args below meth c H locs _ _ _ (F0 m 132 ls [])
                  refine lv_aload_n hx hb dX0_layFrom_132 rfl (lv_at hl 2 rfl) ?_
                  refine g_get hC V (ci := 0) uwX0 0 rfl rfl 2 (by decide) w_215 rfl rfl dX0_layFrom_133 ?_
                  refine lv_iload_n hx hb dX0_layFrom_136 rfl (lv_at hl 4 rfl) ?_
                  refine lv_iconst (v := (-1)) hx hb dX0_layFrom_137 (by decide +kernel) ?_
                  refine g_iast hC V 2 rfl (vp_in_nI (by decide) (by decide)) (f' := (upd g2_26 2 (-1))) (by rw [nI_clamp (by decide)]) (ws' := [(y0, .inr (0, [.int bs_24, .ref y1, .ref y2])), (y1, .inl (T 0, 7, .inl g1_25)), (y2, .inl (T 0, 7, .inl (upd g2_26 2 (-1)))), (a0, .inr (5, [.int (nI an), .int am, .int al, .int ao, .int au, .ref a1, .ref a2, .ref a3, .ref a4, .ref a5, .ref a6, .ref a7, .ref a8, .ref a9, .ref a10])), (a1, .inl (T 0, 10, .inl af1)), (a2, .inl (T 0, 10, .inl af2))]) rfl dX0_layFrom_138 (fun H locs V => ?_)
                  refine lv_iinc (v := (nI (k57 + 1))) (lv' := [(5, .int (nI (k57 + 1))), (6, .int (if 0 ≤ ((af1 2) - (af2 k57)) then ((af1 2) - (af2 k57)) else 0 - ((af1 2) - (af2 k57)))), (0, .ref y0), (1, .ref a0), (2, .int (nI 2)), (3, .int tk), (4, .int sum)]) hx hb dX0_layFrom_139 hl (k := 1) rfl (nI_1 _) (by decide) rfl (fun ls hl => ?_)
                  refine lv_goto (tgt := 57) hx hb dX0_layFrom_142 (by decide) ?_
                  exact ih_57 (k57 + 1) bs_24 g1_25 (upd g2_26 2 (-1)) (by omega) (fun j hj => if q : j = 2 then by rw [q, up_same]; exact (h_pm 2 (by omega) (by omega)).symm else (up_other q).trans ((f_28 j hj).trans ((up_other q).trans (hgb j hj)))) (by rw [gck_y (fun q => q.elim (fun r => f_21 ((h_us k57 (by omega)).mpr r)) (fun r => by rw [f_23] at r; cases r)), List.foldl_append]; exact f_27) (by omega) _ _ _ V (lv_sub hl [0, 2, 3, 4, 5, 6] rfl)
        exact L_18 _ 0 ys yb yt (by omega) (fun _ _ => rfl) h_st (Nat.lt_succ_self _) _ _ _ V (lv_sub hl [0, 1, 2, 3, 4, 5] rfl)
    · skip
      exact g_vret (Qr := (q_y_layf2 T fa pp so_ y0 a0 tk sum ys y1 y2 yb yt an am al ao au a1 a2 a3 a4 a5 a6 a7 a8 a9 a10 af1 af2)) hC V ⟨(Nat.le_of_ble_eq_true rfl), (Nat.le_of_ble_eq_true rfl)⟩ ⟨ys, yb, yt, rfl, rfl, (rs_pr h_st c_1 h_sum (by omega) c_15), (fun _ _ => rfl)⟩ dX0_layFrom_17

def q_y_layf1 (T : Nat → ClassId) (fa : Nat → Int32) (pp : List Nat) (so_ : Option (List Nat)) (y0 : Nat) (a0 : Nat) (tk : Int32) (sum : Int32) (ys : Int32) (y1 : Nat) (y2 : Nat) (yb : Nat → Int32) (yt : Nat → Int32) (an : Nat) (am : Int32) (al : Int32) (ao : Int32) (au : Int32) (a1 : Nat) (a2 : Nat) (a3 : Nat) (a4 : Nat) (a5 : Nat) (a6 : Nat) (a7 : Nat) (a8 : Nat) (a9 : Nat) (a10 : Nat) (af1 : Nat → Int32) (af2 : Nat → Int32) : Option Value → va_W → Prop := fun rr ww => (∃ (bs : Int32) (g1 : Nat → Int32) (g2 : Nat → Int32), rr = none ∧ ww = [(y0, .inr (0, [.int bs, .ref y1, .ref y2])), (y1, .inl (T 0, 7, .inl g1)), (y2, .inl (T 0, 7, .inl g2)), (a0, .inr (5, [.int (nI an), .int am, .int al, .int ao, .int au, .ref a1, .ref a2, .ref a3, .ref a4, .ref a5, .ref a6, .ref a7, .ref a8, .ref a9, .ref a10])), (a1, .inl (T 0, 10, .inl af1)), (a2, .inl (T 0, 10, .inl af2))] ∧ RST an fa ((gC an (an - 1) pp).foldl (upC fa) so_) bs g1 ∧ (∀ j, j < 7 → g2 j = yt j))
set_option maxHeartbeats 4000000 in
set_option maxRecDepth 100000 in
theorem y_layf1 (l : Launch) (D : va_G) (T : Nat → ClassId) (fa : Nat → Int32) (pp : List Nat) (so_ : Option (List Nat)) (y0 : Nat) (a0 : Nat) (tk : Int32) (sum : Int32) (ys : Int32) (y1 : Nat) (y2 : Nat) (yb : Nat → Int32) (yt : Nat → Int32) (an : Nat) (am : Int32) (al : Int32) (ao : Int32) (au : Int32) (a1 : Nat) (a2 : Nat) (a3 : Nat) (a4 : Nat) (a5 : Nat) (a6 : Nat) (a7 : Nat) (a8 : Nat) (a9 : Nat) (a10 : Nat) (af1 : Nat → Int32) (af2 : Nat → Int32) (h_n : an ≤ 7) (h_pp : PFX an pp 1 yt) (h_pm : ∀ j, 1 ≤ j → j < 7 → yt j = -1) (h_us : USE pp tk) (h_sum : sum = nI (smL fa 0 pp)) (h_sb : smL fa 0 pp ≤ 60 * 1) (h_st : RST an fa so_ ys yb) (h_kn : 1 ≤ an) (h_a : MI an fa) (h_s1 : ∀ i, i < an → af1 i = fa (4 + i)) (h_s2 : ∀ i, i < an → af2 i = fa (14 + i)) : Ct l yX0_layFrom cX0_layFrom 7 none 8 0 0 D T [.ref y0, .ref a0, .int (nI 1), .int tk, .int sum] [(y0, .inr (0, [.int ys, .ref y1, .ref y2])), (y1, .inl (T 0, 7, .inl yb)), (y2, .inl (T 0, 7, .inl yt)), (a0, .inr (5, [.int (nI an), .int am, .int al, .int ao, .int au, .ref a1, .ref a2, .ref a3, .ref a4, .ref a5, .ref a6, .ref a7, .ref a8, .ref a9, .ref a10])), (a1, .inl (T 0, 10, .inl af1)), (a2, .inl (T 0, 10, .inl af2))] (q_y_layf1 T fa pp so_ y0 a0 tk sum ys y1 y2 yb yt an am al ao au a1 a2 a3 a4 a5 a6 a7 a8 a9 a10 af1 af2) := by
  refine Ct.of (cc := cX0_layFrom) (maxL := 7) (ret := none) (by decide) (Nat.le_of_ble_eq_true rfl) ?_
  intro p e s m args below meth c A ls hC hnm V hl
  obtain ⟨hx, hb, hr, hml, hown, hts, hlocks⟩ := id hC
  generalize hH : s.heap = H at V ⊢
  clear hH
  have hl : lv_has ls 7 [(0, .ref y0), (1, .ref a0), (2, .int (nI 1)), (3, .int tk), (4, .int sum)] := hl
  generalize hlo : ([] : List Loc) = locs at V ⊢
  clear hlo
  refine lv_aload_n hx hb dX0_layFrom_0 rfl (lv_at hl 0 rfl) ?_
  refine g_get hC V (ci := 0) uwX0 0 rfl rfl 0 (by decide) w_211 rfl rfl dX0_layFrom_1 ?_
  refine lv_iconst (v := (-1)) hx hb dX0_layFrom_4 (by decide +kernel) ?_
  refine lv_icmp_eq (tgt := 18) hx hb dX0_layFrom_5 (by decide) (fun c_1 => ?_) (fun c_1 => ?_)
  · skip
    refine lv_iload_n hx hb dX0_layFrom_18 rfl (lv_at hl 2 rfl) ?_
    refine lv_aload_n hx hb dX0_layFrom_19 rfl (lv_at hl 1 rfl) ?_
    refine g_get hC V (ci := 5) uwX5 3 rfl rfl 0 (by decide) w_35 rfl rfl dX0_layFrom_20 ?_
    refine lv_icmp_ge (tgt := 32) hx hb dX0_layFrom_23 (by decide) (fun c_2 => ?_) (fun c_2 => ?_)
    · skip
      have c_2 := b_le (by omega) (by omega) c_2
      refine lv_aload_n hx hb dX0_layFrom_32 rfl (lv_at hl 0 rfl) ?_
      refine lv_iload hx hb dX0_layFrom_33 (lv_at hl 4 rfl) ?_
      refine g_put hC V (ci := 0) uwX0 tyX0 tyX0_ok nmX0 0 rfl rfl 0 (by decide) w_211 rfl rfl rfl rfl (Nat.le_of_ble_eq_true rfl) (ws' := [(y0, .inr (0, [.int sum, .ref y1, .ref y2])), (y1, .inl (T 0, 7, .inl yb)), (y2, .inl (T 0, 7, .inl yt)), (a0, .inr (5, [.int (nI an), .int am, .int al, .int ao, .int au, .ref a1, .ref a2, .ref a3, .ref a4, .ref a5, .ref a6, .ref a7, .ref a8, .ref a9, .ref a10])), (a1, .inl (T 0, 10, .inl af1)), (a2, .inl (T 0, 10, .inl af2))]) rfl dX0_layFrom_35 (fun H locs V => ?_)
      refine lv_aload_n hx hb dX0_layFrom_38 rfl (lv_at hl 0 rfl) ?_
      refine g_get hC V (ci := 0) uwX0 0 rfl rfl 2 (by decide) w_215 rfl rfl dX0_layFrom_39 ?_
      refine lv_iconst (v := (nI 0)) hx hb dX0_layFrom_42 (by decide +kernel) ?_
      refine lv_aload_n hx hb dX0_layFrom_43 rfl (lv_at hl 0 rfl) ?_
      refine g_get hC V (ci := 0) uwX0 0 rfl rfl 1 (by decide) w_213 rfl rfl dX0_layFrom_44 ?_
      refine lv_iconst (v := (nI 0)) hx hb dX0_layFrom_47 (by decide +kernel) ?_
      refine lv_bipush (v := (nI 7)) hx hb dX0_layFrom_48 (by decide +kernel) ?_
      refine g_copyf hC V hl.1 w_808 w_672 w_671 w_17 2 1 rfl rfl (by decide +kernel) (by decide +kernel) (Nat.le_of_ble_eq_true rfl) (Nat.le_of_ble_eq_true rfl) (Nat.le_of_ble_eq_true rfl) dX0_layFrom_50 7 (by decide +kernel) (fun g_3 hcp H locs V => ?_)
      have V : gW D T A s [(y0, .inr (0, [.int sum, .ref y1, .ref y2])), (y1, .inl (T 0, 7, .inl g_3)), (y2, .inl (T 0, 7, .inl yt)), (a0, .inr (5, [.int (nI an), .int am, .int al, .int ao, .int au, .ref a1, .ref a2, .ref a3, .ref a4, .ref a5, .ref a6, .ref a7, .ref a8, .ref a9, .ref a10])), (a1, .inl (T 0, 10, .inl af1)), (a2, .inl (T 0, 10, .inl af2))] H locs := V
      exact g_vret (Qr := (q_y_layf1 T fa pp so_ y0 a0 tk sum ys y1 y2 yb yt an am al ao au a1 a2 a3 a4 a5 a6 a7 a8 a9 a10 af1 af2)) hC V ⟨(Nat.le_of_ble_eq_true rfl), (Nat.le_of_ble_eq_true rfl)⟩ ⟨sum, g_3, yt, rfl, rfl, (by rw [show an - 1 = 0 by omega]; exact rs_up h_st h_sum (by omega) (Or.inl c_1) (fun i hi => (hcp i (by omega)).trans (h_pp.2 i (by omega)).1)), (fun _ _ => rfl)⟩ dX0_layFrom_53
    · skip
      have c_2 := b_nle (by omega) (by omega) c_2
      refine lv_iload_n hx hb dX0_layFrom_26 rfl (lv_at hl 2 rfl) ?_
      refine lv_bipush (v := (nI 7)) hx hb dX0_layFrom_27 (by decide +kernel) ?_
      refine lv_icmp_lt (tgt := 54) hx hb dX0_layFrom_29 (by decide) (fun _ => ?_) (fun c => absurd (show (nI 1) < (nI 7) by first | rfl | decide +kernel) c)
      refine lv_iconst (v := (nI 0)) hx hb dX0_layFrom_54 (by decide +kernel) ?_
      refine lv_istore (lv' := [(5, .int (nI 0)), (0, .ref y0), (1, .ref a0), (2, .int (nI 1)), (3, .int tk), (4, .int sum)]) hx hb dX0_layFrom_55 hl (by decide) rfl (fun ls hl => ?_)
      have L_4 : ∀ (fu : Nat) (k57 : Nat) (bv : Int32) (ga : Nat → Int32) (gb : Nat → Int32), k57 ≤ an → (∀ j, j < 7 → gb j = yt j) → RST an fa ((gcK an (an - 2) pp k57).foldl (upC fa) so_) bv ga → an - k57 < fu → ∀ (H : Heap) (locs : List Loc) (ls : Array Slot), gW D T A s [(y0, .inr (0, [.int bv, .ref y1, .ref y2])), (y1, .inl (T 0, 7, .inl ga)), (y2, .inl (T 0, 7, .inl gb)), (a0, .inr (5, [.int (nI an), .int am, .int al, .int ao, .int au, .ref a1, .ref a2, .ref a3, .ref a4, .ref a5, .ref a6, .ref a7, .ref a8, .ref a9, .ref a10])), (a1, .inl (T 0, 10, .inl af1)), (a2, .inl (T 0, 10, .inl af2))] H locs → lv_has ls 7 [(5, .int (nI k57)), (0, .ref y0), (1, .ref a0), (2, .int (nI 1)), (3, .int tk), (4, .int sum)] → W p l e (rmD 8 0 0) s m args below meth c H locs 0 0 (MQ below (gQ D A (q_y_layf1 T fa pp so_ y0 a0 tk sum ys y1 y2 yb yt an am al ao au a1 a2 a3 a4 a5 a6 a7 a8 a9 a10 af1 af2)) args s 0 0 A) (F0 m 57 ls []) := by
        intro fu_57
        induction fu_57 with
        | zero => intro k57 bv ga gb hk57 hgb hR hmu; exact absurd hmu (Nat.not_lt_zero _)
        | succ fu_57 ih_57 =>
          intro k57 bv ga gb hk57 hgb hR hmu_57 H locs ls V hl
          refine lv_iload hx hb dX0_layFrom_57 (lv_at hl 0 rfl) ?_
          refine lv_aload_n hx hb dX0_layFrom_59 rfl (lv_at hl 2 rfl) ?_
          refine g_get hC V (ci := 5) uwX5 3 rfl rfl 0 (by decide) w_35 rfl rfl dX0_layFrom_60 ?_
          refine lv_icmp_ge (tgt := 145) hx hb dX0_layFrom_63 (by decide) (fun c_5 => ?_) (fun c_5 => ?_)
          · skip
            have c_5 := b_le (by omega) (by omega) c_5
            exact g_vret (Qr := (q_y_layf1 T fa pp so_ y0 a0 tk sum ys y1 y2 yb yt an am al ao au a1 a2 a3 a4 a5 a6 a7 a8 a9 a10 af1 af2)) hC V ⟨(Nat.le_of_ble_eq_true rfl), (Nat.le_of_ble_eq_true rfl)⟩ ⟨bv, ga, gb, rfl, rfl, (by rw [show an - 1 = (an - 2) + 1 by omega]; have q := hR; rw [show k57 = an by omega] at q; exact q), hgb⟩ dX0_layFrom_145
          · skip
            have c_5 := b_nle (by omega) (by omega) c_5
            refine lv_iload_n hx hb dX0_layFrom_66 rfl (lv_at hl 4 rfl) ?_
            refine lv_iload hx hb dX0_layFrom_67 (lv_at hl 0 rfl) ?_
            refine g_callSNU (nA := 2) (host := RX7) hC V hl.1 (c_isIn_f l D T tk k57) w_472 (List.mem_of_getElem? (i := 7) rfl) w_2 w_471 (by decide +kernel) rfl ⟨(Nat.le_of_ble_eq_true rfl), (Nat.le_of_ble_eq_true rfl)⟩ [] rfl rfl (Nat.le_of_ble_eq_true rfl) dX0_layFrom_69 ⟨(Nat.le_of_ble_eq_true rfl), (Nat.le_of_ble_eq_true rfl)⟩ rfl (fun r w1 H locs hQ V => ?_)
            rcases hQ with ⟨rfl, rfl, f_6⟩ | ⟨rfl, rfl, f_7⟩
            · have V : gW D T A s [(y0, .inr (0, [.int bv, .ref y1, .ref y2])), (y1, .inl (T 0, 7, .inl ga)), (y2, .inl (T 0, 7, .inl gb)), (a0, .inr (5, [.int (nI an), .int am, .int al, .int ao, .int au, .ref a1, .ref a2, .ref a3, .ref a4, .ref a5, .ref a6, .ref a7, .ref a8, .ref a9, .ref a10])), (a1, .inl (T 0, 10, .inl af1)), (a2, .inl (T 0, 10, .inl af2))] H locs := V _ [] rfl rfl rfl (by decide +kernel) rfl
              show W p l e _ s m args below meth c H locs _ _ _ (F0 m 72 ls [.int (nI 1)])
              refine lv_if_ne (tgt := 139) hx hb dX0_layFrom_72 (by decide) (fun _ => ?_) (fun c => absurd (show (nI 1) = 0 from c) (by decide +kernel))
              refine lv_iinc (v := (nI (k57 + 1))) (lv' := [(5, .int (nI (k57 + 1))), (0, .ref y0), (1, .ref a0), (2, .int (nI 1)), (3, .int tk), (4, .int sum)]) hx hb dX0_layFrom_139 hl (k := 0) rfl (nI_1 _) (by decide) rfl (fun ls hl => ?_)
              refine lv_goto (tgt := 57) hx hb dX0_layFrom_142 (by decide) ?_
              exact ih_57 (k57 + 1) bv ga gb (by omega) hgb (by rw [gck_n (Or.inl ((h_us k57 (by omega)).mp f_6))]; exact hR) (by omega) _ _ _ V (lv_sub hl [0, 1, 2, 3, 4, 5] rfl)
            · have V : gW D T A s [(y0, .inr (0, [.int bv, .ref y1, .ref y2])), (y1, .inl (T 0, 7, .inl ga)), (y2, .inl (T 0, 7, .inl gb)), (a0, .inr (5, [.int (nI an), .int am, .int al, .int ao, .int au, .ref a1, .ref a2, .ref a3, .ref a4, .ref a5, .ref a6, .ref a7, .ref a8, .ref a9, .ref a10])), (a1, .inl (T 0, 10, .inl af1)), (a2, .inl (T 0, 10, .inl af2))] H locs := V _ [] rfl rfl rfl (by decide +kernel) rfl
              show W p l e _ s m args below meth c H locs _ _ _ (F0 m 72 ls [.int (nI 0)])
              refine lv_if_ne (tgt := 139) hx hb dX0_layFrom_72 (by decide) (fun c => absurd (show (nI 0) = 0 by decide +kernel) c) (fun _ => ?_)
              refine lv_aload_n hx hb dX0_layFrom_75 rfl (lv_at hl 1 rfl) ?_
              refine lv_aload_n hx hb dX0_layFrom_76 rfl (lv_at hl 2 rfl) ?_
              refine lv_iload_n hx hb dX0_layFrom_77 rfl (lv_at hl 3 rfl) ?_
              refine lv_iload hx hb dX0_layFrom_78 (lv_at hl 0 rfl) ?_
              refine g_callVU (nA := 3) hC V hl.1 (y_closes_f l D T pp y0 a0 1 k57 bv y1 y2 gb an am al ao au a1 a2 a3 a4 a5 a6 a7 a8 a9 a10 (by first | assumption | omega) (pf_e h_pp (fun j hj => hgb j (by omega))) (fun j h1 h2 => (hgb j h2).trans (h_pm j h1 h2)) (by omega) (by omega)) w_810 w_812 w_s32 w_7 w_813 (by decide +kernel) rfl ⟨(Nat.le_of_ble_eq_true rfl), (Nat.le_of_ble_eq_true rfl)⟩ 0 (ci := 0) rfl rfl [0, 2, 3] rfl rfl (Nat.le_of_ble_eq_true rfl) dX0_layFrom_80 ⟨(Nat.le_of_ble_eq_true rfl), (Nat.le_of_ble_eq_true rfl)⟩ rfl (fun r w1 H locs hQ V => ?_)
              rcases hQ with ⟨rfl, rfl, f_8⟩ | ⟨rfl, rfl, f_9⟩
              · have V : gW D T A s [(y0, .inr (0, [.int bv, .ref y1, .ref y2])), (y1, .inl (T 0, 7, .inl ga)), (y2, .inl (T 0, 7, .inl gb)), (a0, .inr (5, [.int (nI an), .int am, .int al, .int ao, .int au, .ref a1, .ref a2, .ref a3, .ref a4, .ref a5, .ref a6, .ref a7, .ref a8, .ref a9, .ref a10])), (a1, .inl (T 0, 10, .inl af1)), (a2, .inl (T 0, 10, .inl af2))] H locs := V _ [0, 1, 0] rfl rfl rfl (by decide +kernel) rfl
                show W p l e _ s m args below meth c H locs _ _ _ (F0 m 83 ls [.int (nI 1)])
                refine lv_if_ne (tgt := 139) hx hb dX0_layFrom_83 (by decide) (fun _ => ?_) (fun c => absurd (show (nI 1) = 0 from c) (by decide +kernel))
                refine lv_iinc (v := (nI (k57 + 1))) (lv' := [(5, .int (nI (k57 + 1))), (0, .ref y0), (1, .ref a0), (2, .int (nI 1)), (3, .int tk), (4, .int sum)]) hx hb dX0_layFrom_139 hl (k := 0) rfl (nI_1 _) (by decide) rfl (fun ls hl => ?_)
                refine lv_goto (tgt := 57) hx hb dX0_layFrom_142 (by decide) ?_
                exact ih_57 (k57 + 1) bv ga gb (by omega) hgb (by rw [gck_n (Or.inr f_8)]; exact hR) (by omega) _ _ _ V (lv_sub hl [0, 1, 2, 3, 4, 5] rfl)
              · have V : gW D T A s [(y0, .inr (0, [.int bv, .ref y1, .ref y2])), (y1, .inl (T 0, 7, .inl ga)), (y2, .inl (T 0, 7, .inl gb)), (a0, .inr (5, [.int (nI an), .int am, .int al, .int ao, .int au, .ref a1, .ref a2, .ref a3, .ref a4, .ref a5, .ref a6, .ref a7, .ref a8, .ref a9, .ref a10])), (a1, .inl (T 0, 10, .inl af1)), (a2, .inl (T 0, 10, .inl af2))] H locs := V _ [0, 1, 0] rfl rfl rfl (by decide +kernel) rfl
                show W p l e _ s m args below meth c H locs _ _ _ (F0 m 83 ls [.int (nI 0)])
                refine lv_if_ne (tgt := 139) hx hb dX0_layFrom_83 (by decide) (fun c => absurd (show (nI 0) = 0 by decide +kernel) c) (fun _ => ?_)
                refine lv_aload_n hx hb dX0_layFrom_86 rfl (lv_at hl 1 rfl) ?_
                refine g_get hC V (ci := 0) uwX0 0 rfl rfl 2 (by decide) w_215 rfl rfl dX0_layFrom_87 ?_
                refine lv_iload_n hx hb dX0_layFrom_90 rfl (lv_at hl 3 rfl) ?_
                refine lv_iload hx hb dX0_layFrom_91 (lv_at hl 0 rfl) ?_
                refine g_iast hC V 2 rfl (vp_in_nI (by decide) (by decide)) (f' := (upd gb 1 (nI k57))) (by rw [nI_clamp (by decide)]) (ws' := [(y0, .inr (0, [.int bv, .ref y1, .ref y2])), (y1, .inl (T 0, 7, .inl ga)), (y2, .inl (T 0, 7, .inl (upd gb 1 (nI k57)))), (a0, .inr (5, [.int (nI an), .int am, .int al, .int ao, .int au, .ref a1, .ref a2, .ref a3, .ref a4, .ref a5, .ref a6, .ref a7, .ref a8, .ref a9, .ref a10])), (a1, .inl (T 0, 10, .inl af1)), (a2, .inl (T 0, 10, .inl af2))]) rfl dX0_layFrom_93 (fun H locs V => ?_)
                refine lv_aload_n hx hb dX0_layFrom_94 rfl (lv_at hl 2 rfl) ?_
                refine g_get hC V (ci := 5) uwX5 3 rfl rfl 5 (by decide) w_52 rfl rfl dX0_layFrom_95 ?_
                refine lv_iload_n hx hb dX0_layFrom_98 rfl (lv_at hl 3 rfl) ?_
                refine g_iald hC V 4 rfl (vp_in_nI (by decide) (by decide)) (v := (af1 1)) (congrArg _ (nI_clamp (by decide))) dX0_layFrom_99 ?_
                refine lv_aload_n hx hb dX0_layFrom_100 rfl (lv_at hl 2 rfl) ?_
                refine g_get hC V (ci := 5) uwX5 3 rfl rfl 6 (by decide) w_58 rfl rfl dX0_layFrom_101 ?_
                refine lv_iload hx hb dX0_layFrom_104 (lv_at hl 0 rfl) ?_
                refine g_iald hC V 5 rfl (vp_in_nI (by omega) (by omega)) (v := (af2 k57)) (congrArg _ (nI_clamp (by omega))) dX0_layFrom_106 ?_
                refine lv_isub hx hb dX0_layFrom_107 ?_
                refine va_mabs hx hb (hml.trans hl.1.symm) hown (hts _ w_814) (hts _ w_815) (hts _ w_10) (hts _ w_816) (Nat.le_of_ble_eq_true rfl) (Nat.le_of_ble_eq_true rfl) (Nat.le_of_ble_eq_true rfl) (Nat.le_of_ble_eq_true rfl) dX0_layFrom_108 ?_
                refine lv_istore (lv' := [(6, .int (if 0 ≤ ((af1 1) - (af2 k57)) then ((af1 1) - (af2 k57)) else 0 - ((af1 1) - (af2 k57)))), (5, .int (nI k57)), (0, .ref y0), (1, .ref a0), (2, .int (nI 1)), (3, .int tk), (4, .int sum)]) hx hb dX0_layFrom_111 hl (by decide) rfl (fun ls hl => ?_)
                refine lv_aload_n hx hb dX0_layFrom_113 rfl (lv_at hl 2 rfl) ?_
                refine lv_aload_n hx hb dX0_layFrom_114 rfl (lv_at hl 3 rfl) ?_
                refine lv_iload_n hx hb dX0_layFrom_115 rfl (lv_at hl 4 rfl) ?_
                refine lv_iconst (v := (nI 1)) hx hb dX0_layFrom_116 (by decide +kernel) ?_
                refine lv_iadd hx hb dX0_layFrom_117 ?_
                refine g_vi (y := (nI 2)) (by decide +kernel) ?_
                refine lv_iload_n hx hb dX0_layFrom_118 rfl (lv_at hl 5 rfl) ?_
                refine lv_iconst (v := (nI 1)) hx hb dX0_layFrom_119 (by decide +kernel) ?_
                refine lv_iload hx hb dX0_layFrom_120 (lv_at hl 1 rfl) ?_
                refine lv_ishl hx hb dX0_layFrom_122 ?_
                refine lv_ior hx hb dX0_layFrom_123 ?_
                refine lv_iload hx hb dX0_layFrom_124 (lv_at hl 6 rfl) ?_
                refine lv_iload hx hb dX0_layFrom_126 (lv_at hl 0 rfl) ?_
                refine lv_iadd hx hb dX0_layFrom_128 ?_
                refine g_callV (wr := []) (nA := 4) hC V hl.1 (y_layf2 l D T fa (pp ++ [k57]) ((gcK an (an - 2) pp k57).foldl (upC fa) so_) y0 a0 (tk ||| ((nI 1) <<< ((nI k57) &&& 31))) (sum + (if 0 ≤ ((af1 1) - (af2 k57)) then ((af1 1) - (af2 k57)) else 0 - ((af1 1) - (af2 k57)))) bv y1 y2 ga (upd gb 1 (nI k57)) an am al ao au a1 a2 a3 a4 a5 a6 a7 a8 a9 a10 af1 af2 (by first | assumption | omega) (pf_s (pf_e h_pp (fun j hj => hgb j (by omega))) (by omega)) (fun j h1 h2 => (up_other (by omega)).trans ((hgb j h2).trans (h_pm j (by omega) h2))) (us_s h_us (by omega)) (sqz_s h_a (by omega) (by omega) h_sum h_pp.1 (of_c (n := an) (h_s1 1 (by omega)) (h_s2 k57 (by omega)) rfl)) (sqz_b h_a (by omega) (by omega) h_sb h_pp.1) hR (by omega) (by first | assumption | omega) (by first | assumption | omega) (by first | assumption | omega)) w_804 w_806 w_s31 w_7 w_807 (by decide +kernel) rfl ⟨(Nat.le_of_ble_eq_true rfl), (Nat.le_of_ble_eq_true rfl)⟩ 0 (ci := 0) rfl rfl [0, 1, 2, 3, 4, 5] [] rfl rfl rfl rfl (by decide) (Nat.le_of_ble_eq_true rfl) dX0_layFrom_129 ⟨(Nat.le_of_ble_eq_true rfl), (Nat.le_of_ble_eq_true rfl)⟩ rfl (fun r w1 H locs hQ V => ?_)
                obtain ⟨bs_10, g1_11, g2_12, rfl, rfl, f_13, f_14⟩ := hQ
                have V : gW D T A s [(y0, .inr (0, [.int bs_10, .ref y1, .ref y2])), (y1, .inl (T 0, 7, .inl g1_11)), (y2, .inl (T 0, 7, .inl g2_12)), (a0, .inr (5, [.int (nI an), .int am, .int al, .int ao, .int au, .ref a1, .ref a2, .ref a3, .ref a4, .ref a5, .ref a6, .ref a7, .ref a8, .ref a9, .ref a10])), (a1, .inl (T 0, 10, .inl af1)), (a2, .inl (T 0, 10, .inl af2))] H locs := V
                show W p l e _ s m args below meth c H locs _ _ _ (F0 m 132 ls [])
                refine lv_aload_n hx hb dX0_layFrom_132 rfl (lv_at hl 2 rfl) ?_
                refine g_get hC V (ci := 0) uwX0 0 rfl rfl 2 (by decide) w_215 rfl rfl dX0_layFrom_133 ?_
                refine lv_iload_n hx hb dX0_layFrom_136 rfl (lv_at hl 4 rfl) ?_
                refine lv_iconst (v := (-1)) hx hb dX0_layFrom_137 (by decide +kernel) ?_
                refine g_iast hC V 2 rfl (vp_in_nI (by decide) (by decide)) (f' := (upd g2_12 1 (-1))) (by rw [nI_clamp (by decide)]) (ws' := [(y0, .inr (0, [.int bs_10, .ref y1, .ref y2])), (y1, .inl (T 0, 7, .inl g1_11)), (y2, .inl (T 0, 7, .inl (upd g2_12 1 (-1)))), (a0, .inr (5, [.int (nI an), .int am, .int al, .int ao, .int au, .ref a1, .ref a2, .ref a3, .ref a4, .ref a5, .ref a6, .ref a7, .ref a8, .ref a9, .ref a10])), (a1, .inl (T 0, 10, .inl af1)), (a2, .inl (T 0, 10, .inl af2))]) rfl dX0_layFrom_138 (fun H locs V => ?_)
                refine lv_iinc (v := (nI (k57 + 1))) (lv' := [(5, .int (nI (k57 + 1))), (6, .int (if 0 ≤ ((af1 1) - (af2 k57)) then ((af1 1) - (af2 k57)) else 0 - ((af1 1) - (af2 k57)))), (0, .ref y0), (1, .ref a0), (2, .int (nI 1)), (3, .int tk), (4, .int sum)]) hx hb dX0_layFrom_139 hl (k := 1) rfl (nI_1 _) (by decide) rfl (fun ls hl => ?_)
                refine lv_goto (tgt := 57) hx hb dX0_layFrom_142 (by decide) ?_
                exact ih_57 (k57 + 1) bs_10 g1_11 (upd g2_12 1 (-1)) (by omega) (fun j hj => if q : j = 1 then by rw [q, up_same]; exact (h_pm 1 (by omega) (by omega)).symm else (up_other q).trans ((f_14 j hj).trans ((up_other q).trans (hgb j hj)))) (by rw [gck_y (fun q => q.elim (fun r => f_7 ((h_us k57 (by omega)).mpr r)) (fun r => by rw [f_9] at r; cases r)), List.foldl_append]; exact f_13) (by omega) _ _ _ V (lv_sub hl [0, 2, 3, 4, 5, 6] rfl)
      exact L_4 _ 0 ys yb yt (by omega) (fun _ _ => rfl) h_st (Nat.lt_succ_self _) _ _ _ V (lv_sub hl [0, 1, 2, 3, 4, 5] rfl)
  · skip
    refine lv_iload hx hb dX0_layFrom_8 (lv_at hl 4 rfl) ?_
    refine lv_aload_n hx hb dX0_layFrom_10 rfl (lv_at hl 0 rfl) ?_
    refine g_get hC V (ci := 0) uwX0 0 rfl rfl 0 (by decide) w_211 rfl rfl dX0_layFrom_11 ?_
    refine lv_icmp_lt (tgt := 18) hx hb dX0_layFrom_14 (by decide) (fun c_15 => ?_) (fun c_15 => ?_)
    · skip
      refine lv_iload_n hx hb dX0_layFrom_18 rfl (lv_at hl 2 rfl) ?_
      refine lv_aload_n hx hb dX0_layFrom_19 rfl (lv_at hl 1 rfl) ?_
      refine g_get hC V (ci := 5) uwX5 3 rfl rfl 0 (by decide) w_35 rfl rfl dX0_layFrom_20 ?_
      refine lv_icmp_ge (tgt := 32) hx hb dX0_layFrom_23 (by decide) (fun c_16 => ?_) (fun c_16 => ?_)
      · skip
        have c_16 := b_le (by omega) (by omega) c_16
        refine lv_aload_n hx hb dX0_layFrom_32 rfl (lv_at hl 0 rfl) ?_
        refine lv_iload hx hb dX0_layFrom_33 (lv_at hl 4 rfl) ?_
        refine g_put hC V (ci := 0) uwX0 tyX0 tyX0_ok nmX0 0 rfl rfl 0 (by decide) w_211 rfl rfl rfl rfl (Nat.le_of_ble_eq_true rfl) (ws' := [(y0, .inr (0, [.int sum, .ref y1, .ref y2])), (y1, .inl (T 0, 7, .inl yb)), (y2, .inl (T 0, 7, .inl yt)), (a0, .inr (5, [.int (nI an), .int am, .int al, .int ao, .int au, .ref a1, .ref a2, .ref a3, .ref a4, .ref a5, .ref a6, .ref a7, .ref a8, .ref a9, .ref a10])), (a1, .inl (T 0, 10, .inl af1)), (a2, .inl (T 0, 10, .inl af2))]) rfl dX0_layFrom_35 (fun H locs V => ?_)
        refine lv_aload_n hx hb dX0_layFrom_38 rfl (lv_at hl 0 rfl) ?_
        refine g_get hC V (ci := 0) uwX0 0 rfl rfl 2 (by decide) w_215 rfl rfl dX0_layFrom_39 ?_
        refine lv_iconst (v := (nI 0)) hx hb dX0_layFrom_42 (by decide +kernel) ?_
        refine lv_aload_n hx hb dX0_layFrom_43 rfl (lv_at hl 0 rfl) ?_
        refine g_get hC V (ci := 0) uwX0 0 rfl rfl 1 (by decide) w_213 rfl rfl dX0_layFrom_44 ?_
        refine lv_iconst (v := (nI 0)) hx hb dX0_layFrom_47 (by decide +kernel) ?_
        refine lv_bipush (v := (nI 7)) hx hb dX0_layFrom_48 (by decide +kernel) ?_
        refine g_copyf hC V hl.1 w_808 w_672 w_671 w_17 2 1 rfl rfl (by decide +kernel) (by decide +kernel) (Nat.le_of_ble_eq_true rfl) (Nat.le_of_ble_eq_true rfl) (Nat.le_of_ble_eq_true rfl) dX0_layFrom_50 7 (by decide +kernel) (fun g_17 hcp H locs V => ?_)
        have V : gW D T A s [(y0, .inr (0, [.int sum, .ref y1, .ref y2])), (y1, .inl (T 0, 7, .inl g_17)), (y2, .inl (T 0, 7, .inl yt)), (a0, .inr (5, [.int (nI an), .int am, .int al, .int ao, .int au, .ref a1, .ref a2, .ref a3, .ref a4, .ref a5, .ref a6, .ref a7, .ref a8, .ref a9, .ref a10])), (a1, .inl (T 0, 10, .inl af1)), (a2, .inl (T 0, 10, .inl af2))] H locs := V
        exact g_vret (Qr := (q_y_layf1 T fa pp so_ y0 a0 tk sum ys y1 y2 yb yt an am al ao au a1 a2 a3 a4 a5 a6 a7 a8 a9 a10 af1 af2)) hC V ⟨(Nat.le_of_ble_eq_true rfl), (Nat.le_of_ble_eq_true rfl)⟩ ⟨sum, g_17, yt, rfl, rfl, (by rw [show an - 1 = 0 by omega]; exact rs_up h_st h_sum (by omega) (Or.inr c_15) (fun i hi => (hcp i (by omega)).trans (h_pp.2 i (by omega)).1)), (fun _ _ => rfl)⟩ dX0_layFrom_53
      · skip
        have c_16 := b_nle (by omega) (by omega) c_16
        refine lv_iload_n hx hb dX0_layFrom_26 rfl (lv_at hl 2 rfl) ?_
        refine lv_bipush (v := (nI 7)) hx hb dX0_layFrom_27 (by decide +kernel) ?_
        refine lv_icmp_lt (tgt := 54) hx hb dX0_layFrom_29 (by decide) (fun _ => ?_) (fun c => absurd (show (nI 1) < (nI 7) by first | rfl | decide +kernel) c)
        refine lv_iconst (v := (nI 0)) hx hb dX0_layFrom_54 (by decide +kernel) ?_
        refine lv_istore (lv' := [(5, .int (nI 0)), (0, .ref y0), (1, .ref a0), (2, .int (nI 1)), (3, .int tk), (4, .int sum)]) hx hb dX0_layFrom_55 hl (by decide) rfl (fun ls hl => ?_)
        have L_18 : ∀ (fu : Nat) (k57 : Nat) (bv : Int32) (ga : Nat → Int32) (gb : Nat → Int32), k57 ≤ an → (∀ j, j < 7 → gb j = yt j) → RST an fa ((gcK an (an - 2) pp k57).foldl (upC fa) so_) bv ga → an - k57 < fu → ∀ (H : Heap) (locs : List Loc) (ls : Array Slot), gW D T A s [(y0, .inr (0, [.int bv, .ref y1, .ref y2])), (y1, .inl (T 0, 7, .inl ga)), (y2, .inl (T 0, 7, .inl gb)), (a0, .inr (5, [.int (nI an), .int am, .int al, .int ao, .int au, .ref a1, .ref a2, .ref a3, .ref a4, .ref a5, .ref a6, .ref a7, .ref a8, .ref a9, .ref a10])), (a1, .inl (T 0, 10, .inl af1)), (a2, .inl (T 0, 10, .inl af2))] H locs → lv_has ls 7 [(5, .int (nI k57)), (0, .ref y0), (1, .ref a0), (2, .int (nI 1)), (3, .int tk), (4, .int sum)] → W p l e (rmD 8 0 0) s m args below meth c H locs 0 0 (MQ below (gQ D A (q_y_layf1 T fa pp so_ y0 a0 tk sum ys y1 y2 yb yt an am al ao au a1 a2 a3 a4 a5 a6 a7 a8 a9 a10 af1 af2)) args s 0 0 A) (F0 m 57 ls []) := by
          intro fu_57
          induction fu_57 with
          | zero => intro k57 bv ga gb hk57 hgb hR hmu; exact absurd hmu (Nat.not_lt_zero _)
          | succ fu_57 ih_57 =>
            intro k57 bv ga gb hk57 hgb hR hmu_57 H locs ls V hl
            refine lv_iload hx hb dX0_layFrom_57 (lv_at hl 0 rfl) ?_
            refine lv_aload_n hx hb dX0_layFrom_59 rfl (lv_at hl 2 rfl) ?_
            refine g_get hC V (ci := 5) uwX5 3 rfl rfl 0 (by decide) w_35 rfl rfl dX0_layFrom_60 ?_
            refine lv_icmp_ge (tgt := 145) hx hb dX0_layFrom_63 (by decide) (fun c_19 => ?_) (fun c_19 => ?_)
            · skip
              have c_19 := b_le (by omega) (by omega) c_19
              exact g_vret (Qr := (q_y_layf1 T fa pp so_ y0 a0 tk sum ys y1 y2 yb yt an am al ao au a1 a2 a3 a4 a5 a6 a7 a8 a9 a10 af1 af2)) hC V ⟨(Nat.le_of_ble_eq_true rfl), (Nat.le_of_ble_eq_true rfl)⟩ ⟨bv, ga, gb, rfl, rfl, (by rw [show an - 1 = (an - 2) + 1 by omega]; have q := hR; rw [show k57 = an by omega] at q; exact q), hgb⟩ dX0_layFrom_145
            · skip
              have c_19 := b_nle (by omega) (by omega) c_19
              refine lv_iload_n hx hb dX0_layFrom_66 rfl (lv_at hl 4 rfl) ?_
              refine lv_iload hx hb dX0_layFrom_67 (lv_at hl 0 rfl) ?_
              refine g_callSNU (nA := 2) (host := RX7) hC V hl.1 (c_isIn_f l D T tk k57) w_472 (List.mem_of_getElem? (i := 7) rfl) w_2 w_471 (by decide +kernel) rfl ⟨(Nat.le_of_ble_eq_true rfl), (Nat.le_of_ble_eq_true rfl)⟩ [] rfl rfl (Nat.le_of_ble_eq_true rfl) dX0_layFrom_69 ⟨(Nat.le_of_ble_eq_true rfl), (Nat.le_of_ble_eq_true rfl)⟩ rfl (fun r w1 H locs hQ V => ?_)
              rcases hQ with ⟨rfl, rfl, f_20⟩ | ⟨rfl, rfl, f_21⟩
              · have V : gW D T A s [(y0, .inr (0, [.int bv, .ref y1, .ref y2])), (y1, .inl (T 0, 7, .inl ga)), (y2, .inl (T 0, 7, .inl gb)), (a0, .inr (5, [.int (nI an), .int am, .int al, .int ao, .int au, .ref a1, .ref a2, .ref a3, .ref a4, .ref a5, .ref a6, .ref a7, .ref a8, .ref a9, .ref a10])), (a1, .inl (T 0, 10, .inl af1)), (a2, .inl (T 0, 10, .inl af2))] H locs := V _ [] rfl rfl rfl (by decide +kernel) rfl
                show W p l e _ s m args below meth c H locs _ _ _ (F0 m 72 ls [.int (nI 1)])
                refine lv_if_ne (tgt := 139) hx hb dX0_layFrom_72 (by decide) (fun _ => ?_) (fun c => absurd (show (nI 1) = 0 from c) (by decide +kernel))
                refine lv_iinc (v := (nI (k57 + 1))) (lv' := [(5, .int (nI (k57 + 1))), (0, .ref y0), (1, .ref a0), (2, .int (nI 1)), (3, .int tk), (4, .int sum)]) hx hb dX0_layFrom_139 hl (k := 0) rfl (nI_1 _) (by decide) rfl (fun ls hl => ?_)
                refine lv_goto (tgt := 57) hx hb dX0_layFrom_142 (by decide) ?_
                exact ih_57 (k57 + 1) bv ga gb (by omega) hgb (by rw [gck_n (Or.inl ((h_us k57 (by omega)).mp f_20))]; exact hR) (by omega) _ _ _ V (lv_sub hl [0, 1, 2, 3, 4, 5] rfl)
              · have V : gW D T A s [(y0, .inr (0, [.int bv, .ref y1, .ref y2])), (y1, .inl (T 0, 7, .inl ga)), (y2, .inl (T 0, 7, .inl gb)), (a0, .inr (5, [.int (nI an), .int am, .int al, .int ao, .int au, .ref a1, .ref a2, .ref a3, .ref a4, .ref a5, .ref a6, .ref a7, .ref a8, .ref a9, .ref a10])), (a1, .inl (T 0, 10, .inl af1)), (a2, .inl (T 0, 10, .inl af2))] H locs := V _ [] rfl rfl rfl (by decide +kernel) rfl
                show W p l e _ s m args below meth c H locs _ _ _ (F0 m 72 ls [.int (nI 0)])
                refine lv_if_ne (tgt := 139) hx hb dX0_layFrom_72 (by decide) (fun c => absurd (show (nI 0) = 0 by decide +kernel) c) (fun _ => ?_)
                refine lv_aload_n hx hb dX0_layFrom_75 rfl (lv_at hl 1 rfl) ?_
                refine lv_aload_n hx hb dX0_layFrom_76 rfl (lv_at hl 2 rfl) ?_
                refine lv_iload_n hx hb dX0_layFrom_77 rfl (lv_at hl 3 rfl) ?_
                refine lv_iload hx hb dX0_layFrom_78 (lv_at hl 0 rfl) ?_
                refine g_callVU (nA := 3) hC V hl.1 (y_closes_f l D T pp y0 a0 1 k57 bv y1 y2 gb an am al ao au a1 a2 a3 a4 a5 a6 a7 a8 a9 a10 (by first | assumption | omega) (pf_e h_pp (fun j hj => hgb j (by omega))) (fun j h1 h2 => (hgb j h2).trans (h_pm j h1 h2)) (by omega) (by omega)) w_810 w_812 w_s32 w_7 w_813 (by decide +kernel) rfl ⟨(Nat.le_of_ble_eq_true rfl), (Nat.le_of_ble_eq_true rfl)⟩ 0 (ci := 0) rfl rfl [0, 2, 3] rfl rfl (Nat.le_of_ble_eq_true rfl) dX0_layFrom_80 ⟨(Nat.le_of_ble_eq_true rfl), (Nat.le_of_ble_eq_true rfl)⟩ rfl (fun r w1 H locs hQ V => ?_)
                rcases hQ with ⟨rfl, rfl, f_22⟩ | ⟨rfl, rfl, f_23⟩
                · have V : gW D T A s [(y0, .inr (0, [.int bv, .ref y1, .ref y2])), (y1, .inl (T 0, 7, .inl ga)), (y2, .inl (T 0, 7, .inl gb)), (a0, .inr (5, [.int (nI an), .int am, .int al, .int ao, .int au, .ref a1, .ref a2, .ref a3, .ref a4, .ref a5, .ref a6, .ref a7, .ref a8, .ref a9, .ref a10])), (a1, .inl (T 0, 10, .inl af1)), (a2, .inl (T 0, 10, .inl af2))] H locs := V _ [0, 1, 0] rfl rfl rfl (by decide +kernel) rfl
                  show W p l e _ s m args below meth c H locs _ _ _ (F0 m 83 ls [.int (nI 1)])
                  refine lv_if_ne (tgt := 139) hx hb dX0_layFrom_83 (by decide) (fun _ => ?_) (fun c => absurd (show (nI 1) = 0 from c) (by decide +kernel))
                  refine lv_iinc (v := (nI (k57 + 1))) (lv' := [(5, .int (nI (k57 + 1))), (0, .ref y0), (1, .ref a0), (2, .int (nI 1)), (3, .int tk), (4, .int sum)]) hx hb dX0_layFrom_139 hl (k := 0) rfl (nI_1 _) (by decide) rfl (fun ls hl => ?_)
                  refine lv_goto (tgt := 57) hx hb dX0_layFrom_142 (by decide) ?_
                  exact ih_57 (k57 + 1) bv ga gb (by omega) hgb (by rw [gck_n (Or.inr f_22)]; exact hR) (by omega) _ _ _ V (lv_sub hl [0, 1, 2, 3, 4, 5] rfl)
                · have V : gW D T A s [(y0, .inr (0, [.int bv, .ref y1, .ref y2])), (y1, .inl (T 0, 7, .inl ga)), (y2, .inl (T 0, 7, .inl gb)), (a0, .inr (5, [.int (nI an), .int am, .int al, .int ao, .int au, .ref a1, .ref a2, .ref a3, .ref a4, .ref a5, .ref a6, .ref a7, .ref a8, .ref a9, .ref a10])), (a1, .inl (T 0, 10, .inl af1)), (a2, .inl (T 0, 10, .inl af2))] H locs := V _ [0, 1, 0] rfl rfl rfl (by decide +kernel) rfl
                  show W p l e _ s m args below meth c H locs _ _ _ (F0 m 83 ls [.int (nI 0)])
                  refine lv_if_ne (tgt := 139) hx hb dX0_layFrom_83 (by decide) (fun c => absurd (show (nI 0) = 0 by decide +kernel) c) (fun _ => ?_)
                  refine lv_aload_n hx hb dX0_layFrom_86 rfl (lv_at hl 1 rfl) ?_
                  refine g_get hC V (ci := 0) uwX0 0 rfl rfl 2 (by decide) w_215 rfl rfl dX0_layFrom_87 ?_
                  refine lv_iload_n hx hb dX0_layFrom_90 rfl (lv_at hl 3 rfl) ?_
                  refine lv_iload hx hb dX0_layFrom_91 (lv_at hl 0 rfl) ?_
                  refine g_iast hC V 2 rfl (vp_in_nI (by decide) (by decide)) (f' := (upd gb 1 (nI k57))) (by rw [nI_clamp (by decide)]) (ws' := [(y0, .inr (0, [.int bv, .ref y1, .ref y2])), (y1, .inl (T 0, 7, .inl ga)), (y2, .inl (T 0, 7, .inl (upd gb 1 (nI k57)))), (a0, .inr (5, [.int (nI an), .int am, .int al, .int ao, .int au, .ref a1, .ref a2, .ref a3, .ref a4, .ref a5, .ref a6, .ref a7, .ref a8, .ref a9, .ref a10])), (a1, .inl (T 0, 10, .inl af1)), (a2, .inl (T 0, 10, .inl af2))]) rfl dX0_layFrom_93 (fun H locs V => ?_)
                  refine lv_aload_n hx hb dX0_layFrom_94 rfl (lv_at hl 2 rfl) ?_
                  refine g_get hC V (ci := 5) uwX5 3 rfl rfl 5 (by decide) w_52 rfl rfl dX0_layFrom_95 ?_
                  refine lv_iload_n hx hb dX0_layFrom_98 rfl (lv_at hl 3 rfl) ?_
                  refine g_iald hC V 4 rfl (vp_in_nI (by decide) (by decide)) (v := (af1 1)) (congrArg _ (nI_clamp (by decide))) dX0_layFrom_99 ?_
                  refine lv_aload_n hx hb dX0_layFrom_100 rfl (lv_at hl 2 rfl) ?_
                  refine g_get hC V (ci := 5) uwX5 3 rfl rfl 6 (by decide) w_58 rfl rfl dX0_layFrom_101 ?_
                  refine lv_iload hx hb dX0_layFrom_104 (lv_at hl 0 rfl) ?_
                  refine g_iald hC V 5 rfl (vp_in_nI (by omega) (by omega)) (v := (af2 k57)) (congrArg _ (nI_clamp (by omega))) dX0_layFrom_106 ?_
                  refine lv_isub hx hb dX0_layFrom_107 ?_
                  refine va_mabs hx hb (hml.trans hl.1.symm) hown (hts _ w_814) (hts _ w_815) (hts _ w_10) (hts _ w_816) (Nat.le_of_ble_eq_true rfl) (Nat.le_of_ble_eq_true rfl) (Nat.le_of_ble_eq_true rfl) (Nat.le_of_ble_eq_true rfl) dX0_layFrom_108 ?_
                  refine lv_istore (lv' := [(6, .int (if 0 ≤ ((af1 1) - (af2 k57)) then ((af1 1) - (af2 k57)) else 0 - ((af1 1) - (af2 k57)))), (5, .int (nI k57)), (0, .ref y0), (1, .ref a0), (2, .int (nI 1)), (3, .int tk), (4, .int sum)]) hx hb dX0_layFrom_111 hl (by decide) rfl (fun ls hl => ?_)
                  refine lv_aload_n hx hb dX0_layFrom_113 rfl (lv_at hl 2 rfl) ?_
                  refine lv_aload_n hx hb dX0_layFrom_114 rfl (lv_at hl 3 rfl) ?_
                  refine lv_iload_n hx hb dX0_layFrom_115 rfl (lv_at hl 4 rfl) ?_
                  refine lv_iconst (v := (nI 1)) hx hb dX0_layFrom_116 (by decide +kernel) ?_
                  refine lv_iadd hx hb dX0_layFrom_117 ?_
                  refine g_vi (y := (nI 2)) (by decide +kernel) ?_
                  refine lv_iload_n hx hb dX0_layFrom_118 rfl (lv_at hl 5 rfl) ?_
                  refine lv_iconst (v := (nI 1)) hx hb dX0_layFrom_119 (by decide +kernel) ?_
                  refine lv_iload hx hb dX0_layFrom_120 (lv_at hl 1 rfl) ?_
                  refine lv_ishl hx hb dX0_layFrom_122 ?_
                  refine lv_ior hx hb dX0_layFrom_123 ?_
                  refine lv_iload hx hb dX0_layFrom_124 (lv_at hl 6 rfl) ?_
                  refine lv_iload hx hb dX0_layFrom_126 (lv_at hl 0 rfl) ?_
                  refine lv_iadd hx hb dX0_layFrom_128 ?_
                  refine g_callV (wr := []) (nA := 4) hC V hl.1 (y_layf2 l D T fa (pp ++ [k57]) ((gcK an (an - 2) pp k57).foldl (upC fa) so_) y0 a0 (tk ||| ((nI 1) <<< ((nI k57) &&& 31))) (sum + (if 0 ≤ ((af1 1) - (af2 k57)) then ((af1 1) - (af2 k57)) else 0 - ((af1 1) - (af2 k57)))) bv y1 y2 ga (upd gb 1 (nI k57)) an am al ao au a1 a2 a3 a4 a5 a6 a7 a8 a9 a10 af1 af2 (by first | assumption | omega) (pf_s (pf_e h_pp (fun j hj => hgb j (by omega))) (by omega)) (fun j h1 h2 => (up_other (by omega)).trans ((hgb j h2).trans (h_pm j (by omega) h2))) (us_s h_us (by omega)) (sqz_s h_a (by omega) (by omega) h_sum h_pp.1 (of_c (n := an) (h_s1 1 (by omega)) (h_s2 k57 (by omega)) rfl)) (sqz_b h_a (by omega) (by omega) h_sb h_pp.1) hR (by omega) (by first | assumption | omega) (by first | assumption | omega) (by first | assumption | omega)) w_804 w_806 w_s31 w_7 w_807 (by decide +kernel) rfl ⟨(Nat.le_of_ble_eq_true rfl), (Nat.le_of_ble_eq_true rfl)⟩ 0 (ci := 0) rfl rfl [0, 1, 2, 3, 4, 5] [] rfl rfl rfl rfl (by decide) (Nat.le_of_ble_eq_true rfl) dX0_layFrom_129 ⟨(Nat.le_of_ble_eq_true rfl), (Nat.le_of_ble_eq_true rfl)⟩ rfl (fun r w1 H locs hQ V => ?_)
                  obtain ⟨bs_24, g1_25, g2_26, rfl, rfl, f_27, f_28⟩ := hQ
                  have V : gW D T A s [(y0, .inr (0, [.int bs_24, .ref y1, .ref y2])), (y1, .inl (T 0, 7, .inl g1_25)), (y2, .inl (T 0, 7, .inl g2_26)), (a0, .inr (5, [.int (nI an), .int am, .int al, .int ao, .int au, .ref a1, .ref a2, .ref a3, .ref a4, .ref a5, .ref a6, .ref a7, .ref a8, .ref a9, .ref a10])), (a1, .inl (T 0, 10, .inl af1)), (a2, .inl (T 0, 10, .inl af2))] H locs := V
                  show W p l e _ s m args below meth c H locs _ _ _ (F0 m 132 ls [])
                  refine lv_aload_n hx hb dX0_layFrom_132 rfl (lv_at hl 2 rfl) ?_
                  refine g_get hC V (ci := 0) uwX0 0 rfl rfl 2 (by decide) w_215 rfl rfl dX0_layFrom_133 ?_
                  refine lv_iload_n hx hb dX0_layFrom_136 rfl (lv_at hl 4 rfl) ?_
                  refine lv_iconst (v := (-1)) hx hb dX0_layFrom_137 (by decide +kernel) ?_
                  refine g_iast hC V 2 rfl (vp_in_nI (by decide) (by decide)) (f' := (upd g2_26 1 (-1))) (by rw [nI_clamp (by decide)]) (ws' := [(y0, .inr (0, [.int bs_24, .ref y1, .ref y2])), (y1, .inl (T 0, 7, .inl g1_25)), (y2, .inl (T 0, 7, .inl (upd g2_26 1 (-1)))), (a0, .inr (5, [.int (nI an), .int am, .int al, .int ao, .int au, .ref a1, .ref a2, .ref a3, .ref a4, .ref a5, .ref a6, .ref a7, .ref a8, .ref a9, .ref a10])), (a1, .inl (T 0, 10, .inl af1)), (a2, .inl (T 0, 10, .inl af2))]) rfl dX0_layFrom_138 (fun H locs V => ?_)
                  refine lv_iinc (v := (nI (k57 + 1))) (lv' := [(5, .int (nI (k57 + 1))), (6, .int (if 0 ≤ ((af1 1) - (af2 k57)) then ((af1 1) - (af2 k57)) else 0 - ((af1 1) - (af2 k57)))), (0, .ref y0), (1, .ref a0), (2, .int (nI 1)), (3, .int tk), (4, .int sum)]) hx hb dX0_layFrom_139 hl (k := 1) rfl (nI_1 _) (by decide) rfl (fun ls hl => ?_)
                  refine lv_goto (tgt := 57) hx hb dX0_layFrom_142 (by decide) ?_
                  exact ih_57 (k57 + 1) bs_24 g1_25 (upd g2_26 1 (-1)) (by omega) (fun j hj => if q : j = 1 then by rw [q, up_same]; exact (h_pm 1 (by omega) (by omega)).symm else (up_other q).trans ((f_28 j hj).trans ((up_other q).trans (hgb j hj)))) (by rw [gck_y (fun q => q.elim (fun r => f_21 ((h_us k57 (by omega)).mpr r)) (fun r => by rw [f_23] at r; cases r)), List.foldl_append]; exact f_27) (by omega) _ _ _ V (lv_sub hl [0, 2, 3, 4, 5, 6] rfl)
        exact L_18 _ 0 ys yb yt (by omega) (fun _ _ => rfl) h_st (Nat.lt_succ_self _) _ _ _ V (lv_sub hl [0, 1, 2, 3, 4, 5] rfl)
    · skip
      exact g_vret (Qr := (q_y_layf1 T fa pp so_ y0 a0 tk sum ys y1 y2 yb yt an am al ao au a1 a2 a3 a4 a5 a6 a7 a8 a9 a10 af1 af2)) hC V ⟨(Nat.le_of_ble_eq_true rfl), (Nat.le_of_ble_eq_true rfl)⟩ ⟨ys, yb, yt, rfl, rfl, (rs_pr h_st c_1 h_sum (by omega) c_15), (fun _ _ => rfl)⟩ dX0_layFrom_17

def q_y_layf0 (T : Nat → ClassId) (fa : Nat → Int32) (pp : List Nat) (so_ : Option (List Nat)) (y0 : Nat) (a0 : Nat) (tk : Int32) (sum : Int32) (ys : Int32) (y1 : Nat) (y2 : Nat) (yb : Nat → Int32) (yt : Nat → Int32) (an : Nat) (am : Int32) (al : Int32) (ao : Int32) (au : Int32) (a1 : Nat) (a2 : Nat) (a3 : Nat) (a4 : Nat) (a5 : Nat) (a6 : Nat) (a7 : Nat) (a8 : Nat) (a9 : Nat) (a10 : Nat) (af1 : Nat → Int32) (af2 : Nat → Int32) : Option Value → va_W → Prop := fun rr ww => (∃ (bs : Int32) (g1 : Nat → Int32) (g2 : Nat → Int32), rr = none ∧ ww = [(y0, .inr (0, [.int bs, .ref y1, .ref y2])), (y1, .inl (T 0, 7, .inl g1)), (y2, .inl (T 0, 7, .inl g2)), (a0, .inr (5, [.int (nI an), .int am, .int al, .int ao, .int au, .ref a1, .ref a2, .ref a3, .ref a4, .ref a5, .ref a6, .ref a7, .ref a8, .ref a9, .ref a10])), (a1, .inl (T 0, 10, .inl af1)), (a2, .inl (T 0, 10, .inl af2))] ∧ RST an fa ((gC an (an - 0) pp).foldl (upC fa) so_) bs g1 ∧ (∀ j, j < 7 → g2 j = yt j))
set_option maxHeartbeats 4000000 in
set_option maxRecDepth 100000 in
theorem y_layf0 (l : Launch) (D : va_G) (T : Nat → ClassId) (fa : Nat → Int32) (pp : List Nat) (so_ : Option (List Nat)) (y0 : Nat) (a0 : Nat) (tk : Int32) (sum : Int32) (ys : Int32) (y1 : Nat) (y2 : Nat) (yb : Nat → Int32) (yt : Nat → Int32) (an : Nat) (am : Int32) (al : Int32) (ao : Int32) (au : Int32) (a1 : Nat) (a2 : Nat) (a3 : Nat) (a4 : Nat) (a5 : Nat) (a6 : Nat) (a7 : Nat) (a8 : Nat) (a9 : Nat) (a10 : Nat) (af1 : Nat → Int32) (af2 : Nat → Int32) (h_n : an ≤ 7) (h_pp : PFX an pp 0 yt) (h_pm : ∀ j, 0 ≤ j → j < 7 → yt j = -1) (h_us : USE pp tk) (h_sum : sum = nI (smL fa 0 pp)) (h_sb : smL fa 0 pp ≤ 60 * 0) (h_st : RST an fa so_ ys yb) (h_kn : 0 ≤ an) (h_a : MI an fa) (h_s1 : ∀ i, i < an → af1 i = fa (4 + i)) (h_s2 : ∀ i, i < an → af2 i = fa (14 + i)) : Ct l yX0_layFrom cX0_layFrom 7 none 9 0 0 D T [.ref y0, .ref a0, .int (nI 0), .int tk, .int sum] [(y0, .inr (0, [.int ys, .ref y1, .ref y2])), (y1, .inl (T 0, 7, .inl yb)), (y2, .inl (T 0, 7, .inl yt)), (a0, .inr (5, [.int (nI an), .int am, .int al, .int ao, .int au, .ref a1, .ref a2, .ref a3, .ref a4, .ref a5, .ref a6, .ref a7, .ref a8, .ref a9, .ref a10])), (a1, .inl (T 0, 10, .inl af1)), (a2, .inl (T 0, 10, .inl af2))] (q_y_layf0 T fa pp so_ y0 a0 tk sum ys y1 y2 yb yt an am al ao au a1 a2 a3 a4 a5 a6 a7 a8 a9 a10 af1 af2) := by
  refine Ct.of (cc := cX0_layFrom) (maxL := 7) (ret := none) (by decide) (Nat.le_of_ble_eq_true rfl) ?_
  intro p e s m args below meth c A ls hC hnm V hl
  obtain ⟨hx, hb, hr, hml, hown, hts, hlocks⟩ := id hC
  generalize hH : s.heap = H at V ⊢
  clear hH
  have hl : lv_has ls 7 [(0, .ref y0), (1, .ref a0), (2, .int (nI 0)), (3, .int tk), (4, .int sum)] := hl
  generalize hlo : ([] : List Loc) = locs at V ⊢
  clear hlo
  refine lv_aload_n hx hb dX0_layFrom_0 rfl (lv_at hl 0 rfl) ?_
  refine g_get hC V (ci := 0) uwX0 0 rfl rfl 0 (by decide) w_211 rfl rfl dX0_layFrom_1 ?_
  refine lv_iconst (v := (-1)) hx hb dX0_layFrom_4 (by decide +kernel) ?_
  refine lv_icmp_eq (tgt := 18) hx hb dX0_layFrom_5 (by decide) (fun c_1 => ?_) (fun c_1 => ?_)
  · skip
    refine lv_iload_n hx hb dX0_layFrom_18 rfl (lv_at hl 2 rfl) ?_
    refine lv_aload_n hx hb dX0_layFrom_19 rfl (lv_at hl 1 rfl) ?_
    refine g_get hC V (ci := 5) uwX5 3 rfl rfl 0 (by decide) w_35 rfl rfl dX0_layFrom_20 ?_
    refine lv_icmp_ge (tgt := 32) hx hb dX0_layFrom_23 (by decide) (fun c_2 => ?_) (fun c_2 => ?_)
    · skip
      have c_2 := b_le (by omega) (by omega) c_2
      refine lv_aload_n hx hb dX0_layFrom_32 rfl (lv_at hl 0 rfl) ?_
      refine lv_iload hx hb dX0_layFrom_33 (lv_at hl 4 rfl) ?_
      refine g_put hC V (ci := 0) uwX0 tyX0 tyX0_ok nmX0 0 rfl rfl 0 (by decide) w_211 rfl rfl rfl rfl (Nat.le_of_ble_eq_true rfl) (ws' := [(y0, .inr (0, [.int sum, .ref y1, .ref y2])), (y1, .inl (T 0, 7, .inl yb)), (y2, .inl (T 0, 7, .inl yt)), (a0, .inr (5, [.int (nI an), .int am, .int al, .int ao, .int au, .ref a1, .ref a2, .ref a3, .ref a4, .ref a5, .ref a6, .ref a7, .ref a8, .ref a9, .ref a10])), (a1, .inl (T 0, 10, .inl af1)), (a2, .inl (T 0, 10, .inl af2))]) rfl dX0_layFrom_35 (fun H locs V => ?_)
      refine lv_aload_n hx hb dX0_layFrom_38 rfl (lv_at hl 0 rfl) ?_
      refine g_get hC V (ci := 0) uwX0 0 rfl rfl 2 (by decide) w_215 rfl rfl dX0_layFrom_39 ?_
      refine lv_iconst (v := (nI 0)) hx hb dX0_layFrom_42 (by decide +kernel) ?_
      refine lv_aload_n hx hb dX0_layFrom_43 rfl (lv_at hl 0 rfl) ?_
      refine g_get hC V (ci := 0) uwX0 0 rfl rfl 1 (by decide) w_213 rfl rfl dX0_layFrom_44 ?_
      refine lv_iconst (v := (nI 0)) hx hb dX0_layFrom_47 (by decide +kernel) ?_
      refine lv_bipush (v := (nI 7)) hx hb dX0_layFrom_48 (by decide +kernel) ?_
      refine g_copyf hC V hl.1 w_808 w_672 w_671 w_17 2 1 rfl rfl (by decide +kernel) (by decide +kernel) (Nat.le_of_ble_eq_true rfl) (Nat.le_of_ble_eq_true rfl) (Nat.le_of_ble_eq_true rfl) dX0_layFrom_50 7 (by decide +kernel) (fun g_3 hcp H locs V => ?_)
      have V : gW D T A s [(y0, .inr (0, [.int sum, .ref y1, .ref y2])), (y1, .inl (T 0, 7, .inl g_3)), (y2, .inl (T 0, 7, .inl yt)), (a0, .inr (5, [.int (nI an), .int am, .int al, .int ao, .int au, .ref a1, .ref a2, .ref a3, .ref a4, .ref a5, .ref a6, .ref a7, .ref a8, .ref a9, .ref a10])), (a1, .inl (T 0, 10, .inl af1)), (a2, .inl (T 0, 10, .inl af2))] H locs := V
      exact g_vret (Qr := (q_y_layf0 T fa pp so_ y0 a0 tk sum ys y1 y2 yb yt an am al ao au a1 a2 a3 a4 a5 a6 a7 a8 a9 a10 af1 af2)) hC V ⟨(Nat.le_of_ble_eq_true rfl), (Nat.le_of_ble_eq_true rfl)⟩ ⟨sum, g_3, yt, rfl, rfl, (by rw [show an - 0 = 0 by omega]; exact rs_up h_st h_sum (by omega) (Or.inl c_1) (fun i hi => (hcp i (by omega)).trans (h_pp.2 i (by omega)).1)), (fun _ _ => rfl)⟩ dX0_layFrom_53
    · skip
      have c_2 := b_nle (by omega) (by omega) c_2
      refine lv_iload_n hx hb dX0_layFrom_26 rfl (lv_at hl 2 rfl) ?_
      refine lv_bipush (v := (nI 7)) hx hb dX0_layFrom_27 (by decide +kernel) ?_
      refine lv_icmp_lt (tgt := 54) hx hb dX0_layFrom_29 (by decide) (fun _ => ?_) (fun c => absurd (show (nI 0) < (nI 7) by first | rfl | decide +kernel) c)
      refine lv_iconst (v := (nI 0)) hx hb dX0_layFrom_54 (by decide +kernel) ?_
      refine lv_istore (lv' := [(5, .int (nI 0)), (0, .ref y0), (1, .ref a0), (2, .int (nI 0)), (3, .int tk), (4, .int sum)]) hx hb dX0_layFrom_55 hl (by decide) rfl (fun ls hl => ?_)
      have L_4 : ∀ (fu : Nat) (k57 : Nat) (bv : Int32) (ga : Nat → Int32) (gb : Nat → Int32), k57 ≤ an → (∀ j, j < 7 → gb j = yt j) → RST an fa ((gcK an (an - 1) pp k57).foldl (upC fa) so_) bv ga → an - k57 < fu → ∀ (H : Heap) (locs : List Loc) (ls : Array Slot), gW D T A s [(y0, .inr (0, [.int bv, .ref y1, .ref y2])), (y1, .inl (T 0, 7, .inl ga)), (y2, .inl (T 0, 7, .inl gb)), (a0, .inr (5, [.int (nI an), .int am, .int al, .int ao, .int au, .ref a1, .ref a2, .ref a3, .ref a4, .ref a5, .ref a6, .ref a7, .ref a8, .ref a9, .ref a10])), (a1, .inl (T 0, 10, .inl af1)), (a2, .inl (T 0, 10, .inl af2))] H locs → lv_has ls 7 [(5, .int (nI k57)), (0, .ref y0), (1, .ref a0), (2, .int (nI 0)), (3, .int tk), (4, .int sum)] → W p l e (rmD 9 0 0) s m args below meth c H locs 0 0 (MQ below (gQ D A (q_y_layf0 T fa pp so_ y0 a0 tk sum ys y1 y2 yb yt an am al ao au a1 a2 a3 a4 a5 a6 a7 a8 a9 a10 af1 af2)) args s 0 0 A) (F0 m 57 ls []) := by
        intro fu_57
        induction fu_57 with
        | zero => intro k57 bv ga gb hk57 hgb hR hmu; exact absurd hmu (Nat.not_lt_zero _)
        | succ fu_57 ih_57 =>
          intro k57 bv ga gb hk57 hgb hR hmu_57 H locs ls V hl
          refine lv_iload hx hb dX0_layFrom_57 (lv_at hl 0 rfl) ?_
          refine lv_aload_n hx hb dX0_layFrom_59 rfl (lv_at hl 2 rfl) ?_
          refine g_get hC V (ci := 5) uwX5 3 rfl rfl 0 (by decide) w_35 rfl rfl dX0_layFrom_60 ?_
          refine lv_icmp_ge (tgt := 145) hx hb dX0_layFrom_63 (by decide) (fun c_5 => ?_) (fun c_5 => ?_)
          · skip
            have c_5 := b_le (by omega) (by omega) c_5
            exact g_vret (Qr := (q_y_layf0 T fa pp so_ y0 a0 tk sum ys y1 y2 yb yt an am al ao au a1 a2 a3 a4 a5 a6 a7 a8 a9 a10 af1 af2)) hC V ⟨(Nat.le_of_ble_eq_true rfl), (Nat.le_of_ble_eq_true rfl)⟩ ⟨bv, ga, gb, rfl, rfl, (by rw [show an - 0 = (an - 1) + 1 by omega]; have q := hR; rw [show k57 = an by omega] at q; exact q), hgb⟩ dX0_layFrom_145
          · skip
            have c_5 := b_nle (by omega) (by omega) c_5
            refine lv_iload_n hx hb dX0_layFrom_66 rfl (lv_at hl 4 rfl) ?_
            refine lv_iload hx hb dX0_layFrom_67 (lv_at hl 0 rfl) ?_
            refine g_callSNU (nA := 2) (host := RX7) hC V hl.1 (c_isIn_f l D T tk k57) w_472 (List.mem_of_getElem? (i := 7) rfl) w_2 w_471 (by decide +kernel) rfl ⟨(Nat.le_of_ble_eq_true rfl), (Nat.le_of_ble_eq_true rfl)⟩ [] rfl rfl (Nat.le_of_ble_eq_true rfl) dX0_layFrom_69 ⟨(Nat.le_of_ble_eq_true rfl), (Nat.le_of_ble_eq_true rfl)⟩ rfl (fun r w1 H locs hQ V => ?_)
            rcases hQ with ⟨rfl, rfl, f_6⟩ | ⟨rfl, rfl, f_7⟩
            · have V : gW D T A s [(y0, .inr (0, [.int bv, .ref y1, .ref y2])), (y1, .inl (T 0, 7, .inl ga)), (y2, .inl (T 0, 7, .inl gb)), (a0, .inr (5, [.int (nI an), .int am, .int al, .int ao, .int au, .ref a1, .ref a2, .ref a3, .ref a4, .ref a5, .ref a6, .ref a7, .ref a8, .ref a9, .ref a10])), (a1, .inl (T 0, 10, .inl af1)), (a2, .inl (T 0, 10, .inl af2))] H locs := V _ [] rfl rfl rfl (by decide +kernel) rfl
              show W p l e _ s m args below meth c H locs _ _ _ (F0 m 72 ls [.int (nI 1)])
              refine lv_if_ne (tgt := 139) hx hb dX0_layFrom_72 (by decide) (fun _ => ?_) (fun c => absurd (show (nI 1) = 0 from c) (by decide +kernel))
              refine lv_iinc (v := (nI (k57 + 1))) (lv' := [(5, .int (nI (k57 + 1))), (0, .ref y0), (1, .ref a0), (2, .int (nI 0)), (3, .int tk), (4, .int sum)]) hx hb dX0_layFrom_139 hl (k := 0) rfl (nI_1 _) (by decide) rfl (fun ls hl => ?_)
              refine lv_goto (tgt := 57) hx hb dX0_layFrom_142 (by decide) ?_
              exact ih_57 (k57 + 1) bv ga gb (by omega) hgb (by rw [gck_n (Or.inl ((h_us k57 (by omega)).mp f_6))]; exact hR) (by omega) _ _ _ V (lv_sub hl [0, 1, 2, 3, 4, 5] rfl)
            · have V : gW D T A s [(y0, .inr (0, [.int bv, .ref y1, .ref y2])), (y1, .inl (T 0, 7, .inl ga)), (y2, .inl (T 0, 7, .inl gb)), (a0, .inr (5, [.int (nI an), .int am, .int al, .int ao, .int au, .ref a1, .ref a2, .ref a3, .ref a4, .ref a5, .ref a6, .ref a7, .ref a8, .ref a9, .ref a10])), (a1, .inl (T 0, 10, .inl af1)), (a2, .inl (T 0, 10, .inl af2))] H locs := V _ [] rfl rfl rfl (by decide +kernel) rfl
              show W p l e _ s m args below meth c H locs _ _ _ (F0 m 72 ls [.int (nI 0)])
              refine lv_if_ne (tgt := 139) hx hb dX0_layFrom_72 (by decide) (fun c => absurd (show (nI 0) = 0 by decide +kernel) c) (fun _ => ?_)
              refine lv_aload_n hx hb dX0_layFrom_75 rfl (lv_at hl 1 rfl) ?_
              refine lv_aload_n hx hb dX0_layFrom_76 rfl (lv_at hl 2 rfl) ?_
              refine lv_iload_n hx hb dX0_layFrom_77 rfl (lv_at hl 3 rfl) ?_
              refine lv_iload hx hb dX0_layFrom_78 (lv_at hl 0 rfl) ?_
              refine g_callVU (nA := 3) hC V hl.1 (y_closes_f l D T pp y0 a0 0 k57 bv y1 y2 gb an am al ao au a1 a2 a3 a4 a5 a6 a7 a8 a9 a10 (by first | assumption | omega) (pf_e h_pp (fun j hj => hgb j (by omega))) (fun j h1 h2 => (hgb j h2).trans (h_pm j h1 h2)) (by omega) (by omega)) w_810 w_812 w_s32 w_7 w_813 (by decide +kernel) rfl ⟨(Nat.le_of_ble_eq_true rfl), (Nat.le_of_ble_eq_true rfl)⟩ 0 (ci := 0) rfl rfl [0, 2, 3] rfl rfl (Nat.le_of_ble_eq_true rfl) dX0_layFrom_80 ⟨(Nat.le_of_ble_eq_true rfl), (Nat.le_of_ble_eq_true rfl)⟩ rfl (fun r w1 H locs hQ V => ?_)
              rcases hQ with ⟨rfl, rfl, f_8⟩ | ⟨rfl, rfl, f_9⟩
              · have V : gW D T A s [(y0, .inr (0, [.int bv, .ref y1, .ref y2])), (y1, .inl (T 0, 7, .inl ga)), (y2, .inl (T 0, 7, .inl gb)), (a0, .inr (5, [.int (nI an), .int am, .int al, .int ao, .int au, .ref a1, .ref a2, .ref a3, .ref a4, .ref a5, .ref a6, .ref a7, .ref a8, .ref a9, .ref a10])), (a1, .inl (T 0, 10, .inl af1)), (a2, .inl (T 0, 10, .inl af2))] H locs := V _ [0, 1, 0] rfl rfl rfl (by decide +kernel) rfl
                show W p l e _ s m args below meth c H locs _ _ _ (F0 m 83 ls [.int (nI 1)])
                refine lv_if_ne (tgt := 139) hx hb dX0_layFrom_83 (by decide) (fun _ => ?_) (fun c => absurd (show (nI 1) = 0 from c) (by decide +kernel))
                refine lv_iinc (v := (nI (k57 + 1))) (lv' := [(5, .int (nI (k57 + 1))), (0, .ref y0), (1, .ref a0), (2, .int (nI 0)), (3, .int tk), (4, .int sum)]) hx hb dX0_layFrom_139 hl (k := 0) rfl (nI_1 _) (by decide) rfl (fun ls hl => ?_)
                refine lv_goto (tgt := 57) hx hb dX0_layFrom_142 (by decide) ?_
                exact ih_57 (k57 + 1) bv ga gb (by omega) hgb (by rw [gck_n (Or.inr f_8)]; exact hR) (by omega) _ _ _ V (lv_sub hl [0, 1, 2, 3, 4, 5] rfl)
              · have V : gW D T A s [(y0, .inr (0, [.int bv, .ref y1, .ref y2])), (y1, .inl (T 0, 7, .inl ga)), (y2, .inl (T 0, 7, .inl gb)), (a0, .inr (5, [.int (nI an), .int am, .int al, .int ao, .int au, .ref a1, .ref a2, .ref a3, .ref a4, .ref a5, .ref a6, .ref a7, .ref a8, .ref a9, .ref a10])), (a1, .inl (T 0, 10, .inl af1)), (a2, .inl (T 0, 10, .inl af2))] H locs := V _ [0, 1, 0] rfl rfl rfl (by decide +kernel) rfl
                show W p l e _ s m args below meth c H locs _ _ _ (F0 m 83 ls [.int (nI 0)])
                refine lv_if_ne (tgt := 139) hx hb dX0_layFrom_83 (by decide) (fun c => absurd (show (nI 0) = 0 by decide +kernel) c) (fun _ => ?_)
                refine lv_aload_n hx hb dX0_layFrom_86 rfl (lv_at hl 1 rfl) ?_
                refine g_get hC V (ci := 0) uwX0 0 rfl rfl 2 (by decide) w_215 rfl rfl dX0_layFrom_87 ?_
                refine lv_iload_n hx hb dX0_layFrom_90 rfl (lv_at hl 3 rfl) ?_
                refine lv_iload hx hb dX0_layFrom_91 (lv_at hl 0 rfl) ?_
                refine g_iast hC V 2 rfl (vp_in_nI (by decide) (by decide)) (f' := (upd gb 0 (nI k57))) (by rw [nI_clamp (by decide)]) (ws' := [(y0, .inr (0, [.int bv, .ref y1, .ref y2])), (y1, .inl (T 0, 7, .inl ga)), (y2, .inl (T 0, 7, .inl (upd gb 0 (nI k57)))), (a0, .inr (5, [.int (nI an), .int am, .int al, .int ao, .int au, .ref a1, .ref a2, .ref a3, .ref a4, .ref a5, .ref a6, .ref a7, .ref a8, .ref a9, .ref a10])), (a1, .inl (T 0, 10, .inl af1)), (a2, .inl (T 0, 10, .inl af2))]) rfl dX0_layFrom_93 (fun H locs V => ?_)
                refine lv_aload_n hx hb dX0_layFrom_94 rfl (lv_at hl 2 rfl) ?_
                refine g_get hC V (ci := 5) uwX5 3 rfl rfl 5 (by decide) w_52 rfl rfl dX0_layFrom_95 ?_
                refine lv_iload_n hx hb dX0_layFrom_98 rfl (lv_at hl 3 rfl) ?_
                refine g_iald hC V 4 rfl (vp_in_nI (by decide) (by decide)) (v := (af1 0)) (congrArg _ (nI_clamp (by decide))) dX0_layFrom_99 ?_
                refine lv_aload_n hx hb dX0_layFrom_100 rfl (lv_at hl 2 rfl) ?_
                refine g_get hC V (ci := 5) uwX5 3 rfl rfl 6 (by decide) w_58 rfl rfl dX0_layFrom_101 ?_
                refine lv_iload hx hb dX0_layFrom_104 (lv_at hl 0 rfl) ?_
                refine g_iald hC V 5 rfl (vp_in_nI (by omega) (by omega)) (v := (af2 k57)) (congrArg _ (nI_clamp (by omega))) dX0_layFrom_106 ?_
                refine lv_isub hx hb dX0_layFrom_107 ?_
                refine va_mabs hx hb (hml.trans hl.1.symm) hown (hts _ w_814) (hts _ w_815) (hts _ w_10) (hts _ w_816) (Nat.le_of_ble_eq_true rfl) (Nat.le_of_ble_eq_true rfl) (Nat.le_of_ble_eq_true rfl) (Nat.le_of_ble_eq_true rfl) dX0_layFrom_108 ?_
                refine lv_istore (lv' := [(6, .int (if 0 ≤ ((af1 0) - (af2 k57)) then ((af1 0) - (af2 k57)) else 0 - ((af1 0) - (af2 k57)))), (5, .int (nI k57)), (0, .ref y0), (1, .ref a0), (2, .int (nI 0)), (3, .int tk), (4, .int sum)]) hx hb dX0_layFrom_111 hl (by decide) rfl (fun ls hl => ?_)
                refine lv_aload_n hx hb dX0_layFrom_113 rfl (lv_at hl 2 rfl) ?_
                refine lv_aload_n hx hb dX0_layFrom_114 rfl (lv_at hl 3 rfl) ?_
                refine lv_iload_n hx hb dX0_layFrom_115 rfl (lv_at hl 4 rfl) ?_
                refine lv_iconst (v := (nI 1)) hx hb dX0_layFrom_116 (by decide +kernel) ?_
                refine lv_iadd hx hb dX0_layFrom_117 ?_
                refine g_vi (y := (nI 1)) (by decide +kernel) ?_
                refine lv_iload_n hx hb dX0_layFrom_118 rfl (lv_at hl 5 rfl) ?_
                refine lv_iconst (v := (nI 1)) hx hb dX0_layFrom_119 (by decide +kernel) ?_
                refine lv_iload hx hb dX0_layFrom_120 (lv_at hl 1 rfl) ?_
                refine lv_ishl hx hb dX0_layFrom_122 ?_
                refine lv_ior hx hb dX0_layFrom_123 ?_
                refine lv_iload hx hb dX0_layFrom_124 (lv_at hl 6 rfl) ?_
                refine lv_iload hx hb dX0_layFrom_126 (lv_at hl 0 rfl) ?_
                refine lv_iadd hx hb dX0_layFrom_128 ?_
                refine g_callV (wr := []) (nA := 4) hC V hl.1 (y_layf1 l D T fa (pp ++ [k57]) ((gcK an (an - 1) pp k57).foldl (upC fa) so_) y0 a0 (tk ||| ((nI 1) <<< ((nI k57) &&& 31))) (sum + (if 0 ≤ ((af1 0) - (af2 k57)) then ((af1 0) - (af2 k57)) else 0 - ((af1 0) - (af2 k57)))) bv y1 y2 ga (upd gb 0 (nI k57)) an am al ao au a1 a2 a3 a4 a5 a6 a7 a8 a9 a10 af1 af2 (by first | assumption | omega) (pf_s (pf_e h_pp (fun j hj => hgb j (by omega))) (by omega)) (fun j h1 h2 => (up_other (by omega)).trans ((hgb j h2).trans (h_pm j (by omega) h2))) (us_s h_us (by omega)) (sqz_s h_a (by omega) (by omega) h_sum h_pp.1 (of_c (n := an) (h_s1 0 (by omega)) (h_s2 k57 (by omega)) rfl)) (sqz_b h_a (by omega) (by omega) h_sb h_pp.1) hR (by omega) (by first | assumption | omega) (by first | assumption | omega) (by first | assumption | omega)) w_804 w_806 w_s31 w_7 w_807 (by decide +kernel) rfl ⟨(Nat.le_of_ble_eq_true rfl), (Nat.le_of_ble_eq_true rfl)⟩ 0 (ci := 0) rfl rfl [0, 1, 2, 3, 4, 5] [] rfl rfl rfl rfl (by decide) (Nat.le_of_ble_eq_true rfl) dX0_layFrom_129 ⟨(Nat.le_of_ble_eq_true rfl), (Nat.le_of_ble_eq_true rfl)⟩ rfl (fun r w1 H locs hQ V => ?_)
                obtain ⟨bs_10, g1_11, g2_12, rfl, rfl, f_13, f_14⟩ := hQ
                have V : gW D T A s [(y0, .inr (0, [.int bs_10, .ref y1, .ref y2])), (y1, .inl (T 0, 7, .inl g1_11)), (y2, .inl (T 0, 7, .inl g2_12)), (a0, .inr (5, [.int (nI an), .int am, .int al, .int ao, .int au, .ref a1, .ref a2, .ref a3, .ref a4, .ref a5, .ref a6, .ref a7, .ref a8, .ref a9, .ref a10])), (a1, .inl (T 0, 10, .inl af1)), (a2, .inl (T 0, 10, .inl af2))] H locs := V
                show W p l e _ s m args below meth c H locs _ _ _ (F0 m 132 ls [])
                refine lv_aload_n hx hb dX0_layFrom_132 rfl (lv_at hl 2 rfl) ?_
                refine g_get hC V (ci := 0) uwX0 0 rfl rfl 2 (by decide) w_215 rfl rfl dX0_layFrom_133 ?_
                refine lv_iload_n hx hb dX0_layFrom_136 rfl (lv_at hl 4 rfl) ?_
                refine lv_iconst (v := (-1)) hx hb dX0_layFrom_137 (by decide +kernel) ?_
                refine g_iast hC V 2 rfl (vp_in_nI (by decide) (by decide)) (f' := (upd g2_12 0 (-1))) (by rw [nI_clamp (by decide)]) (ws' := [(y0, .inr (0, [.int bs_10, .ref y1, .ref y2])), (y1, .inl (T 0, 7, .inl g1_11)), (y2, .inl (T 0, 7, .inl (upd g2_12 0 (-1)))), (a0, .inr (5, [.int (nI an), .int am, .int al, .int ao, .int au, .ref a1, .ref a2, .ref a3, .ref a4, .ref a5, .ref a6, .ref a7, .ref a8, .ref a9, .ref a10])), (a1, .inl (T 0, 10, .inl af1)), (a2, .inl (T 0, 10, .inl af2))]) rfl dX0_layFrom_138 (fun H locs V => ?_)
                refine lv_iinc (v := (nI (k57 + 1))) (lv' := [(5, .int (nI (k57 + 1))), (6, .int (if 0 ≤ ((af1 0) - (af2 k57)) then ((af1 0) - (af2 k57)) else 0 - ((af1 0) - (af2 k57)))), (0, .ref y0), (1, .ref a0), (2, .int (nI 0)), (3, .int tk), (4, .int sum)]) hx hb dX0_layFrom_139 hl (k := 1) rfl (nI_1 _) (by decide) rfl (fun ls hl => ?_)
                refine lv_goto (tgt := 57) hx hb dX0_layFrom_142 (by decide) ?_
                exact ih_57 (k57 + 1) bs_10 g1_11 (upd g2_12 0 (-1)) (by omega) (fun j hj => if q : j = 0 then by rw [q, up_same]; exact (h_pm 0 (by omega) (by omega)).symm else (up_other q).trans ((f_14 j hj).trans ((up_other q).trans (hgb j hj)))) (by rw [gck_y (fun q => q.elim (fun r => f_7 ((h_us k57 (by omega)).mpr r)) (fun r => by rw [f_9] at r; cases r)), List.foldl_append]; exact f_13) (by omega) _ _ _ V (lv_sub hl [0, 2, 3, 4, 5, 6] rfl)
      exact L_4 _ 0 ys yb yt (by omega) (fun _ _ => rfl) h_st (Nat.lt_succ_self _) _ _ _ V (lv_sub hl [0, 1, 2, 3, 4, 5] rfl)
  · skip
    refine lv_iload hx hb dX0_layFrom_8 (lv_at hl 4 rfl) ?_
    refine lv_aload_n hx hb dX0_layFrom_10 rfl (lv_at hl 0 rfl) ?_
    refine g_get hC V (ci := 0) uwX0 0 rfl rfl 0 (by decide) w_211 rfl rfl dX0_layFrom_11 ?_
    refine lv_icmp_lt (tgt := 18) hx hb dX0_layFrom_14 (by decide) (fun c_15 => ?_) (fun c_15 => ?_)
    · skip
      refine lv_iload_n hx hb dX0_layFrom_18 rfl (lv_at hl 2 rfl) ?_
      refine lv_aload_n hx hb dX0_layFrom_19 rfl (lv_at hl 1 rfl) ?_
      refine g_get hC V (ci := 5) uwX5 3 rfl rfl 0 (by decide) w_35 rfl rfl dX0_layFrom_20 ?_
      refine lv_icmp_ge (tgt := 32) hx hb dX0_layFrom_23 (by decide) (fun c_16 => ?_) (fun c_16 => ?_)
      · skip
        have c_16 := b_le (by omega) (by omega) c_16
        refine lv_aload_n hx hb dX0_layFrom_32 rfl (lv_at hl 0 rfl) ?_
        refine lv_iload hx hb dX0_layFrom_33 (lv_at hl 4 rfl) ?_
        refine g_put hC V (ci := 0) uwX0 tyX0 tyX0_ok nmX0 0 rfl rfl 0 (by decide) w_211 rfl rfl rfl rfl (Nat.le_of_ble_eq_true rfl) (ws' := [(y0, .inr (0, [.int sum, .ref y1, .ref y2])), (y1, .inl (T 0, 7, .inl yb)), (y2, .inl (T 0, 7, .inl yt)), (a0, .inr (5, [.int (nI an), .int am, .int al, .int ao, .int au, .ref a1, .ref a2, .ref a3, .ref a4, .ref a5, .ref a6, .ref a7, .ref a8, .ref a9, .ref a10])), (a1, .inl (T 0, 10, .inl af1)), (a2, .inl (T 0, 10, .inl af2))]) rfl dX0_layFrom_35 (fun H locs V => ?_)
        refine lv_aload_n hx hb dX0_layFrom_38 rfl (lv_at hl 0 rfl) ?_
        refine g_get hC V (ci := 0) uwX0 0 rfl rfl 2 (by decide) w_215 rfl rfl dX0_layFrom_39 ?_
        refine lv_iconst (v := (nI 0)) hx hb dX0_layFrom_42 (by decide +kernel) ?_
        refine lv_aload_n hx hb dX0_layFrom_43 rfl (lv_at hl 0 rfl) ?_
        refine g_get hC V (ci := 0) uwX0 0 rfl rfl 1 (by decide) w_213 rfl rfl dX0_layFrom_44 ?_
        refine lv_iconst (v := (nI 0)) hx hb dX0_layFrom_47 (by decide +kernel) ?_
        refine lv_bipush (v := (nI 7)) hx hb dX0_layFrom_48 (by decide +kernel) ?_
        refine g_copyf hC V hl.1 w_808 w_672 w_671 w_17 2 1 rfl rfl (by decide +kernel) (by decide +kernel) (Nat.le_of_ble_eq_true rfl) (Nat.le_of_ble_eq_true rfl) (Nat.le_of_ble_eq_true rfl) dX0_layFrom_50 7 (by decide +kernel) (fun g_17 hcp H locs V => ?_)
        have V : gW D T A s [(y0, .inr (0, [.int sum, .ref y1, .ref y2])), (y1, .inl (T 0, 7, .inl g_17)), (y2, .inl (T 0, 7, .inl yt)), (a0, .inr (5, [.int (nI an), .int am, .int al, .int ao, .int au, .ref a1, .ref a2, .ref a3, .ref a4, .ref a5, .ref a6, .ref a7, .ref a8, .ref a9, .ref a10])), (a1, .inl (T 0, 10, .inl af1)), (a2, .inl (T 0, 10, .inl af2))] H locs := V
        exact g_vret (Qr := (q_y_layf0 T fa pp so_ y0 a0 tk sum ys y1 y2 yb yt an am al ao au a1 a2 a3 a4 a5 a6 a7 a8 a9 a10 af1 af2)) hC V ⟨(Nat.le_of_ble_eq_true rfl), (Nat.le_of_ble_eq_true rfl)⟩ ⟨sum, g_17, yt, rfl, rfl, (by rw [show an - 0 = 0 by omega]; exact rs_up h_st h_sum (by omega) (Or.inr c_15) (fun i hi => (hcp i (by omega)).trans (h_pp.2 i (by omega)).1)), (fun _ _ => rfl)⟩ dX0_layFrom_53
      · skip
        have c_16 := b_nle (by omega) (by omega) c_16
        refine lv_iload_n hx hb dX0_layFrom_26 rfl (lv_at hl 2 rfl) ?_
        refine lv_bipush (v := (nI 7)) hx hb dX0_layFrom_27 (by decide +kernel) ?_
        refine lv_icmp_lt (tgt := 54) hx hb dX0_layFrom_29 (by decide) (fun _ => ?_) (fun c => absurd (show (nI 0) < (nI 7) by first | rfl | decide +kernel) c)
        refine lv_iconst (v := (nI 0)) hx hb dX0_layFrom_54 (by decide +kernel) ?_
        refine lv_istore (lv' := [(5, .int (nI 0)), (0, .ref y0), (1, .ref a0), (2, .int (nI 0)), (3, .int tk), (4, .int sum)]) hx hb dX0_layFrom_55 hl (by decide) rfl (fun ls hl => ?_)
        have L_18 : ∀ (fu : Nat) (k57 : Nat) (bv : Int32) (ga : Nat → Int32) (gb : Nat → Int32), k57 ≤ an → (∀ j, j < 7 → gb j = yt j) → RST an fa ((gcK an (an - 1) pp k57).foldl (upC fa) so_) bv ga → an - k57 < fu → ∀ (H : Heap) (locs : List Loc) (ls : Array Slot), gW D T A s [(y0, .inr (0, [.int bv, .ref y1, .ref y2])), (y1, .inl (T 0, 7, .inl ga)), (y2, .inl (T 0, 7, .inl gb)), (a0, .inr (5, [.int (nI an), .int am, .int al, .int ao, .int au, .ref a1, .ref a2, .ref a3, .ref a4, .ref a5, .ref a6, .ref a7, .ref a8, .ref a9, .ref a10])), (a1, .inl (T 0, 10, .inl af1)), (a2, .inl (T 0, 10, .inl af2))] H locs → lv_has ls 7 [(5, .int (nI k57)), (0, .ref y0), (1, .ref a0), (2, .int (nI 0)), (3, .int tk), (4, .int sum)] → W p l e (rmD 9 0 0) s m args below meth c H locs 0 0 (MQ below (gQ D A (q_y_layf0 T fa pp so_ y0 a0 tk sum ys y1 y2 yb yt an am al ao au a1 a2 a3 a4 a5 a6 a7 a8 a9 a10 af1 af2)) args s 0 0 A) (F0 m 57 ls []) := by
          intro fu_57
          induction fu_57 with
          | zero => intro k57 bv ga gb hk57 hgb hR hmu; exact absurd hmu (Nat.not_lt_zero _)
          | succ fu_57 ih_57 =>
            intro k57 bv ga gb hk57 hgb hR hmu_57 H locs ls V hl
            refine lv_iload hx hb dX0_layFrom_57 (lv_at hl 0 rfl) ?_
            refine lv_aload_n hx hb dX0_layFrom_59 rfl (lv_at hl 2 rfl) ?_
            refine g_get hC V (ci := 5) uwX5 3 rfl rfl 0 (by decide) w_35 rfl rfl dX0_layFrom_60 ?_
            refine lv_icmp_ge (tgt := 145) hx hb dX0_layFrom_63 (by decide) (fun c_19 => ?_) (fun c_19 => ?_)
            · skip
              have c_19 := b_le (by omega) (by omega) c_19
              exact g_vret (Qr := (q_y_layf0 T fa pp so_ y0 a0 tk sum ys y1 y2 yb yt an am al ao au a1 a2 a3 a4 a5 a6 a7 a8 a9 a10 af1 af2)) hC V ⟨(Nat.le_of_ble_eq_true rfl), (Nat.le_of_ble_eq_true rfl)⟩ ⟨bv, ga, gb, rfl, rfl, (by rw [show an - 0 = (an - 1) + 1 by omega]; have q := hR; rw [show k57 = an by omega] at q; exact q), hgb⟩ dX0_layFrom_145
            · skip
              have c_19 := b_nle (by omega) (by omega) c_19
              refine lv_iload_n hx hb dX0_layFrom_66 rfl (lv_at hl 4 rfl) ?_
              refine lv_iload hx hb dX0_layFrom_67 (lv_at hl 0 rfl) ?_
              refine g_callSNU (nA := 2) (host := RX7) hC V hl.1 (c_isIn_f l D T tk k57) w_472 (List.mem_of_getElem? (i := 7) rfl) w_2 w_471 (by decide +kernel) rfl ⟨(Nat.le_of_ble_eq_true rfl), (Nat.le_of_ble_eq_true rfl)⟩ [] rfl rfl (Nat.le_of_ble_eq_true rfl) dX0_layFrom_69 ⟨(Nat.le_of_ble_eq_true rfl), (Nat.le_of_ble_eq_true rfl)⟩ rfl (fun r w1 H locs hQ V => ?_)
              rcases hQ with ⟨rfl, rfl, f_20⟩ | ⟨rfl, rfl, f_21⟩
              · have V : gW D T A s [(y0, .inr (0, [.int bv, .ref y1, .ref y2])), (y1, .inl (T 0, 7, .inl ga)), (y2, .inl (T 0, 7, .inl gb)), (a0, .inr (5, [.int (nI an), .int am, .int al, .int ao, .int au, .ref a1, .ref a2, .ref a3, .ref a4, .ref a5, .ref a6, .ref a7, .ref a8, .ref a9, .ref a10])), (a1, .inl (T 0, 10, .inl af1)), (a2, .inl (T 0, 10, .inl af2))] H locs := V _ [] rfl rfl rfl (by decide +kernel) rfl
                show W p l e _ s m args below meth c H locs _ _ _ (F0 m 72 ls [.int (nI 1)])
                refine lv_if_ne (tgt := 139) hx hb dX0_layFrom_72 (by decide) (fun _ => ?_) (fun c => absurd (show (nI 1) = 0 from c) (by decide +kernel))
                refine lv_iinc (v := (nI (k57 + 1))) (lv' := [(5, .int (nI (k57 + 1))), (0, .ref y0), (1, .ref a0), (2, .int (nI 0)), (3, .int tk), (4, .int sum)]) hx hb dX0_layFrom_139 hl (k := 0) rfl (nI_1 _) (by decide) rfl (fun ls hl => ?_)
                refine lv_goto (tgt := 57) hx hb dX0_layFrom_142 (by decide) ?_
                exact ih_57 (k57 + 1) bv ga gb (by omega) hgb (by rw [gck_n (Or.inl ((h_us k57 (by omega)).mp f_20))]; exact hR) (by omega) _ _ _ V (lv_sub hl [0, 1, 2, 3, 4, 5] rfl)
              · have V : gW D T A s [(y0, .inr (0, [.int bv, .ref y1, .ref y2])), (y1, .inl (T 0, 7, .inl ga)), (y2, .inl (T 0, 7, .inl gb)), (a0, .inr (5, [.int (nI an), .int am, .int al, .int ao, .int au, .ref a1, .ref a2, .ref a3, .ref a4, .ref a5, .ref a6, .ref a7, .ref a8, .ref a9, .ref a10])), (a1, .inl (T 0, 10, .inl af1)), (a2, .inl (T 0, 10, .inl af2))] H locs := V _ [] rfl rfl rfl (by decide +kernel) rfl
                show W p l e _ s m args below meth c H locs _ _ _ (F0 m 72 ls [.int (nI 0)])
                refine lv_if_ne (tgt := 139) hx hb dX0_layFrom_72 (by decide) (fun c => absurd (show (nI 0) = 0 by decide +kernel) c) (fun _ => ?_)
                refine lv_aload_n hx hb dX0_layFrom_75 rfl (lv_at hl 1 rfl) ?_
                refine lv_aload_n hx hb dX0_layFrom_76 rfl (lv_at hl 2 rfl) ?_
                refine lv_iload_n hx hb dX0_layFrom_77 rfl (lv_at hl 3 rfl) ?_
                refine lv_iload hx hb dX0_layFrom_78 (lv_at hl 0 rfl) ?_
                refine g_callVU (nA := 3) hC V hl.1 (y_closes_f l D T pp y0 a0 0 k57 bv y1 y2 gb an am al ao au a1 a2 a3 a4 a5 a6 a7 a8 a9 a10 (by first | assumption | omega) (pf_e h_pp (fun j hj => hgb j (by omega))) (fun j h1 h2 => (hgb j h2).trans (h_pm j h1 h2)) (by omega) (by omega)) w_810 w_812 w_s32 w_7 w_813 (by decide +kernel) rfl ⟨(Nat.le_of_ble_eq_true rfl), (Nat.le_of_ble_eq_true rfl)⟩ 0 (ci := 0) rfl rfl [0, 2, 3] rfl rfl (Nat.le_of_ble_eq_true rfl) dX0_layFrom_80 ⟨(Nat.le_of_ble_eq_true rfl), (Nat.le_of_ble_eq_true rfl)⟩ rfl (fun r w1 H locs hQ V => ?_)
                rcases hQ with ⟨rfl, rfl, f_22⟩ | ⟨rfl, rfl, f_23⟩
                · have V : gW D T A s [(y0, .inr (0, [.int bv, .ref y1, .ref y2])), (y1, .inl (T 0, 7, .inl ga)), (y2, .inl (T 0, 7, .inl gb)), (a0, .inr (5, [.int (nI an), .int am, .int al, .int ao, .int au, .ref a1, .ref a2, .ref a3, .ref a4, .ref a5, .ref a6, .ref a7, .ref a8, .ref a9, .ref a10])), (a1, .inl (T 0, 10, .inl af1)), (a2, .inl (T 0, 10, .inl af2))] H locs := V _ [0, 1, 0] rfl rfl rfl (by decide +kernel) rfl
                  show W p l e _ s m args below meth c H locs _ _ _ (F0 m 83 ls [.int (nI 1)])
                  refine lv_if_ne (tgt := 139) hx hb dX0_layFrom_83 (by decide) (fun _ => ?_) (fun c => absurd (show (nI 1) = 0 from c) (by decide +kernel))
                  refine lv_iinc (v := (nI (k57 + 1))) (lv' := [(5, .int (nI (k57 + 1))), (0, .ref y0), (1, .ref a0), (2, .int (nI 0)), (3, .int tk), (4, .int sum)]) hx hb dX0_layFrom_139 hl (k := 0) rfl (nI_1 _) (by decide) rfl (fun ls hl => ?_)
                  refine lv_goto (tgt := 57) hx hb dX0_layFrom_142 (by decide) ?_
                  exact ih_57 (k57 + 1) bv ga gb (by omega) hgb (by rw [gck_n (Or.inr f_22)]; exact hR) (by omega) _ _ _ V (lv_sub hl [0, 1, 2, 3, 4, 5] rfl)
                · have V : gW D T A s [(y0, .inr (0, [.int bv, .ref y1, .ref y2])), (y1, .inl (T 0, 7, .inl ga)), (y2, .inl (T 0, 7, .inl gb)), (a0, .inr (5, [.int (nI an), .int am, .int al, .int ao, .int au, .ref a1, .ref a2, .ref a3, .ref a4, .ref a5, .ref a6, .ref a7, .ref a8, .ref a9, .ref a10])), (a1, .inl (T 0, 10, .inl af1)), (a2, .inl (T 0, 10, .inl af2))] H locs := V _ [0, 1, 0] rfl rfl rfl (by decide +kernel) rfl
                  show W p l e _ s m args below meth c H locs _ _ _ (F0 m 83 ls [.int (nI 0)])
                  refine lv_if_ne (tgt := 139) hx hb dX0_layFrom_83 (by decide) (fun c => absurd (show (nI 0) = 0 by decide +kernel) c) (fun _ => ?_)
                  refine lv_aload_n hx hb dX0_layFrom_86 rfl (lv_at hl 1 rfl) ?_
                  refine g_get hC V (ci := 0) uwX0 0 rfl rfl 2 (by decide) w_215 rfl rfl dX0_layFrom_87 ?_
                  refine lv_iload_n hx hb dX0_layFrom_90 rfl (lv_at hl 3 rfl) ?_
                  refine lv_iload hx hb dX0_layFrom_91 (lv_at hl 0 rfl) ?_
                  refine g_iast hC V 2 rfl (vp_in_nI (by decide) (by decide)) (f' := (upd gb 0 (nI k57))) (by rw [nI_clamp (by decide)]) (ws' := [(y0, .inr (0, [.int bv, .ref y1, .ref y2])), (y1, .inl (T 0, 7, .inl ga)), (y2, .inl (T 0, 7, .inl (upd gb 0 (nI k57)))), (a0, .inr (5, [.int (nI an), .int am, .int al, .int ao, .int au, .ref a1, .ref a2, .ref a3, .ref a4, .ref a5, .ref a6, .ref a7, .ref a8, .ref a9, .ref a10])), (a1, .inl (T 0, 10, .inl af1)), (a2, .inl (T 0, 10, .inl af2))]) rfl dX0_layFrom_93 (fun H locs V => ?_)
                  refine lv_aload_n hx hb dX0_layFrom_94 rfl (lv_at hl 2 rfl) ?_
                  refine g_get hC V (ci := 5) uwX5 3 rfl rfl 5 (by decide) w_52 rfl rfl dX0_layFrom_95 ?_
                  refine lv_iload_n hx hb dX0_layFrom_98 rfl (lv_at hl 3 rfl) ?_
                  refine g_iald hC V 4 rfl (vp_in_nI (by decide) (by decide)) (v := (af1 0)) (congrArg _ (nI_clamp (by decide))) dX0_layFrom_99 ?_
                  refine lv_aload_n hx hb dX0_layFrom_100 rfl (lv_at hl 2 rfl) ?_
                  refine g_get hC V (ci := 5) uwX5 3 rfl rfl 6 (by decide) w_58 rfl rfl dX0_layFrom_101 ?_
                  refine lv_iload hx hb dX0_layFrom_104 (lv_at hl 0 rfl) ?_
                  refine g_iald hC V 5 rfl (vp_in_nI (by omega) (by omega)) (v := (af2 k57)) (congrArg _ (nI_clamp (by omega))) dX0_layFrom_106 ?_
                  refine lv_isub hx hb dX0_layFrom_107 ?_
                  refine va_mabs hx hb (hml.trans hl.1.symm) hown (hts _ w_814) (hts _ w_815) (hts _ w_10) (hts _ w_816) (Nat.le_of_ble_eq_true rfl) (Nat.le_of_ble_eq_true rfl) (Nat.le_of_ble_eq_true rfl) (Nat.le_of_ble_eq_true rfl) dX0_layFrom_108 ?_
                  refine lv_istore (lv' := [(6, .int (if 0 ≤ ((af1 0) - (af2 k57)) then ((af1 0) - (af2 k57)) else 0 - ((af1 0) - (af2 k57)))), (5, .int (nI k57)), (0, .ref y0), (1, .ref a0), (2, .int (nI 0)), (3, .int tk), (4, .int sum)]) hx hb dX0_layFrom_111 hl (by decide) rfl (fun ls hl => ?_)
                  refine lv_aload_n hx hb dX0_layFrom_113 rfl (lv_at hl 2 rfl) ?_
                  refine lv_aload_n hx hb dX0_layFrom_114 rfl (lv_at hl 3 rfl) ?_
                  refine lv_iload_n hx hb dX0_layFrom_115 rfl (lv_at hl 4 rfl) ?_
                  refine lv_iconst (v := (nI 1)) hx hb dX0_layFrom_116 (by decide +kernel) ?_
                  refine lv_iadd hx hb dX0_layFrom_117 ?_
                  refine g_vi (y := (nI 1)) (by decide +kernel) ?_
                  refine lv_iload_n hx hb dX0_layFrom_118 rfl (lv_at hl 5 rfl) ?_
                  refine lv_iconst (v := (nI 1)) hx hb dX0_layFrom_119 (by decide +kernel) ?_
                  refine lv_iload hx hb dX0_layFrom_120 (lv_at hl 1 rfl) ?_
                  refine lv_ishl hx hb dX0_layFrom_122 ?_
                  refine lv_ior hx hb dX0_layFrom_123 ?_
                  refine lv_iload hx hb dX0_layFrom_124 (lv_at hl 6 rfl) ?_
                  refine lv_iload hx hb dX0_layFrom_126 (lv_at hl 0 rfl) ?_
                  refine lv_iadd hx hb dX0_layFrom_128 ?_
                  refine g_callV (wr := []) (nA := 4) hC V hl.1 (y_layf1 l D T fa (pp ++ [k57]) ((gcK an (an - 1) pp k57).foldl (upC fa) so_) y0 a0 (tk ||| ((nI 1) <<< ((nI k57) &&& 31))) (sum + (if 0 ≤ ((af1 0) - (af2 k57)) then ((af1 0) - (af2 k57)) else 0 - ((af1 0) - (af2 k57)))) bv y1 y2 ga (upd gb 0 (nI k57)) an am al ao au a1 a2 a3 a4 a5 a6 a7 a8 a9 a10 af1 af2 (by first | assumption | omega) (pf_s (pf_e h_pp (fun j hj => hgb j (by omega))) (by omega)) (fun j h1 h2 => (up_other (by omega)).trans ((hgb j h2).trans (h_pm j (by omega) h2))) (us_s h_us (by omega)) (sqz_s h_a (by omega) (by omega) h_sum h_pp.1 (of_c (n := an) (h_s1 0 (by omega)) (h_s2 k57 (by omega)) rfl)) (sqz_b h_a (by omega) (by omega) h_sb h_pp.1) hR (by omega) (by first | assumption | omega) (by first | assumption | omega) (by first | assumption | omega)) w_804 w_806 w_s31 w_7 w_807 (by decide +kernel) rfl ⟨(Nat.le_of_ble_eq_true rfl), (Nat.le_of_ble_eq_true rfl)⟩ 0 (ci := 0) rfl rfl [0, 1, 2, 3, 4, 5] [] rfl rfl rfl rfl (by decide) (Nat.le_of_ble_eq_true rfl) dX0_layFrom_129 ⟨(Nat.le_of_ble_eq_true rfl), (Nat.le_of_ble_eq_true rfl)⟩ rfl (fun r w1 H locs hQ V => ?_)
                  obtain ⟨bs_24, g1_25, g2_26, rfl, rfl, f_27, f_28⟩ := hQ
                  have V : gW D T A s [(y0, .inr (0, [.int bs_24, .ref y1, .ref y2])), (y1, .inl (T 0, 7, .inl g1_25)), (y2, .inl (T 0, 7, .inl g2_26)), (a0, .inr (5, [.int (nI an), .int am, .int al, .int ao, .int au, .ref a1, .ref a2, .ref a3, .ref a4, .ref a5, .ref a6, .ref a7, .ref a8, .ref a9, .ref a10])), (a1, .inl (T 0, 10, .inl af1)), (a2, .inl (T 0, 10, .inl af2))] H locs := V
                  show W p l e _ s m args below meth c H locs _ _ _ (F0 m 132 ls [])
                  refine lv_aload_n hx hb dX0_layFrom_132 rfl (lv_at hl 2 rfl) ?_
                  refine g_get hC V (ci := 0) uwX0 0 rfl rfl 2 (by decide) w_215 rfl rfl dX0_layFrom_133 ?_
                  refine lv_iload_n hx hb dX0_layFrom_136 rfl (lv_at hl 4 rfl) ?_
                  refine lv_iconst (v := (-1)) hx hb dX0_layFrom_137 (by decide +kernel) ?_
                  refine g_iast hC V 2 rfl (vp_in_nI (by decide) (by decide)) (f' := (upd g2_26 0 (-1))) (by rw [nI_clamp (by decide)]) (ws' := [(y0, .inr (0, [.int bs_24, .ref y1, .ref y2])), (y1, .inl (T 0, 7, .inl g1_25)), (y2, .inl (T 0, 7, .inl (upd g2_26 0 (-1)))), (a0, .inr (5, [.int (nI an), .int am, .int al, .int ao, .int au, .ref a1, .ref a2, .ref a3, .ref a4, .ref a5, .ref a6, .ref a7, .ref a8, .ref a9, .ref a10])), (a1, .inl (T 0, 10, .inl af1)), (a2, .inl (T 0, 10, .inl af2))]) rfl dX0_layFrom_138 (fun H locs V => ?_)
                  refine lv_iinc (v := (nI (k57 + 1))) (lv' := [(5, .int (nI (k57 + 1))), (6, .int (if 0 ≤ ((af1 0) - (af2 k57)) then ((af1 0) - (af2 k57)) else 0 - ((af1 0) - (af2 k57)))), (0, .ref y0), (1, .ref a0), (2, .int (nI 0)), (3, .int tk), (4, .int sum)]) hx hb dX0_layFrom_139 hl (k := 1) rfl (nI_1 _) (by decide) rfl (fun ls hl => ?_)
                  refine lv_goto (tgt := 57) hx hb dX0_layFrom_142 (by decide) ?_
                  exact ih_57 (k57 + 1) bs_24 g1_25 (upd g2_26 0 (-1)) (by omega) (fun j hj => if q : j = 0 then by rw [q, up_same]; exact (h_pm 0 (by omega) (by omega)).symm else (up_other q).trans ((f_28 j hj).trans ((up_other q).trans (hgb j hj)))) (by rw [gck_y (fun q => q.elim (fun r => f_21 ((h_us k57 (by omega)).mpr r)) (fun r => by rw [f_23] at r; cases r)), List.foldl_append]; exact f_27) (by omega) _ _ _ V (lv_sub hl [0, 2, 3, 4, 5, 6] rfl)
        exact L_18 _ 0 ys yb yt (by omega) (fun _ _ => rfl) h_st (Nat.lt_succ_self _) _ _ _ V (lv_sub hl [0, 1, 2, 3, 4, 5] rfl)
    · skip
      exact g_vret (Qr := (q_y_layf0 T fa pp so_ y0 a0 tk sum ys y1 y2 yb yt an am al ao au a1 a2 a3 a4 a5 a6 a7 a8 a9 a10 af1 af2)) hC V ⟨(Nat.le_of_ble_eq_true rfl), (Nat.le_of_ble_eq_true rfl)⟩ ⟨ys, yb, yt, rfl, rfl, (rs_pr h_st c_1 h_sum (by omega) c_15), (fun _ _ => rfl)⟩ dX0_layFrom_17

def q_y_seekBest_f (T : Nat → ClassId) (fa : Nat → Int32) (y0 : Nat) (a0 : Nat) (ys : Int32) (y1 : Nat) (y2 : Nat) (yb : Nat → Int32) (yt0 : Nat → Int32) (an : Nat) (am : Int32) (al : Int32) (ao : Int32) (au : Int32) (a1 : Nat) (a2 : Nat) (a3 : Nat) (a4 : Nat) (a5 : Nat) (a6 : Nat) (a7 : Nat) (a8 : Nat) (a9 : Nat) (a10 : Nat) (af1 : Nat → Int32) (af2 : Nat → Int32) : Option Value → va_W → Prop := fun rr ww => (∃ (bs : Int32) (g1 : Nat → Int32) (g2 : Nat → Int32), rr = none ∧ ww = [(y0, .inr (0, [.int bs, .ref y1, .ref y2])), (y1, .inl (T 0, 7, .inl g1)), (y2, .inl (T 0, 7, .inl g2)), (a0, .inr (5, [.int (nI an), .int am, .int al, .int ao, .int au, .ref a1, .ref a2, .ref a3, .ref a4, .ref a5, .ref a6, .ref a7, .ref a8, .ref a9, .ref a10])), (a1, .inl (T 0, 10, .inl af1)), (a2, .inl (T 0, 10, .inl af2))] ∧ RST an fa ((gC an an []).foldl (upC fa) none) bs g1)
set_option maxHeartbeats 4000000 in
set_option maxRecDepth 100000 in
theorem y_seekBest_f (l : Launch) (D : va_G) (T : Nat → ClassId) (fa : Nat → Int32) (y0 : Nat) (a0 : Nat) (ys : Int32) (y1 : Nat) (y2 : Nat) (yb : Nat → Int32) (yt0 : Nat → Int32) (an : Nat) (am : Int32) (al : Int32) (ao : Int32) (au : Int32) (a1 : Nat) (a2 : Nat) (a3 : Nat) (a4 : Nat) (a5 : Nat) (a6 : Nat) (a7 : Nat) (a8 : Nat) (a9 : Nat) (a10 : Nat) (af1 : Nat → Int32) (af2 : Nat → Int32) (h_n : an ≤ 7) (h_a : MI an fa) (h_s1 : ∀ i, i < an → af1 i = fa (4 + i)) (h_s2 : ∀ i, i < an → af2 i = fa (14 + i)) : Ct l yX0_seekBest cX0_seekBest 2 none 10 0 0 D T [.ref y0, .ref a0] [(y0, .inr (0, [.int ys, .ref y1, .ref y2])), (y1, .inl (T 0, 7, .inl yb)), (y2, .inl (T 0, 7, .inl yt0)), (a0, .inr (5, [.int (nI an), .int am, .int al, .int ao, .int au, .ref a1, .ref a2, .ref a3, .ref a4, .ref a5, .ref a6, .ref a7, .ref a8, .ref a9, .ref a10])), (a1, .inl (T 0, 10, .inl af1)), (a2, .inl (T 0, 10, .inl af2))] (q_y_seekBest_f T fa y0 a0 ys y1 y2 yb yt0 an am al ao au a1 a2 a3 a4 a5 a6 a7 a8 a9 a10 af1 af2) := by
  refine Ct.of (cc := cX0_seekBest) (maxL := 2) (ret := none) (by decide) (Nat.le_of_ble_eq_true rfl) ?_
  intro p e s m args below meth c A ls hC hnm V hl
  obtain ⟨hx, hb, hr, hml, hown, hts, hlocks⟩ := id hC
  generalize hH : s.heap = H at V ⊢
  clear hH
  have hl : lv_has ls 2 [(0, .ref y0), (1, .ref a0)] := hl
  generalize hlo : ([] : List Loc) = locs at V ⊢
  clear hlo
  refine lv_aload_n hx hb dX0_seekBest_0 rfl (lv_at hl 0 rfl) ?_
  refine lv_iconst (v := (-1)) hx hb dX0_seekBest_1 (by decide +kernel) ?_
  refine g_put hC V (ci := 0) uwX0 tyX0 tyX0_ok nmX0 0 rfl rfl 0 (by decide) w_211 rfl rfl rfl rfl (Nat.le_of_ble_eq_true rfl) (ws' := [(y0, .inr (0, [.int (-1), .ref y1, .ref y2])), (y1, .inl (T 0, 7, .inl yb)), (y2, .inl (T 0, 7, .inl yt0)), (a0, .inr (5, [.int (nI an), .int am, .int al, .int ao, .int au, .ref a1, .ref a2, .ref a3, .ref a4, .ref a5, .ref a6, .ref a7, .ref a8, .ref a9, .ref a10])), (a1, .inl (T 0, 10, .inl af1)), (a2, .inl (T 0, 10, .inl af2))]) rfl dX0_seekBest_2 (fun H locs V => ?_)
  refine lv_aload_n hx hb dX0_seekBest_5 rfl (lv_at hl 0 rfl) ?_
  refine g_get hC V (ci := 0) uwX0 0 rfl rfl 2 (by decide) w_215 rfl rfl dX0_seekBest_6 ?_
  refine lv_iconst (v := (-1)) hx hb dX0_seekBest_9 (by decide +kernel) ?_
  refine g_callSU (nA := 2) hC V hl.1 (c_fill7 l D T y2 (-1) yt0) w_803 w_307 w_11 w_308 (by decide +kernel) rfl ⟨(Nat.le_of_ble_eq_true rfl), (Nat.le_of_ble_eq_true rfl)⟩ [2] rfl rfl (Nat.le_of_ble_eq_true rfl) dX0_seekBest_10 ⟨(Nat.le_of_ble_eq_true rfl), (Nat.le_of_ble_eq_true rfl)⟩ rfl (fun r w1 H locs hQ V => ?_)
  obtain ⟨g_1, rfl, rfl, f_2⟩ := hQ
  have V : gW D T A s [(y0, .inr (0, [.int (-1), .ref y1, .ref y2])), (y1, .inl (T 0, 7, .inl yb)), (y2, .inl (T 0, 7, .inl g_1)), (a0, .inr (5, [.int (nI an), .int am, .int al, .int ao, .int au, .ref a1, .ref a2, .ref a3, .ref a4, .ref a5, .ref a6, .ref a7, .ref a8, .ref a9, .ref a10])), (a1, .inl (T 0, 10, .inl af1)), (a2, .inl (T 0, 10, .inl af2))] H locs := V _ [2] rfl rfl rfl (by decide +kernel) rfl
  show W p l e _ s m args below meth c H locs _ _ _ (F0 m 13 ls [])
  have hfi := f_2
  refine lv_aload_n hx hb dX0_seekBest_13 rfl (lv_at hl 0 rfl) ?_
  refine lv_aload_n hx hb dX0_seekBest_14 rfl (lv_at hl 1 rfl) ?_
  refine lv_iconst (v := (nI 0)) hx hb dX0_seekBest_15 (by decide +kernel) ?_
  refine lv_iconst (v := (nI 0)) hx hb dX0_seekBest_16 (by decide +kernel) ?_
  refine lv_iconst (v := (nI 0)) hx hb dX0_seekBest_17 (by decide +kernel) ?_
  refine g_callV (wr := []) (nA := 4) hC V hl.1 (y_layf0 l D T fa ([]) none y0 a0 (nI 0) (nI 0) (-1) y1 y2 yb g_1 an am al ao au a1 a2 a3 a4 a5 a6 a7 a8 a9 a10 af1 af2 (by first | assumption | omega) ⟨rfl, fun j h => absurd h (Nat.not_lt_zero _)⟩ (fun j _ h => hfi j h) us_0 rfl (Nat.le_refl _) rfl (Nat.zero_le _) (by first | assumption | omega) (by first | assumption | omega) (by first | assumption | omega)) w_804 w_806 w_s31 w_7 w_807 (by decide +kernel) rfl ⟨(Nat.le_of_ble_eq_true rfl), (Nat.le_of_ble_eq_true rfl)⟩ 0 (ci := 0) rfl rfl [0, 1, 2, 3, 4, 5] [] rfl rfl rfl rfl (by decide) (Nat.le_of_ble_eq_true rfl) dX0_seekBest_18 ⟨(Nat.le_of_ble_eq_true rfl), (Nat.le_of_ble_eq_true rfl)⟩ rfl (fun r w1 H locs hQ V => ?_)
  obtain ⟨bs_3, g1_4, g2_5, rfl, rfl, f_6, f_7⟩ := hQ
  have V : gW D T A s [(y0, .inr (0, [.int bs_3, .ref y1, .ref y2])), (y1, .inl (T 0, 7, .inl g1_4)), (y2, .inl (T 0, 7, .inl g2_5)), (a0, .inr (5, [.int (nI an), .int am, .int al, .int ao, .int au, .ref a1, .ref a2, .ref a3, .ref a4, .ref a5, .ref a6, .ref a7, .ref a8, .ref a9, .ref a10])), (a1, .inl (T 0, 10, .inl af1)), (a2, .inl (T 0, 10, .inl af2))] H locs := V
  show W p l e _ s m args below meth c H locs _ _ _ (F0 m 21 ls [])
  exact g_vret (Qr := (q_y_seekBest_f T fa y0 a0 ys y1 y2 yb yt0 an am al ao au a1 a2 a3 a4 a5 a6 a7 a8 a9 a10 af1 af2)) hC V ⟨(Nat.le_of_ble_eq_true rfl), (Nat.le_of_ble_eq_true rfl)⟩ ⟨bs_3, g1_4, g2_5, rfl, rfl, f_6⟩ dX0_seekBest_21

def q_x_ropes_f (T : Nat → ClassId) (nf3 : Nat → Int32) (nf4 : Nat → Int32) (nf5 : Nat → Int32) (nf6 : Nat → Int32) (nf7 : Nat → Int32) (nf9 : Nat → Int32) (fa : Nat → Int32) (o : Nat) (wh : Int32) (n0 : Nat) (s0 : Nat) (im : Nat) (iz : Nat) (rw : Nat) (t0 : Nat) (u0 : Nat) (h0 : Nat) (y0 : Nat) (sv : Value) (ys : Int32) (y1 : Nat) (y2 : Nat) (yb : Nat → Int32) (yt : Nat → Int32) (nn : Nat) (nm : Int32) (nl : Int32) (no : Int32) (nu : Int32) (n1 : Nat) (n2 : Nat) (n3 : Nat) (n4 : Nat) (n5 : Nat) (n6 : Nat) (n7 : Nat) (n8 : Nat) (n9 : Nat) (n10 : Nat) (nf1 : Nat → Int32) (nf2 : Nat → Int32) : Option Value → va_W → Prop := fun rr ww => (∃ (z : Int32) (bs : Int32) (k1 : Nat → Int32) (k2 : Nat → Int32), rr = some (.int z) ∧ ww = [(o, .inr (7, [.ref n0, .ref s0, .ref im, .ref iz, .ref rw, .ref t0, .ref u0, .ref h0, .ref y0, sv])), (y0, .inr (0, [.int bs, .ref y1, .ref y2])), (y1, .inl (T 0, 7, .inl k1)), (y2, .inl (T 0, 7, .inl k2)), (n0, .inr (5, [.int (nI nn), .int nm, .int nl, .int no, .int nu, .ref n1, .ref n2, .ref n3, .ref n4, .ref n5, .ref n6, .ref n7, .ref n8, .ref n9, .ref n10])), (n1, .inl (T 0, 10, .inl nf1)), (n2, .inl (T 0, 10, .inl nf2))] ∧ z = rpA nn fa wh)
set_option maxHeartbeats 4000000 in
set_option maxRecDepth 100000 in
theorem x_ropes_f (l : Launch) (D : va_G) (T : Nat → ClassId) (nf3 : Nat → Int32) (nf4 : Nat → Int32) (nf5 : Nat → Int32) (nf6 : Nat → Int32) (nf7 : Nat → Int32) (nf9 : Nat → Int32) (fa : Nat → Int32) (o : Nat) (wh : Int32) (n0 : Nat) (s0 : Nat) (im : Nat) (iz : Nat) (rw : Nat) (t0 : Nat) (u0 : Nat) (h0 : Nat) (y0 : Nat) (sv : Value) (ys : Int32) (y1 : Nat) (y2 : Nat) (yb : Nat → Int32) (yt : Nat → Int32) (nn : Nat) (nm : Int32) (nl : Int32) (no : Int32) (nu : Int32) (n1 : Nat) (n2 : Nat) (n3 : Nat) (n4 : Nat) (n5 : Nat) (n6 : Nat) (n7 : Nat) (n8 : Nat) (n9 : Nat) (n10 : Nat) (nf1 : Nat → Int32) (nf2 : Nat → Int32) (h_n : nn ≤ 10) (h_sr : SR nn nm nl no nf1 nf2 nf3 nf4 nf5 nf6 nf7 nf9 fa) (h_a : MI nn fa) : Ct l yX7_ropes cX7_ropes 2 (some .int) 11 0 0 D T [.ref o, .int wh] [(o, .inr (7, [.ref n0, .ref s0, .ref im, .ref iz, .ref rw, .ref t0, .ref u0, .ref h0, .ref y0, sv])), (y0, .inr (0, [.int ys, .ref y1, .ref y2])), (y1, .inl (T 0, 7, .inl yb)), (y2, .inl (T 0, 7, .inl yt)), (n0, .inr (5, [.int (nI nn), .int nm, .int nl, .int no, .int nu, .ref n1, .ref n2, .ref n3, .ref n4, .ref n5, .ref n6, .ref n7, .ref n8, .ref n9, .ref n10])), (n1, .inl (T 0, 10, .inl nf1)), (n2, .inl (T 0, 10, .inl nf2))] (q_x_ropes_f T nf3 nf4 nf5 nf6 nf7 nf9 fa o wh n0 s0 im iz rw t0 u0 h0 y0 sv ys y1 y2 yb yt nn nm nl no nu n1 n2 n3 n4 n5 n6 n7 n8 n9 n10 nf1 nf2) := by
  refine Ct.of (cc := cX7_ropes) (maxL := 2) (ret := (some .int)) (by decide) (Nat.le_of_ble_eq_true rfl) ?_
  intro p e s m args below meth c A ls hC hnm V hl
  obtain ⟨hx, hb, hr, hml, hown, hts, hlocks⟩ := id hC
  generalize hH : s.heap = H at V ⊢
  clear hH
  have hl : lv_has ls 2 [(0, .ref o), (1, .int wh)] := hl
  generalize hlo : ([] : List Loc) = locs at V ⊢
  clear hlo
  refine lv_iload_n hx hb dX7_ropes_0 rfl (lv_at hl 1 rfl) ?_
  refine lv_if_eq (tgt := 21) hx hb dX7_ropes_1 (by decide) (fun c_1 => ?_) (fun c_1 => ?_)
  · skip
    refine lv_aload_n hx hb dX7_ropes_21 rfl (lv_at hl 0 rfl) ?_
    refine g_get hC V (ci := 7) uwX7 0 rfl rfl 0 (by decide) w_249 rfl rfl dX7_ropes_22 ?_
    refine g_get hC V (ci := 5) uwX5 4 rfl rfl 0 (by decide) w_38 rfl rfl dX7_ropes_25 ?_
    refine lv_bipush (v := (nI 7)) hx hb dX7_ropes_28 (by decide +kernel) ?_
    refine lv_icmp_le (tgt := 36) hx hb dX7_ropes_30 (by decide) (fun c_2 => ?_) (fun c_2 => ?_)
    · skip
      have c_2 := b_le (by omega) (by omega) c_2
      refine lv_aload_n hx hb dX7_ropes_36 rfl (lv_at hl 0 rfl) ?_
      refine g_get hC V (ci := 7) uwX7 0 rfl rfl 0 (by decide) w_249 rfl rfl dX7_ropes_37 ?_
      refine g_get hC V (ci := 5) uwX5 4 rfl rfl 0 (by decide) w_38 rfl rfl dX7_ropes_40 ?_
      refine lv_if_ne (tgt := 49) hx hb dX7_ropes_43 (by decide) (fun c_3 => ?_) (fun c_3 => ?_)
      · skip
        rw [show (0 : Int32) = nI 0 from rfl] at c_3
        have c_3 := b_ne (by omega) (by omega) c_3
        refine lv_aload_n hx hb dX7_ropes_49 rfl (lv_at hl 0 rfl) ?_
        refine g_get hC V (ci := 7) uwX7 0 rfl rfl 8 (by decide) w_257 rfl rfl dX7_ropes_50 ?_
        refine lv_aload_n hx hb dX7_ropes_53 rfl (lv_at hl 0 rfl) ?_
        refine g_get hC V (ci := 7) uwX7 0 rfl rfl 0 (by decide) w_249 rfl rfl dX7_ropes_54 ?_
        refine g_callVU (nA := 1) hC V hl.1 (y_seekBest_f l D T fa y0 n0 ys y1 y2 yb yt nn nm nl no nu n1 n2 n3 n4 n5 n6 n7 n8 n9 n10 nf1 nf2 (by omega) h_a (fun i hi => (h_sr.2.2.2.2 i hi).1) (fun i hi => (h_sr.2.2.2.2 i hi).2.1)) w_799 w_800 w_801 w_7 w_802 (by decide +kernel) rfl ⟨(Nat.le_of_ble_eq_true rfl), (Nat.le_of_ble_eq_true rfl)⟩ 1 (ci := 0) rfl rfl [1, 2, 3, 4, 5, 6] rfl rfl (Nat.le_of_ble_eq_true rfl) dX7_ropes_57 ⟨(Nat.le_of_ble_eq_true rfl), (Nat.le_of_ble_eq_true rfl)⟩ rfl (fun r w1 H locs hQ V => ?_)
        obtain ⟨bs_4, g1_5, g2_6, rfl, rfl, f_7⟩ := hQ
        have V : gW D T A s [(o, .inr (7, [.ref n0, .ref s0, .ref im, .ref iz, .ref rw, .ref t0, .ref u0, .ref h0, .ref y0, sv])), (y0, .inr (0, [.int bs_4, .ref y1, .ref y2])), (y1, .inl (T 0, 7, .inl g1_5)), (y2, .inl (T 0, 7, .inl g2_6)), (n0, .inr (5, [.int (nI nn), .int nm, .int nl, .int no, .int nu, .ref n1, .ref n2, .ref n3, .ref n4, .ref n5, .ref n6, .ref n7, .ref n8, .ref n9, .ref n10])), (n1, .inl (T 0, 10, .inl nf1)), (n2, .inl (T 0, 10, .inl nf2))] H locs := V _ [1, 0, 0, 0, 0, 0] rfl rfl rfl (by decide +kernel) rfl
        show W p l e _ s m args below meth c H locs _ _ _ (F0 m 60 ls [])
        refine lv_iload_n hx hb dX7_ropes_60 rfl (lv_at hl 1 rfl) ?_
        refine lv_if_ne (tgt := 74) hx hb dX7_ropes_61 (by decide) (fun c_8 => ?_) (fun c_8 => ?_)
        · skip
          refine lv_aload_n hx hb dX7_ropes_74 rfl (lv_at hl 0 rfl) ?_
          refine g_get hC V (ci := 7) uwX7 0 rfl rfl 8 (by decide) w_257 rfl rfl dX7_ropes_75 ?_
          refine g_get hC V (ci := 0) uwX0 1 rfl rfl 1 (by decide) w_214 rfl rfl dX7_ropes_78 ?_
          refine lv_iload_n hx hb dX7_ropes_81 rfl (lv_at hl 1 rfl) ?_
          refine lv_bipush (v := (nI 10)) hx hb dX7_ropes_82 (by decide +kernel) ?_
          refine lv_isub hx hb dX7_ropes_84 ?_
          exact absurd (by assumption) ‹¬ wh = 0›
        · skip
          refine lv_aload_n hx hb dX7_ropes_64 rfl (lv_at hl 0 rfl) ?_
          refine g_get hC V (ci := 7) uwX7 0 rfl rfl 8 (by decide) w_257 rfl rfl dX7_ropes_65 ?_
          refine g_get hC V (ci := 0) uwX0 1 rfl rfl 0 (by decide) w_212 rfl rfl dX7_ropes_68 ?_
          refine lv_goto (tgt := 86) hx hb dX7_ropes_71 (by decide) ?_
          exact g_iret (Qr := (q_x_ropes_f T nf3 nf4 nf5 nf6 nf7 nf9 fa o wh n0 s0 im iz rw t0 u0 h0 y0 sv ys y1 y2 yb yt nn nm nl no nu n1 n2 n3 n4 n5 n6 n7 n8 n9 n10 nf1 nf2)) hC V ⟨(Nat.le_of_ble_eq_true rfl), (Nat.le_of_ble_eq_true rfl)⟩ ⟨bs_4, bs_4, g1_5, g2_6, rfl, rfl, (rpz_0 (fun q => q.1 c_1) (by omega) (by omega) (by rw [← fold_eq (by omega) (by omega)]; exact f_7) c_8)⟩ dX7_ropes_86
      · skip
        rw [show (0 : Int32) = nI 0 from rfl] at c_3
        have c_3 := b_eq (by omega) (by omega) c_3
        refine lv_bipush (v := (-5)) hx hb dX7_ropes_46 (by decide +kernel) ?_
        exact g_iret (Qr := (q_x_ropes_f T nf3 nf4 nf5 nf6 nf7 nf9 fa o wh n0 s0 im iz rw t0 u0 h0 y0 sv ys y1 y2 yb yt nn nm nl no nu n1 n2 n3 n4 n5 n6 n7 n8 n9 n10 nf1 nf2)) hC V ⟨(Nat.le_of_ble_eq_true rfl), (Nat.le_of_ble_eq_true rfl)⟩ ⟨(-5), ys, yb, yt, rfl, rfl, (rpz_5 (fun q => q.1 c_1) (by omega))⟩ dX7_ropes_48
    · skip
      have c_2 := b_nle (by omega) (by omega) c_2
      refine lv_bipush (v := (-4)) hx hb dX7_ropes_33 (by decide +kernel) ?_
      exact g_iret (Qr := (q_x_ropes_f T nf3 nf4 nf5 nf6 nf7 nf9 fa o wh n0 s0 im iz rw t0 u0 h0 y0 sv ys y1 y2 yb yt nn nm nl no nu n1 n2 n3 n4 n5 n6 n7 n8 n9 n10 nf1 nf2)) hC V ⟨(Nat.le_of_ble_eq_true rfl), (Nat.le_of_ble_eq_true rfl)⟩ ⟨(-4), ys, yb, yt, rfl, rfl, (rpz_4 (fun q => q.1 c_1) (by omega))⟩ dX7_ropes_35
  · skip
    refine lv_aload_n hx hb dX7_ropes_4 rfl (lv_at hl 0 rfl) ?_
    refine g_get hC V (ci := 7) uwX7 0 rfl rfl 0 (by decide) w_249 rfl rfl dX7_ropes_5 ?_
    refine lv_iload_n hx hb dX7_ropes_8 rfl (lv_at hl 1 rfl) ?_
    refine lv_bipush (v := (nI 10)) hx hb dX7_ropes_9 (by decide +kernel) ?_
    refine lv_isub hx hb dX7_ropes_11 ?_
    refine g_callVU (nA := 1) hC V hl.1 (s_isSmith l D T n0 (wh - (nI 10)) nn nm nl no nu n1 n2 n3 n4 n5 n6 n7 n8 n9 n10 (by first | assumption | omega)) w_425 w_426 w_427 w_3 w_428 (by decide +kernel) rfl ⟨(Nat.le_of_ble_eq_true rfl), (Nat.le_of_ble_eq_true rfl)⟩ 4 (ci := 5) rfl rfl [4] rfl rfl (Nat.le_of_ble_eq_true rfl) dX7_ropes_12 ⟨(Nat.le_of_ble_eq_true rfl), (Nat.le_of_ble_eq_true rfl)⟩ rfl (fun r w1 H locs hQ V => ?_)
    rcases hQ with ⟨j_9, rfl, rfl, f_10, f_11⟩ | ⟨rfl, rfl, f_12⟩
    · have V : gW D T A s [(o, .inr (7, [.ref n0, .ref s0, .ref im, .ref iz, .ref rw, .ref t0, .ref u0, .ref h0, .ref y0, sv])), (y0, .inr (0, [.int ys, .ref y1, .ref y2])), (y1, .inl (T 0, 7, .inl yb)), (y2, .inl (T 0, 7, .inl yt)), (n0, .inr (5, [.int (nI nn), .int nm, .int nl, .int no, .int nu, .ref n1, .ref n2, .ref n3, .ref n4, .ref n5, .ref n6, .ref n7, .ref n8, .ref n9, .ref n10])), (n1, .inl (T 0, 10, .inl nf1)), (n2, .inl (T 0, 10, .inl nf2))] H locs := V _ [4] rfl rfl rfl (by decide +kernel) rfl
      show W p l e _ s m args below meth c H locs _ _ _ (F0 m 15 ls [.int (nI 1)])
      refine lv_if_ne (tgt := 21) hx hb dX7_ropes_15 (by decide) (fun _ => ?_) (fun c => absurd (show (nI 1) = 0 from c) (by decide +kernel))
      refine lv_aload_n hx hb dX7_ropes_21 rfl (lv_at hl 0 rfl) ?_
      refine g_get hC V (ci := 7) uwX7 0 rfl rfl 0 (by decide) w_249 rfl rfl dX7_ropes_22 ?_
      refine g_get hC V (ci := 5) uwX5 4 rfl rfl 0 (by decide) w_38 rfl rfl dX7_ropes_25 ?_
      refine lv_bipush (v := (nI 7)) hx hb dX7_ropes_28 (by decide +kernel) ?_
      refine lv_icmp_le (tgt := 36) hx hb dX7_ropes_30 (by decide) (fun c_13 => ?_) (fun c_13 => ?_)
      · skip
        have c_13 := b_le (by omega) (by omega) c_13
        refine lv_aload_n hx hb dX7_ropes_36 rfl (lv_at hl 0 rfl) ?_
        refine g_get hC V (ci := 7) uwX7 0 rfl rfl 0 (by decide) w_249 rfl rfl dX7_ropes_37 ?_
        refine g_get hC V (ci := 5) uwX5 4 rfl rfl 0 (by decide) w_38 rfl rfl dX7_ropes_40 ?_
        refine lv_if_ne (tgt := 49) hx hb dX7_ropes_43 (by decide) (fun c_14 => ?_) (fun c_14 => ?_)
        · skip
          rw [show (0 : Int32) = nI 0 from rfl] at c_14
          have c_14 := b_ne (by omega) (by omega) c_14
          refine lv_aload_n hx hb dX7_ropes_49 rfl (lv_at hl 0 rfl) ?_
          refine g_get hC V (ci := 7) uwX7 0 rfl rfl 8 (by decide) w_257 rfl rfl dX7_ropes_50 ?_
          refine lv_aload_n hx hb dX7_ropes_53 rfl (lv_at hl 0 rfl) ?_
          refine g_get hC V (ci := 7) uwX7 0 rfl rfl 0 (by decide) w_249 rfl rfl dX7_ropes_54 ?_
          refine g_callVU (nA := 1) hC V hl.1 (y_seekBest_f l D T fa y0 n0 ys y1 y2 yb yt nn nm nl no nu n1 n2 n3 n4 n5 n6 n7 n8 n9 n10 nf1 nf2 (by omega) h_a (fun i hi => (h_sr.2.2.2.2 i hi).1) (fun i hi => (h_sr.2.2.2.2 i hi).2.1)) w_799 w_800 w_801 w_7 w_802 (by decide +kernel) rfl ⟨(Nat.le_of_ble_eq_true rfl), (Nat.le_of_ble_eq_true rfl)⟩ 1 (ci := 0) rfl rfl [1, 2, 3, 4, 5, 6] rfl rfl (Nat.le_of_ble_eq_true rfl) dX7_ropes_57 ⟨(Nat.le_of_ble_eq_true rfl), (Nat.le_of_ble_eq_true rfl)⟩ rfl (fun r w1 H locs hQ V => ?_)
          obtain ⟨bs_15, g1_16, g2_17, rfl, rfl, f_18⟩ := hQ
          have V : gW D T A s [(o, .inr (7, [.ref n0, .ref s0, .ref im, .ref iz, .ref rw, .ref t0, .ref u0, .ref h0, .ref y0, sv])), (y0, .inr (0, [.int bs_15, .ref y1, .ref y2])), (y1, .inl (T 0, 7, .inl g1_16)), (y2, .inl (T 0, 7, .inl g2_17)), (n0, .inr (5, [.int (nI nn), .int nm, .int nl, .int no, .int nu, .ref n1, .ref n2, .ref n3, .ref n4, .ref n5, .ref n6, .ref n7, .ref n8, .ref n9, .ref n10])), (n1, .inl (T 0, 10, .inl nf1)), (n2, .inl (T 0, 10, .inl nf2))] H locs := V _ [1, 0, 0, 0, 0, 0] rfl rfl rfl (by decide +kernel) rfl
          show W p l e _ s m args below meth c H locs _ _ _ (F0 m 60 ls [])
          refine lv_iload_n hx hb dX7_ropes_60 rfl (lv_at hl 1 rfl) ?_
          refine lv_if_ne (tgt := 74) hx hb dX7_ropes_61 (by decide) (fun c_19 => ?_) (fun c_19 => ?_)
          · skip
            refine lv_aload_n hx hb dX7_ropes_74 rfl (lv_at hl 0 rfl) ?_
            refine g_get hC V (ci := 7) uwX7 0 rfl rfl 8 (by decide) w_257 rfl rfl dX7_ropes_75 ?_
            refine g_get hC V (ci := 0) uwX0 1 rfl rfl 1 (by decide) w_214 rfl rfl dX7_ropes_78 ?_
            refine lv_iload_n hx hb dX7_ropes_81 rfl (lv_at hl 1 rfl) ?_
            refine lv_bipush (v := (nI 10)) hx hb dX7_ropes_82 (by decide +kernel) ?_
            refine lv_isub hx hb dX7_ropes_84 ?_
            refine g_vi (y := nI j_9) f_10 ?_
            refine g_iald hC V 2 rfl (vp_in_nI (by omega) (by omega)) (v := (g1_16 j_9)) (congrArg _ (nI_clamp (by omega))) dX7_ropes_85 ?_
            exact g_iret (Qr := (q_x_ropes_f T nf3 nf4 nf5 nf6 nf7 nf9 fa o wh n0 s0 im iz rw t0 u0 h0 y0 sv ys y1 y2 yb yt nn nm nl no nu n1 n2 n3 n4 n5 n6 n7 n8 n9 n10 nf1 nf2)) hC V ⟨(Nat.le_of_ble_eq_true rfl), (Nat.le_of_ble_eq_true rfl)⟩ ⟨(g1_16 j_9), bs_15, g1_16, g2_17, rfl, rfl, (rpz_1 (fun q => q.2 (sw_y f_11 f_10)) (by omega) (by omega) (by rw [← fold_eq (by omega) (by omega)]; exact f_18) c_19 f_10 f_11)⟩ dX7_ropes_86
          · skip
            refine lv_aload_n hx hb dX7_ropes_64 rfl (lv_at hl 0 rfl) ?_
            refine g_get hC V (ci := 7) uwX7 0 rfl rfl 8 (by decide) w_257 rfl rfl dX7_ropes_65 ?_
            refine g_get hC V (ci := 0) uwX0 1 rfl rfl 0 (by decide) w_212 rfl rfl dX7_ropes_68 ?_
            refine lv_goto (tgt := 86) hx hb dX7_ropes_71 (by decide) ?_
            exact g_iret (Qr := (q_x_ropes_f T nf3 nf4 nf5 nf6 nf7 nf9 fa o wh n0 s0 im iz rw t0 u0 h0 y0 sv ys y1 y2 yb yt nn nm nl no nu n1 n2 n3 n4 n5 n6 n7 n8 n9 n10 nf1 nf2)) hC V ⟨(Nat.le_of_ble_eq_true rfl), (Nat.le_of_ble_eq_true rfl)⟩ ⟨bs_15, bs_15, g1_16, g2_17, rfl, rfl, (rpz_0 (fun q => q.2 (sw_y f_11 f_10)) (by omega) (by omega) (by rw [← fold_eq (by omega) (by omega)]; exact f_18) c_19)⟩ dX7_ropes_86
        · skip
          rw [show (0 : Int32) = nI 0 from rfl] at c_14
          have c_14 := b_eq (by omega) (by omega) c_14
          refine lv_bipush (v := (-5)) hx hb dX7_ropes_46 (by decide +kernel) ?_
          exact g_iret (Qr := (q_x_ropes_f T nf3 nf4 nf5 nf6 nf7 nf9 fa o wh n0 s0 im iz rw t0 u0 h0 y0 sv ys y1 y2 yb yt nn nm nl no nu n1 n2 n3 n4 n5 n6 n7 n8 n9 n10 nf1 nf2)) hC V ⟨(Nat.le_of_ble_eq_true rfl), (Nat.le_of_ble_eq_true rfl)⟩ ⟨(-5), ys, yb, yt, rfl, rfl, (rpz_5 (fun q => q.2 (sw_y f_11 f_10)) (by omega))⟩ dX7_ropes_48
      · skip
        have c_13 := b_nle (by omega) (by omega) c_13
        refine lv_bipush (v := (-4)) hx hb dX7_ropes_33 (by decide +kernel) ?_
        exact g_iret (Qr := (q_x_ropes_f T nf3 nf4 nf5 nf6 nf7 nf9 fa o wh n0 s0 im iz rw t0 u0 h0 y0 sv ys y1 y2 yb yt nn nm nl no nu n1 n2 n3 n4 n5 n6 n7 n8 n9 n10 nf1 nf2)) hC V ⟨(Nat.le_of_ble_eq_true rfl), (Nat.le_of_ble_eq_true rfl)⟩ ⟨(-4), ys, yb, yt, rfl, rfl, (rpz_4 (fun q => q.2 (sw_y f_11 f_10)) (by omega))⟩ dX7_ropes_35
    · have V : gW D T A s [(o, .inr (7, [.ref n0, .ref s0, .ref im, .ref iz, .ref rw, .ref t0, .ref u0, .ref h0, .ref y0, sv])), (y0, .inr (0, [.int ys, .ref y1, .ref y2])), (y1, .inl (T 0, 7, .inl yb)), (y2, .inl (T 0, 7, .inl yt)), (n0, .inr (5, [.int (nI nn), .int nm, .int nl, .int no, .int nu, .ref n1, .ref n2, .ref n3, .ref n4, .ref n5, .ref n6, .ref n7, .ref n8, .ref n9, .ref n10])), (n1, .inl (T 0, 10, .inl nf1)), (n2, .inl (T 0, 10, .inl nf2))] H locs := V _ [4] rfl rfl rfl (by decide +kernel) rfl
      show W p l e _ s m args below meth c H locs _ _ _ (F0 m 15 ls [.int (nI 0)])
      refine lv_if_ne (tgt := 21) hx hb dX7_ropes_15 (by decide) (fun c => absurd (show (nI 0) = 0 by decide +kernel) c) (fun _ => ?_)
      refine lv_bipush (v := (-2)) hx hb dX7_ropes_18 (by decide +kernel) ?_
      exact g_iret (Qr := (q_x_ropes_f T nf3 nf4 nf5 nf6 nf7 nf9 fa o wh n0 s0 im iz rw t0 u0 h0 y0 sv ys y1 y2 yb yt nn nm nl no nu n1 n2 n3 n4 n5 n6 n7 n8 n9 n10 nf1 nf2)) hC V ⟨(Nat.le_of_ble_eq_true rfl), (Nat.le_of_ble_eq_true rfl)⟩ ⟨(-2), ys, yb, yt, rfl, rfl, (rpz_2 c_1 (sw_n1 h_n f_12))⟩ dX7_ropes_20
