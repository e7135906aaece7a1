/-! HEATS by RHYTHMS: over numbers from 0 on -/
def hnF (c : Nat) (b : Nat → Nat) (L h : Nat) : Nat → Nat
  | 0 => h
  | t + 1 => min 200 (hnF c b L h t + b (t % L) - c)
theorem hn_le {c L h : Nat} {b : Nat → Nat} (hh : h ≤ 200) : ∀ t, hnF c b L h t ≤ 200
  | 0 => hh
  | t + 1 => Nat.min_le_left _ _
theorem hn_up {c L h s s' : Nat} {b : Nat → Nat} (hm : s' % L = s % L) (hle : hnF c b L h s ≤ hnF c b L h s') : hnF c b L h (s + 1) ≤ hnF c b L h (s' + 1) := by
  show min 200 (hnF c b L h s + b (s % L) - c) ≤ min 200 (hnF c b L h s' + b (s' % L) - c)
  rw [hm]; omega
theorem hn_dn {c L h : Nat} {b : Nat → Nat} (h0 : hnF c b L h L ≤ h) : ∀ t, hnF c b L h (t + L) ≤ hnF c b L h t
  | 0 => by rw [Nat.zero_add]; exact h0
  | t + 1 => by rw [show t + 1 + L = (t + L) + 1 by omega]; exact hn_up (Nat.add_mod_right t L).symm (hn_dn h0 t)
theorem hn_in {c L h : Nat} {b : Nat → Nat} (h0 : h ≤ hnF c b L h L) : ∀ t, hnF c b L h t ≤ hnF c b L h (t + L)
  | 0 => by rw [Nat.zero_add]; exact h0
  | t + 1 => by rw [show t + 1 + L = (t + L) + 1 by omega]; exact hn_up (Nat.add_mod_right t L) (hn_in h0 t)
theorem hn_eq {c L h a : Nat} {b : Nat → Nat} (e : hnF c b L h (a + L) = hnF c b L h a) : ∀ k, hnF c b L h (a + k + L) = hnF c b L h (a + k)
  | 0 => e
  | k + 1 => by
    have ih := hn_eq e k
    rw [show a + (k + 1) + L = (a + k + L) + 1 by omega, show a + (k + 1) = (a + k) + 1 by omega]
    show min 200 (hnF c b L h (a + k + L) + b ((a + k + L) % L) - c) = min 200 (hnF c b L h (a + k) + b ((a + k) % L) - c)
    rw [ih, Nat.add_mod_right]
theorem hn_rep {c L h : Nat} {b : Nat → Nat} (hh : h ≤ 200) : ∃ r, r ≤ 200 ∧ hnF c b L h (r * L + L) = hnF c b L h (r * L) := by
  by_cases q : ∃ r, r ≤ 200 ∧ hnF c b L h (r * L + L) = hnF c b L h (r * L)
  · exact q
  · exfalso
    have hne : ∀ r, r ≤ 200 → ¬ hnF c b L h (r * L + L) = hnF c b L h (r * L) := fun r hr e => q ⟨r, hr, e⟩
    rcases Nat.le_total (hnF c b L h L) h with d | d
    · have A : ∀ r, r ≤ 201 → hnF c b L h (r * L) + r ≤ 200 := by
        intro r
        induction r with
        | zero =>
          intro _
          rw [Nat.zero_mul]; exact hh
        | succ r ih =>
          intro hr
          have h1 := ih (by omega)
          have h2 := hn_dn d (r * L)
          have h3 := hne r (by omega)
          rw [Nat.succ_mul]; omega
      have := A 201 (Nat.le_refl _)
      omega
    · have A : ∀ r, r ≤ 201 → r ≤ hnF c b L h (r * L) := by
        intro r
        induction r with
        | zero => intro _; exact Nat.zero_le _
        | succ r ih =>
          intro hr
          have h1 := ih (by omega)
          have h2 := hn_in d (r * L)
          have h3 := hne r (by omega)
          rw [Nat.succ_mul]; omega
      have h1 := A 201 (Nat.le_refl _)
      have h2 := hn_le (c := c) (b := b) (L := L) hh (201 * L)
      omega
theorem hn_for {c L h a : Nat} {b : Nat → Nat} {B : Nat → Prop} (hL : 1 ≤ L) (e : hnF c b L h (a + L) = hnF c b L h a) (hb : ∀ t, 1 ≤ t → t ≤ a + L → ¬ B (hnF c b L h t)) : ∀ t, 1 ≤ t → ¬ B (hnF c b L h t) := by
  intro t
  induction t using Nat.strongRecOn with
  | _ t ih =>
    intro h1
    by_cases q : t ≤ a + L
    · exact hb t h1 q
    · have e2 := hn_eq e (t - L - a)
      rw [show a + (t - L - a) + L = t by omega, show a + (t - L - a) = t - L by omega] at e2
      rw [e2]; exact ih (t - L) (by omega) (by omega)
theorem hn_all {c L h : Nat} {b : Nat → Nat} {B : Nat → Prop} (hL : 1 ≤ L) (hh : h ≤ 200) (hb : ∀ t, 1 ≤ t → t ≤ 201 * L → ¬ B (hnF c b L h t)) : ∀ t, 1 ≤ t → ¬ B (hnF c b L h t) := by
  obtain ⟨r, hr, e⟩ := hn_rep (c := c) (b := b) (L := L) hh
  refine hn_for hL e (fun t h1 h2 => hb t h1 ?_)
  have : r * L ≤ 200 * L := Nat.mul_le_mul_right L hr
  omega
/-! .. and as they are -/
def hsF (n : Nat) (f P : Nat → Int32) (L i : Nat) : Nat → Int32
  | 0 => f (24 + i)
  | t + 1 => ibf (hsF n f P L i t + (-(f (14 + i)) + bbF f P i (t % L) n))
def bkP (n : Nat) (f P : Nat → Int32) (L i t : Nat) : Prop := hsF n f P L i t < f (34 + i) ∨ f (44 + i) < hsF n f P L i t
theorem bb_bd {n : Nat} {f P : Nat → Int32} {i t : Nat} (hM : MI n f) : ∀ k, k ≤ n → ∃ p, p ≤ 60 * k ∧ bbF f P i t k = nI p
  | 0, _ => ⟨0, by omega, rfl⟩
  | k + 1, hk => by
    obtain ⟨p, hp, e⟩ := bb_bd (i := i) (t := t) (P := P) hM k (by omega)
    obtain ⟨q, hq, eq⟩ := mi_blast hM (i := k) (by omega)
    show ∃ p, p ≤ 60 * (k + 1) ∧ bbF f P i t k + (if f (84 + k) = nI i ∧ bitP (P k) t then f (4 + k) else nI 0) = nI p
    by_cases c : f (84 + k) = nI i ∧ bitP (P k) t
    · rw [if_pos c, e, eq, nI_add]; exact ⟨p + q, by omega, rfl⟩
    · rw [if_neg c, e, nI_add]; exact ⟨p + 0, by omega, rfl⟩
theorem st_nat {a b c : Nat} (ha : a ≤ 200) (hb : b ≤ 600) (hc : c ≤ 30) : ibf (nI a + (-(nI c) + nI b)) = nI (min 200 (a + b - c)) := by
  have e : nI a + (-(nI c) + nI b) = nI (a + b) - nI c := by
    rw [← nI_add, Int32.sub_eq_add_neg, Int32.add_assoc, Int32.add_comm (nI b)]
  rw [e]
  unfold ibf
  by_cases q : c ≤ a + b
  · rw [nI_sub q, if_neg (nI_pos (by omega))]
    by_cases c2 : nI 200 < nI (a + b - c)
    · rw [if_pos c2]
      have := b_lt (by decide) (by omega) c2
      rw [Nat.min_eq_left (by omega)]
    · rw [if_neg c2]
      have := b_nlt (by decide) (by omega) c2
      rw [Nat.min_eq_right (by omega)]
  · rw [if_pos (sb_neg (by omega) (by omega)), show a + b - c = 0 by omega]; rfl
def hvC (f : Nat → Int32) (i : Nat) : Nat := (f (14 + i)).toNatClampNeg
def hvB (n : Nat) (f P : Nat → Int32) (i : Nat) : Nat → Nat := fun t => (bbF f P i t n).toNatClampNeg
def hvH (f : Nat → Int32) (i : Nat) : Nat := (f (24 + i)).toNatClampNeg
theorem hh_le {f : Nat → Int32} {i : Nat} (h : LB f) (hi : i < 10) : hvH f i ≤ 200 ∧ f (24 + i) = nI (hvH f i) := by
  obtain ⟨a, ha, e⟩ := (h i hi).1
  unfold hvH; rw [e, nI_clamp (by omega)]; exact ⟨by omega, rfl⟩
theorem hs_hn {n : Nat} {f P : Nat → Int32} {L i : Nat} (hM : MI n f) (hB_ : LB f) (hi : i < n) : ∀ t, hsF n f P L i t = nI (hnF (hvC f i) (hvB n f P i) L (hvH f i) t)
  | 0 => (hh_le hB_ (by have := hM.1; omega)).2
  | t + 1 => by
    show ibf (hsF n f P L i t + (-(f (14 + i)) + bbF f P i (t % L) n)) = nI (min 200 (hnF (hvC f i) (hvB n f P i) L (hvH f i) t + hvB n f P i (t % L) - hvC f i))
    obtain ⟨c, hc, ec⟩ := mi_cool hM hi
    obtain ⟨b, hb, eb⟩ := bb_bd (i := i) (t := t % L) (P := P) hM n (Nat.le_refl _)
    have hn := hM.1
    have e1 : hvC f i = c := by unfold hvC; rw [ec, nI_clamp (by omega)]
    have e2 : hvB n f P i (t % L) = b := by unfold hvB; rw [eb, nI_clamp (by omega)]
    have h3 := hn_le (c := hvC f i) (b := hvB n f P i) (L := L) (hh_le hB_ (show i < 10 by omega)).1 t
    rw [hs_hn hM hB_ hi t, ec, eb, st_nat h3 (by omega) (by omega), e1, e2]
theorem bk_all {n : Nat} {f P : Nat → Int32} {L i : Nat} (hM : MI n f) (hB_ : LB f) (hi : i < n) (hL : 1 ≤ L) (h : ∀ t, 1 ≤ t → t ≤ 201 * L → ¬ bkP n f P L i t) : ∀ t, 1 ≤ t → ¬ bkP n f P L i t := by
  have hn := hM.1
  have e : ∀ t, bkP n f P L i t = (fun v => nI v < f (34 + i) ∨ f (44 + i) < nI v) (hnF (hvC f i) (hvB n f P i) L (hvH f i) t) := fun t => by unfold bkP; rw [hs_hn hM hB_ hi t]
  intro t h1
  rw [e t]
  exact hn_all (B := fun v => nI v < f (34 + i) ∨ f (44 + i) < nI v) hL (hh_le (i := i) hB_ (by omega)).1 (fun t h1 h2 => by have q := h t h1 h2; rw [e t] at q; exact q) t h1
theorem bk_rep {n : Nat} {f P : Nat → Int32} {L i a : Nat} (hM : MI n f) (hB_ : LB f) (hi : i < n) (hL : 1 ≤ L) (he : hsF n f P L i (a + L) = hsF n f P L i a) (h : ∀ t, 1 ≤ t → t ≤ a + L → ¬ bkP n f P L i t) : ∀ t, 1 ≤ t → ¬ bkP n f P L i t := by
  have hn := hM.1
  have e : ∀ t, bkP n f P L i t = (fun v => nI v < f (34 + i) ∨ f (44 + i) < nI v) (hnF (hvC f i) (hvB n f P i) L (hvH f i) t) := fun t => by unfold bkP; rw [hs_hn hM hB_ hi t]
  have l1 := hn_le (c := hvC f i) (b := hvB n f P i) (L := L) (hh_le hB_ (show i < 10 by omega)).1
  rw [hs_hn hM hB_ hi, hs_hn hM hB_ hi] at he
  have he2 := b_eq (by have := l1 (a + L); omega) (by have := l1 a; omega) he
  intro t h1
  rw [e t]
  exact hn_for (B := fun v => nI v < f (34 + i) ∨ f (44 + i) < nI v) hL he2 (fun t h1 h2 => by have q := h t h1 h2; rw [e t] at q; exact q) t h1
/-! when one fire breaks, when all -/
def NV (n : Nat) (f P : Nat → Int32) (L i T : Nat) : Prop := ∀ t, 1 ≤ t → t ≤ T → ¬ bkP n f P L i t
def NE (n : Nat) (f P : Nat → Int32) (L i : Nat) : Prop := ∀ t, 1 ≤ t → ¬ bkP n f P L i t
theorem nv_0 {n : Nat} {f P : Nat → Int32} {L i : Nat} : NV n f P L i 0 := fun t h1 h2 => absurd h2 (by omega)
theorem nv_s {n : Nat} {f P : Nat → Int32} {L i T : Nat} (h : NV n f P L i T) (k : ¬ bkP n f P L i (T + 1)) : NV n f P L i (T + 1) := fun t h1 h2 => by
  by_cases q : t = T + 1
  · rw [q]; exact k
  · exact h t h1 (by omega)
theorem nv_e {n : Nat} {f P : Nat → Int32} {L i T T' : Nat} (h : NV n f P L i T) (e : T' = T) : NV n f P L i T' := e ▸ h
def BH (n : Nat) (f P : Nat → Int32) (L i : Nat) (z : Int32) : Prop := (z = -1 ∧ NE n f P L i) ∨ (∃ t, t ≤ 3000 ∧ z = nI (t + 1) ∧ bkP n f P L i (t + 1) ∧ NV n f P L i t)
theorem bh_n {n : Nat} {f P : Nat → Int32} {L i : Nat} (h : NE n f P L i) : BH n f P L i (-1) := Or.inl ⟨rfl, h⟩
theorem bh_y {n : Nat} {f P : Nat → Int32} {L i t u : Nat} (e : u = t + 1) (ht : t ≤ 3000) (h : NV n f P L i t) (k : bkP n f P L i (t + 1)) : BH n f P L i (nI u) := Or.inr ⟨t, ht, by rw [e], k, h⟩
def HO (n : Nat) (f P : Nat → Int32) (L k : Nat) (z w : Int32) : Prop := (z = -1 ∧ w = -1 ∧ ∀ i, i < k → NE n f P L i) ∨ (∃ t j, j < k ∧ t ≤ 3000 ∧ z = nI (t + 1) ∧ w = nI j ∧ bkP n f P L j (t + 1) ∧ (∀ i, i < k → NV n f P L i t) ∧ ∀ i, i < j → ¬ bkP n f P L i (t + 1))
theorem ho_0 {n : Nat} {f P : Nat → Int32} {L : Nat} : HO n f P L 0 (-1) (-1) := Or.inl ⟨rfl, rfl, fun i h => absurd h (by omega)⟩
theorem m1_nI {k : Nat} (h : k < 100000) : ¬ nI k = -1 := fun e => by
  have q := congrArg Int32.toInt e
  rw [nI_toInt (by omega), show (-1 : Int32).toInt = -1 by decide +kernel] at q
  omega
theorem ho_1 {n k : Nat} {f P : Nat → Int32} {L : Nat} {z w x : Int32} (h : HO n f P L k z w) (b : BH n f P L k x) (c : x = -1) : HO n f P L (k + 1) z w := by
  have hk : NE n f P L k := by
    rcases b with b | ⟨t, ht, e, _⟩
    · exact b.2
    · exact absurd (e.symm.trans c) (m1_nI (by omega))
  rcases h with ⟨e1, e2, h3⟩ | ⟨t, j, hj, ht, e1, e2, h1, h2, h3⟩
  · exact Or.inl ⟨e1, e2, fun i hi => if q : i = k then by rw [q]; exact hk else h3 i (by omega)⟩
  · exact Or.inr ⟨t, j, by omega, ht, e1, e2, h1, fun i hi => if q : i = k then by rw [q]; exact fun s s1 _ => hk s s1 else h2 i (by omega), h3⟩
theorem ho_2 {n k : Nat} {f P : Nat → Int32} {L : Nat} {z w x : Int32} (h : HO n f P L k z w) (b : BH n f P L k x) (c : ¬ x = -1) (d : z = -1 ∨ x < z) : HO n f P L (k + 1) x (nI k) := by
  rcases b with b | ⟨t, ht, e, b1, b2⟩
  · exact absurd b.1 c
  · rcases h with ⟨e1, e2, h3⟩ | ⟨t0, j, hj, ht0, e1, e2, h1, h2, h3⟩
    · exact Or.inr ⟨t, k, by omega, ht, e, rfl, b1, fun i hi => if q : i = k then by rw [q]; exact b2 else fun s s1 _ => h3 i (by omega) s s1, fun i hi => h3 i hi _ (by omega)⟩
    · have hlt : t < t0 := by
        rcases d with d | d
        · exact absurd (e1.symm.trans d) (m1_nI (by omega))
        · rw [e, e1] at d
          have := b_lt (by omega) (by omega) d
          omega
      exact Or.inr ⟨t, k, by omega, ht, e, rfl, b1, fun i hi => if q : i = k then by rw [q]; exact b2 else fun s s1 s2 => h2 i (by omega) s s1 (by omega), fun i hi => h2 i hi _ (by omega) (by omega)⟩
theorem ho_3 {n k : Nat} {f P : Nat → Int32} {L : Nat} {z w x : Int32} (h : HO n f P L k z w) (b : BH n f P L k x) (c : ¬ x = -1) (d : ¬ z = -1) (l : ¬ x < z) : HO n f P L (k + 1) z w := by
  rcases b with b | ⟨t, ht, e, b1, b2⟩
  · exact absurd b.1 c
  · rcases h with ⟨e1, e2, h3⟩ | ⟨t0, j, hj, ht0, e1, e2, h1, h2, h3⟩
    · exact absurd e1 d
    · rw [e, e1] at l
      have := b_nlt (by omega) (by omega) l
      exact Or.inr ⟨t0, j, by omega, ht0, e1, e2, h1, fun i hi => if q : i = k then by rw [q]; exact fun s s1 s2 => b2 s s1 (by omega) else h2 i (by omega), h3⟩
theorem ho_e {n k k' : Nat} {f P : Nat → Int32} {L : Nat} {z w : Int32} (h : HO n f P L k z w) (e : k = k') : HO n f P L k' z w := e ▸ h
/-- there is but one such answer -/
theorem ho_one {n : Nat} {f P : Nat → Int32} {L : Nat} {z w z' w' : Int32} (h : HO n f P L n z w) (h' : HO n f P L n z' w') : z = z' ∧ w = w' := by
  rcases h with ⟨e1, e2, h3⟩ | ⟨t, j, hj, ht, e1, e2, h1, h2, h3⟩
  · rcases h' with ⟨e1', e2', h3'⟩ | ⟨t', j', hj', ht', e1', e2', h1', h2', h3'⟩
    · exact ⟨e1.trans e1'.symm, e2.trans e2'.symm⟩
    · exact absurd h1' (h3 j' hj' _ (by omega))
  · rcases h' with ⟨e1', e2', h3'⟩ | ⟨t', j', hj', ht', e1', e2', h1', h2', h3'⟩
    · exact absurd h1 (h3' j hj _ (by omega))
    · have et : t = t' := by
        rcases Nat.lt_trichotomy t t' with q | q | q
        · exact absurd h1 (h2' j hj _ (by omega) (by omega))
        · exact q
        · exact absurd h1' (h2 j' hj' _ (by omega) (by omega))
      subst et
      have ej : j = j' := by
        rcases Nat.lt_trichotomy j j' with q | q | q
        · exact absurd h1 (h3' j q)
        · exact q
        · exact absurd h1' (h3 j' q)
      subst ej
      exact ⟨e1.trans e1'.symm, e2.trans e2'.symm⟩
theorem hs_ext {n : Nat} {f P Q : Nat → Int32} {L i : Nat} (hL : 1 ≤ L) (h : ∀ k, k < n → ∀ t, t < L → (bitP (P k) t ↔ bitP (Q k) t)) : ∀ t, hsF n f P L i t = hsF n f Q L i t
  | 0 => rfl
  | t + 1 => by
    show ibf (hsF n f P L i t + (-(f (14 + i)) + bbF f P i (t % L) n)) = ibf (hsF n f Q L i t + (-(f (14 + i)) + bbF f Q i (t % L) n))
    rw [hs_ext hL h t, bb_ext (fun k hk => h k hk (t % L) (Nat.mod_lt _ hL)) n (Nat.le_refl _)]
theorem bk_ext {n : Nat} {f P Q : Nat → Int32} {L i t : Nat} (hL : 1 ≤ L) (h : ∀ k, k < n → ∀ t, t < L → (bitP (P k) t ↔ bitP (Q k) t)) : bkP n f P L i t = bkP n f Q L i t := by unfold bkP; rw [hs_ext hL h t]
theorem ho_ext {n : Nat} {f P Q : Nat → Int32} {L k : Nat} {z w : Int32} (hL : 1 ≤ L) (h : ∀ k, k < n → ∀ t, t < L → (bitP (P k) t ↔ bitP (Q k) t)) (H : HO n f P L k z w) : HO n f Q L k z w := by
  have e : bkP n f P L = bkP n f Q L := by funext i t; exact bk_ext hL h
  unfold HO NV NE at H ⊢; rw [← e]; exact H
theorem sc_mul (n m : Nat) : (n + 1) * m = n * m + m := Nat.succ_mul n m
theorem md_r {r L t : Nat} (h : t < L) : (r * L + t) % L = t := by rw [Nat.add_comm, Nat.add_mul_mod_self_right]; exact Nat.mod_eq_of_lt h
theorem hs_s {n : Nat} {f P : Nat → Int32} {L i r t : Nat} {x g z : Int32} (hx : x = hsF n f P L i (r * L + t)) (ht : t < L) (hg : g = -(f (14 + i)) + bbF f P i t n) (e : z = ibf (x + g)) : z = hsF n f P L i (r * L + t + 1) := by
  show z = ibf (hsF n f P L i (r * L + t) + (-(f (14 + i)) + bbF f P i ((r * L + t) % L) n))
  rw [md_r ht, ← hx, ← hg]; exact e
theorem bk_n {n : Nat} {f P : Nat → Int32} {L i T : Nat} {z a4 a5 : Int32} (hz : z = hsF n f P L i T) (e4 : a4 = f (34 + i)) (e5 : a5 = f (44 + i)) (h1 : ¬ z < a4) (h2 : ¬ a5 < z) : ¬ bkP n f P L i T := by unfold bkP; rw [← hz, ← e4, ← e5]; exact fun q => q.elim h1 h2
theorem bk_y {n : Nat} {f P : Nat → Int32} {L i T : Nat} {z a4 a5 : Int32} (hz : z = hsF n f P L i T) (e4 : a4 = f (34 + i)) (e5 : a5 = f (44 + i)) (h : z < a4 ∨ a5 < z) : bkP n f P L i T := by unfold bkP; rw [← hz, ← e4, ← e5]; exact h
theorem wm_bk {n : Nat} {f g P : Nat → Int32} {L i T : Nat} (hz : g (24 + i) = hsF n f P L i T) (e4 : g (34 + i) = f (34 + i)) (e5 : g (44 + i) = f (44 + i)) : warmP g i ↔ ¬ bkP n f P L i T := by
  unfold bkP
  rw [← hz, ← e4, ← e5]
  exact ⟨fun q r => r.elim q.1 q.2, fun q => ⟨fun r => q (Or.inl r), fun r => q (Or.inr r)⟩⟩
/-! answers of holds -/
def hoW (n : Nat) (fq fm : Nat → Int32) (row le wh : Int32) : Int32 := if wh < nI 0 ∨ nI 1 < wh then -2 else rhW n fq fm row le
theorem hw_w {n : Nat} {fq fm : Nat → Int32} {row le wh : Int32} (c : wh < nI 0 ∨ nI 1 < wh) : -2 = hoW n fq fm row le wh := by unfold hoW; rw [if_pos c]
theorem hw_r {n : Nat} {fq fm : Nat → Int32} {row le wh : Int32} (c : row < 0 ∨ nI 4 ≤ row) : -2 = hoW n fq fm row le wh := by
  unfold hoW
  split
  · rfl
  · exact rh_s (rw_r (rr_2 c) (by decide +kernel)) (by decide +kernel)
theorem hw_y {n : Nat} {fq fm : Nat → Int32} {row le wh z : Int32} (c1 : ¬ wh < nI 0) (c2 : ¬ nI 1 < wh) (h : z = rhW n fq fm row le) : z = hoW n fq fm row le wh := by unfold hoW; rw [if_neg (fun q => q.elim c1 c2)]; exact h
def HOR (n : Nat) (f fq fm : Nat → Int32) (fn : Nat → Int64) (row le wh z : Int32) : Prop := (z = hoW n fq fm row le wh ∧ ¬ z = 0) ∨ (nI 0 = hoW n fq fm row le wh ∧ ∃ k L w1 w2, row = nI k ∧ k < 4 ∧ le = nI L ∧ L ≤ 12 ∧ HO n f (rhP fn k L) L n w1 w2 ∧ z = if wh = 0 then w1 else w2)
theorem hr_n {n : Nat} {f fq fm : Nat → Int32} {fn : Nat → Int64} {row le wh z : Int32} (h : z = hoW n fq fm row le wh) (hz : ¬ z = 0) : HOR n f fq fm fn row le wh z := Or.inl ⟨h, hz⟩
theorem hr_0 {n k L : Nat} {f fq fm : Nat → Int32} {fn : Nat → Int64} {row le wh z w : Int32} (h : nI 0 = hoW n fq fm row le wh) (ek : row = nI k) (hk : k < 4) (el : le = nI L) (hL : L ≤ 12) (H : HO n f (rhP fn k L) L n z w) (c : wh = 0) : HOR n f fq fm fn row le wh z := Or.inr ⟨h, k, L, z, w, ek, hk, el, hL, H, by rw [if_pos c]⟩
theorem hr_1 {n k L : Nat} {f fq fm : Nat → Int32} {fn : Nat → Int64} {row le wh z w : Int32} (h : nI 0 = hoW n fq fm row le wh) (ek : row = nI k) (hk : k < 4) (el : le = nI L) (hL : L ≤ 12) (H : HO n f (rhP fn k L) L n w z) (c : ¬ wh = 0) : HOR n f fq fm fn row le wh z := Or.inr ⟨h, k, L, w, z, ek, hk, el, hL, H, by rw [if_neg c]⟩
/-! the reference's way -/
theorem or_bit : ∀ (k j : Fin 13), ((nI 1) <<< ((nI k.1) &&& 31)).toBitVec.getLsbD j.1 = decide (j = k) := by decide +kernel
theorem pu_y {x : Int32} {k j : Nat} (hk : k < 13) (hj : j < 13) : bitP (x ||| ((nI 1) <<< ((nI k) &&& 31))) j ↔ (bitP x j ∨ j = k) := by
  rw [bp_i hj, bp_i hj]
  show (x.toBitVec ||| ((nI 1) <<< ((nI k) &&& 31)).toBitVec).getLsbD j = true ↔ _
  rw [BitVec.getLsbD_or, or_bit ⟨k, hk⟩ ⟨j, hj⟩, Bool.or_eq_true, decide_eq_true_eq, Fin.mk.injEq]
theorem pu_n {x : Int32} : x ||| nI 0 = x := by
  rw [show nI 0 = 0 by decide +kernel]; exact Int32.or_zero
/-- the set that pulls, bit by bit -/
def PU (fr : Nat → Int64) (t k : Nat) (x : Int32) : Prop := (∀ j, j < k → (bitP x j ↔ lbP (fr j) t)) ∧ ∀ j, k ≤ j → j < 13 → ¬ bitP x j
theorem pl_0 {fr : Nat → Int64} {t : Nat} : PU fr t 0 (nI 0) := ⟨fun j h => absurd h (by omega), fun j _ hj => by
  have H : ∀ j : Fin 13, ¬ bitP (nI 0) j.1 := by decide +kernel
  exact H ⟨j, hj⟩⟩
theorem pl_y {fr : Nat → Int64} {t k : Nat} {x : Int32} (h : PU fr t k x) (hk : k < 10) (b : lbP (fr k) t) : PU fr t (k + 1) (x ||| ((nI 1) <<< ((nI k) &&& 31))) := by
  refine ⟨fun j hj => ?_, fun j h1 h2 => ?_⟩
  · rw [pu_y (by omega) (by omega)]
    by_cases q : j = k
    · subst q; exact ⟨fun _ => b, fun _ => Or.inr rfl⟩
    · rw [h.1 j (by omega)]; exact ⟨fun r => r.elim id (fun e => absurd e q), fun r => Or.inl r⟩
  · rw [pu_y (by omega) (by omega)]
    exact fun r => r.elim (h.2 j (by omega) h2) (fun e => by omega)
theorem pl_n {fr : Nat → Int64} {t k : Nat} {x : Int32} (h : PU fr t k x) (hk : k < 10) (b : ¬ lbP (fr k) t) : PU fr t (k + 1) (x ||| nI 0) := by
  rw [pu_n]
  refine ⟨fun j hj => ?_, fun j h1 h2 => h.2 j (by omega) h2⟩
  by_cases q : j = k
  · subst q; exact ⟨fun r => absurd r (h.2 j (by omega) (by omega)), fun r => absurd r b⟩
  · exact h.1 j (by omega)
theorem bs_bb {n : Nat} {f g P : Nat → Int32} {pl : Int32} {i t : Nat} (h4 : ∀ k, k < n → g (4 + k) = f (4 + k)) (h84 : ∀ k, k < n → g (84 + k) = f (84 + k)) (hb : ∀ k, k < n → (bitP pl k ↔ bitP (P k) t)) : ∀ k, k ≤ n → bsF g pl i k = bbF f P i t k
  | 0, _ => rfl
  | k + 1, hk => by
    show bsF g pl i k + (if bitP pl k ∧ g (84 + k) = nI i then g (4 + k) else nI 0) = bbF f P i t k + (if f (84 + k) = nI i ∧ bitP (P k) t then f (4 + k) else nI 0)
    rw [bs_bb h4 h84 hb k (by omega), h4 k (by omega), h84 k (by omega)]
    by_cases c : f (84 + k) = nI i ∧ bitP (P k) t
    · rw [if_pos c, if_pos ⟨(hb k (by omega)).mpr c.2, c.1⟩]
    · rw [if_neg c, if_neg (fun q => c ⟨q.2, (hb k (by omega)).mp q.1⟩)]
theorem hs_m {n : Nat} {f g P : Nat → Int32} {L i t : Nat} {pl z : Int32} (hn : n ≤ 10) (hi : i < n) (hA : ∀ j, (j < 24 ∨ 34 ≤ j) → g j = f j) (hB_ : ∀ i, i < n → g (24 + i) = hsF n f P L i t) (hb : ∀ k, k < n → (bitP pl k ↔ bitP (P k) (t % L))) (e : z = ibf (g (24 + i) + nI 0 - g (14 + i) + bsF g pl i n)) : z = hsF n f P L i (t + 1) := by
  show z = ibf (hsF n f P L i t + (-(f (14 + i)) + bbF f P i (t % L) n))
  rw [e, bs_bb (fun k hk => hA _ (by omega)) (fun k hk => hA _ (by omega)) hb n (Nat.le_refl _), hB_ i hi, hA (14 + i) (by omega), ← add_n0, Int32.sub_eq_add_neg, Int32.add_assoc]
/-- told till now -/
def TO (n : Nat) (f P : Nat → Int32) (L T : Nat) (z w : Int32) : Prop := (z = -1 ∧ w = -1 ∧ ∀ i, i < n → NV n f P L i T) ∨ (¬ z = -1 ∧ HO n f P L n z w)
theorem to_0 {n : Nat} {f P : Nat → Int32} {L : Nat} : TO n f P L 0 (-1) (-1) := Or.inl ⟨rfl, rfl, fun _ _ => nv_0⟩
/-- .. in a MINUTE, from the last SMITH down -/
def DW (n : Nat) (f P : Nat → Int32) (L t k : Nat) (z w : Int32) : Prop := (z = -1 ∧ w = -1 ∧ ∀ i, k ≤ i → i < n → ¬ bkP n f P L i (t + 1)) ∨ (∃ j, k ≤ j ∧ j < n ∧ z = nI (t + 1) ∧ w = nI j ∧ bkP n f P L j (t + 1) ∧ ∀ i, k ≤ i → i < j → ¬ bkP n f P L i (t + 1))
theorem dw_0 {n : Nat} {f P : Nat → Int32} {L t T : Nat} {z w : Int32} (h : TO n f P L T z w) (c : z = -1) : DW n f P L t n z w := by
  rcases h with ⟨e1, e2, _⟩ | ⟨e, _⟩
  · exact Or.inl ⟨e1, e2, fun i h1 h2 => absurd h1 (by omega)⟩
  · exact absurd c e
theorem to_nv {n : Nat} {f P : Nat → Int32} {L T : Nat} {z w : Int32} (h : TO n f P L T z w) (c : z = -1) : ∀ i, i < n → NV n f P L i T := by
  rcases h with ⟨_, _, h3⟩ | ⟨e, _⟩
  · exact h3
  · exact absurd c e
theorem dw_w {n : Nat} {f P : Nat → Int32} {L t k : Nat} {z w : Int32} (h : DW n f P L t k z w) (hk : 1 ≤ k) (b : ¬ bkP n f P L (k - 1) (t + 1)) : DW n f P L t (k - 1) z w := by
  rcases h with ⟨e1, e2, h3⟩ | ⟨j, h1, h2, e1, e2, h3, h4⟩
  · exact Or.inl ⟨e1, e2, fun i q1 q2 => if q : i = k - 1 then by rw [q]; exact b else h3 i (by omega) q2⟩
  · exact Or.inr ⟨j, by omega, h2, e1, e2, h3, fun i q1 q2 => if q : i = k - 1 then by rw [q]; exact b else h4 i (by omega) q2⟩
theorem dw_b {n : Nat} {f P : Nat → Int32} {L t k : Nat} (hk : 1 ≤ k) (hn : k ≤ n) (b : bkP n f P L (k - 1) (t + 1)) : DW n f P L t (k - 1) (nI (t + 1)) (nI (k - 1)) := Or.inr ⟨k - 1, Nat.le_refl _, by omega, rfl, rfl, b, fun i q1 q2 => absurd q1 (by omega)⟩
theorem dw_e {n : Nat} {f P : Nat → Int32} {L t k : Nat} {z w : Int32} (h : DW n f P L t k z w) (hk : k = 0) (ht : t ≤ 3000) (hv : ∀ i, i < n → NV n f P L i t) : TO n f P L (t + 1) z w := by
  subst hk
  rcases h with ⟨e1, e2, h3⟩ | ⟨j, h1, h2, e1, e2, h3, h4⟩
  · exact Or.inl ⟨e1, e2, fun i hi => nv_s (hv i hi) (h3 i (by omega) hi)⟩
  · exact Or.inr ⟨fun q => m1_nI (by omega) (e1.symm.trans q), Or.inr ⟨t, j, h2, ht, e1, e2, h3, hv, fun i hi => h4 i (by omega) hi⟩⟩
theorem to_f {n : Nat} {f P : Nat → Int32} {L T : Nat} {z w : Int32} (hM : MI n f) (hB_ : LB f) (hL : 1 ≤ L) (h : TO n f P L T z w) (d : ¬ z = -1 ∨ 201 * L ≤ T) : HO n f P L n z w := by
  rcases h with ⟨e1, e2, h3⟩ | ⟨_, h⟩
  · rcases d with d | d
    · exact absurd e1 d
    · exact Or.inl ⟨e1, e2, fun i hi => bk_all hM hB_ hi hL (fun t h1 h2 => h3 i hi t h1 (by omega))⟩
  · exact h
theorem dn_0 {k : Nat} {x : Int32} (e : x = nI k - nI 1) (hk : k ≤ 1000) (h : x < 0) : k = 0 := by
  by_cases q : 1 ≤ k
  · rw [e, nI_sub q] at h; exact absurd h (nI_pos (by omega))
  · omega

def q_h_breaks_f (T : Nat → ClassId) (fa : Nat → Int32) (h0 : Nat) (a0 : Nat) (j : Nat) (h1 : Nat) (qx : Int32) (qy : Int32) (ql : Nat) (h2 : Nat) (h3 : Nat) (qp : Nat → Int32) (qc : Nat → Int32) (an : Nat) (am : Int32) (al : Int32) (ao : Int32) (au : Int32) (a1 : Nat) (a2 : Nat) (a3 : Nat) (a4 : Nat) (a5 : Nat) (a6 : Nat) (a7 : Nat) (a8 : Nat) (a9 : Nat) (a10 : Nat) (af1 : Nat → Int32) (af2 : Nat → Int32) (af3 : Nat → Int32) (af4 : Nat → Int32) (af5 : Nat → Int32) (af9 : Nat → Int32) : Option Value → va_W → Prop := fun rr ww => (∃ (z : Int32) (g : Nat → Int32), rr = some (.int z) ∧ ww = [(h0, .inr (3, [.ref h1, .int qx, .int qy, .int (nI ql), .ref h2, .ref h3])), (h2, .inl (T 0, 10, .inl qp)), (h3, .inl (T 0, 12, .inl g)), (a0, .inr (5, [.int (nI an), .int am, .int al, .int ao, .int au, .ref a1, .ref a2, .ref a3, .ref a4, .ref a5, .ref a6, .ref a7, .ref a8, .ref a9, .ref a10])), (a1, .inl (T 0, 10, .inl af1)), (a2, .inl (T 0, 10, .inl af2)), (a3, .inl (T 0, 10, .inl af3)), (a4, .inl (T 0, 10, .inl af4)), (a5, .inl (T 0, 10, .inl af5)), (a9, .inl (T 0, 10, .inl af9))] ∧ BH an fa qp ql j z)
set_option maxHeartbeats 4000000 in
set_option maxRecDepth 100000 in
theorem h_breaks_f (l : Launch) (D : va_G) (T : Nat → ClassId) (fa : Nat → Int32) (h0 : Nat) (a0 : Nat) (j : Nat) (h1 : Nat) (qx : Int32) (qy : Int32) (ql : Nat) (h2 : Nat) (h3 : Nat) (qp : Nat → Int32) (qc : Nat → Int32) (an : Nat) (am : Int32) (al : Int32) (ao : Int32) (au : Int32) (a1 : Nat) (a2 : Nat) (a3 : Nat) (a4 : Nat) (a5 : Nat) (a6 : Nat) (a7 : Nat) (a8 : Nat) (a9 : Nat) (a10 : Nat) (af1 : Nat → Int32) (af2 : Nat → Int32) (af3 : Nat → Int32) (af4 : Nat → Int32) (af5 : Nat → Int32) (af9 : Nat → Int32) (h_n : an ≤ 10) (h_l : 1 ≤ ql ∧ ql ≤ 12) (h_j : j < an) (h_s1 : ∀ i, i < an → af1 i = fa (4 + i)) (h_s2 : ∀ i, i < an → af2 i = fa (14 + i)) (h_s3 : ∀ i, i < an → af3 i = fa (24 + i)) (h_s4 : ∀ i, i < an → af4 i = fa (34 + i)) (h_s5 : ∀ i, i < an → af5 i = fa (44 + i)) (h_s9 : ∀ i, i < an → af9 i = fa (84 + i)) (h_a : MI an fa) (h_lb : LB fa) : Ct l yX3_breaksBehind cX3_breaksBehind 7 (some .int) 2 0 0 D T [.ref h0, .ref a0, .int (nI j)] [(h0, .inr (3, [.ref h1, .int qx, .int qy, .int (nI ql), .ref h2, .ref h3])), (h2, .inl (T 0, 10, .inl qp)), (h3, .inl (T 0, 12, .inl qc)), (a0, .inr (5, [.int (nI an), .int am, .int al, .int ao, .int au, .ref a1, .ref a2, .ref a3, .ref a4, .ref a5, .ref a6, .ref a7, .ref a8, .ref a9, .ref a10])), (a1, .inl (T 0, 10, .inl af1)), (a2, .inl (T 0, 10, .inl af2)), (a3, .inl (T 0, 10, .inl af3)), (a4, .inl (T 0, 10, .inl af4)), (a5, .inl (T 0, 10, .inl af5)), (a9, .inl (T 0, 10, .inl af9))] (q_h_breaks_f T fa h0 a0 j h1 qx qy ql h2 h3 qp qc an am al ao au a1 a2 a3 a4 a5 a6 a7 a8 a9 a10 af1 af2 af3 af4 af5 af9) := by
  refine Ct.of (cc := cX3_breaksBehind) (maxL := 7) (ret := (some .int)) (by decide) (Nat.le_of_ble_eq_true rfl) ?_
  intro p e s m args below meth c A ls hC hnm V hl
  obtain ⟨hx, hb, hr, hml, hown, hts, hlocks⟩ := id hC
  generalize hH : s.heap = H at V ⊢
  clear hH
  have hl : lv_has ls 7 [(0, .ref h0), (1, .ref a0), (2, .int (nI j))] := hl
  generalize hlo : ([] : List Loc) = locs at V ⊢
  clear hlo
  refine lv_aload_n hx hb dX3_breaksBehind_0 rfl (lv_at hl 0 rfl) ?_
  refine lv_aload_n hx hb dX3_breaksBehind_1 rfl (lv_at hl 1 rfl) ?_
  refine lv_iload_n hx hb dX3_breaksBehind_2 rfl (lv_at hl 2 rfl) ?_
  refine g_callVU (nA := 2) hC V hl.1 (h_weigh_f l D T fa h0 a0 j h1 qx qy ql h2 h3 qp qc an am al ao au a1 a2 a3 a4 a5 a6 a7 a8 a9 a10 af1 af2 af9 (by first | assumption | omega) (by first | assumption | omega) (by first | assumption | omega) (by first | assumption | omega) (by first | assumption | omega) (by first | assumption | omega)) w_618 w_620 w_s19 w_6 w_621 (by decide +kernel) rfl ⟨(Nat.le_of_ble_eq_true rfl), (Nat.le_of_ble_eq_true rfl)⟩ 0 (ci := 3) rfl rfl [0, 1, 2, 3, 4, 5, 9] rfl rfl (Nat.le_of_ble_eq_true rfl) dX3_breaksBehind_3 ⟨(Nat.le_of_ble_eq_true rfl), (Nat.le_of_ble_eq_true rfl)⟩ rfl (fun r w1 H locs hQ V => ?_)
  obtain ⟨g_1, rfl, rfl, f_2⟩ := hQ
  have V : gW D T A s [(h0, .inr (3, [.ref h1, .int qx, .int qy, .int (nI ql), .ref h2, .ref h3])), (h2, .inl (T 0, 10, .inl qp)), (h3, .inl (T 0, 12, .inl g_1)), (a0, .inr (5, [.int (nI an), .int am, .int al, .int ao, .int au, .ref a1, .ref a2, .ref a3, .ref a4, .ref a5, .ref a6, .ref a7, .ref a8, .ref a9, .ref a10])), (a1, .inl (T 0, 10, .inl af1)), (a2, .inl (T 0, 10, .inl af2)), (a3, .inl (T 0, 10, .inl af3)), (a4, .inl (T 0, 10, .inl af4)), (a5, .inl (T 0, 10, .inl af5)), (a9, .inl (T 0, 10, .inl af9))] H locs := V _ [0, 0, 0, 0, 0, 0, 3] rfl rfl rfl (by decide +kernel) rfl
  show W p l e _ s m args below meth c H locs _ _ _ (F0 m 6 ls [])
  have hwe := f_2
  refine lv_aload_n hx hb dX3_breaksBehind_6 rfl (lv_at hl 1 rfl) ?_
  refine g_get hC V (ci := 5) uwX5 3 rfl rfl 7 (by decide) w_66 rfl rfl dX3_breaksBehind_7 ?_
  refine lv_iload_n hx hb dX3_breaksBehind_10 rfl (lv_at hl 2 rfl) ?_
  refine g_iald hC V 6 rfl (vp_in_nI (by omega) (by omega)) (v := (af3 j)) (congrArg _ (nI_clamp (by omega))) dX3_breaksBehind_11 ?_
  refine lv_istore_n (lv' := [(3, .int (af3 j)), (0, .ref h0), (1, .ref a0), (2, .int (nI j))]) hx hb dX3_breaksBehind_12 rfl hl (by decide) rfl (fun ls hl => ?_)
  refine lv_iconst (v := (nI 0)) hx hb dX3_breaksBehind_13 (by decide +kernel) ?_
  refine lv_istore (lv' := [(4, .int (nI 0)), (3, .int (af3 j)), (0, .ref h0), (1, .ref a0), (2, .int (nI j))]) hx hb dX3_breaksBehind_14 hl (by decide) rfl (fun ls hl => ?_)
  have L_3 : ∀ (fu : Nat) (k16 : Nat) (x3 : Int32), k16 ≤ 202 → x3 = hsF an fa qp ql j (k16 * ql) → NV an fa qp ql j (k16 * ql) → 202 - k16 < fu → ∀ (H : Heap) (locs : List Loc) (ls : Array Slot), gW D T A s [(h0, .inr (3, [.ref h1, .int qx, .int qy, .int (nI ql), .ref h2, .ref h3])), (h2, .inl (T 0, 10, .inl qp)), (h3, .inl (T 0, 12, .inl g_1)), (a0, .inr (5, [.int (nI an), .int am, .int al, .int ao, .int au, .ref a1, .ref a2, .ref a3, .ref a4, .ref a5, .ref a6, .ref a7, .ref a8, .ref a9, .ref a10])), (a1, .inl (T 0, 10, .inl af1)), (a2, .inl (T 0, 10, .inl af2)), (a3, .inl (T 0, 10, .inl af3)), (a4, .inl (T 0, 10, .inl af4)), (a5, .inl (T 0, 10, .inl af5)), (a9, .inl (T 0, 10, .inl af9))] H locs → lv_has ls 7 [(4, .int (nI k16)), (3, .int x3), (0, .ref h0), (1, .ref a0), (2, .int (nI j))] → W p l e (rmD 2 0 0) s m args below meth c H locs 0 0 (MQ below (gQ D A (q_h_breaks_f T fa h0 a0 j h1 qx qy ql h2 h3 qp qc an am al ao au a1 a2 a3 a4 a5 a6 a7 a8 a9 a10 af1 af2 af3 af4 af5 af9)) args s 0 0 A) (F0 m 16 ls []) := by
    intro fu_16
    induction fu_16 with
    | zero => intro k16 x3 hk16 hx3 hnv hmu; exact absurd hmu (Nat.not_lt_zero _)
    | succ fu_16 ih_16 =>
      intro k16 x3 hk16 hx3 hnv hmu_16 H locs ls V hl
      refine lv_iload hx hb dX3_breaksBehind_16 (lv_at hl 0 rfl) ?_
      refine lv_sipush (v := (nI 201)) hx hb dX3_breaksBehind_18 (by decide +kernel) ?_
      refine lv_icmp_gt (tgt := 94) hx hb dX3_breaksBehind_21 (by decide) (fun c_4 => ?_) (fun c_4 => ?_)
      · skip
        have c_4 := b_lt (by omega) (by omega) c_4
        refine lv_iconst (v := (-1)) hx hb dX3_breaksBehind_94 (by decide +kernel) ?_
        exact g_iret (Qr := (q_h_breaks_f T fa h0 a0 j h1 qx qy ql h2 h3 qp qc an am al ao au a1 a2 a3 a4 a5 a6 a7 a8 a9 a10 af1 af2 af3 af4 af5 af9)) hC V ⟨(Nat.le_of_ble_eq_true rfl), (Nat.le_of_ble_eq_true rfl)⟩ ⟨(-1), g_1, rfl, rfl, (bh_n (bk_all h_a h_lb h_j h_l.1 (fun t h1 h2 => hnv t h1 (by have := Nat.mul_le_mul_right ql (show 201 ≤ k16 by omega); omega))))⟩ dX3_breaksBehind_95
      · skip
        have c_4 := b_nlt (by omega) (by omega) c_4
        have hkm : k16 * ql ≤ 201 * 12 := Nat.mul_le_mul (by omega) h_l.2
        refine lv_iload_n hx hb dX3_breaksBehind_24 rfl (lv_at hl 1 rfl) ?_
        refine lv_istore (lv' := [(5, .int x3), (4, .int (nI k16)), (3, .int x3), (0, .ref h0), (1, .ref a0), (2, .int (nI j))]) hx hb dX3_breaksBehind_25 hl (by decide) rfl (fun ls hl => ?_)
        refine lv_iconst (v := (nI 0)) hx hb dX3_breaksBehind_27 (by decide +kernel) ?_
        refine lv_istore (lv' := [(6, .int (nI 0)), (5, .int x3), (4, .int (nI k16)), (3, .int x3), (0, .ref h0), (1, .ref a0), (2, .int (nI j))]) hx hb dX3_breaksBehind_28 hl (by decide) rfl (fun ls hl => ?_)
        have L_5 : ∀ (fu : Nat) (k30 : Nat) (y3 : Int32), k30 ≤ ql → y3 = hsF an fa qp ql j (k16 * ql + k30) → NV an fa qp ql j (k16 * ql + k30) → ql - k30 < fu → ∀ (H : Heap) (locs : List Loc) (ls : Array Slot), gW D T A s [(h0, .inr (3, [.ref h1, .int qx, .int qy, .int (nI ql), .ref h2, .ref h3])), (h2, .inl (T 0, 10, .inl qp)), (h3, .inl (T 0, 12, .inl g_1)), (a0, .inr (5, [.int (nI an), .int am, .int al, .int ao, .int au, .ref a1, .ref a2, .ref a3, .ref a4, .ref a5, .ref a6, .ref a7, .ref a8, .ref a9, .ref a10])), (a1, .inl (T 0, 10, .inl af1)), (a2, .inl (T 0, 10, .inl af2)), (a3, .inl (T 0, 10, .inl af3)), (a4, .inl (T 0, 10, .inl af4)), (a5, .inl (T 0, 10, .inl af5)), (a9, .inl (T 0, 10, .inl af9))] H locs → lv_has ls 7 [(6, .int (nI k30)), (5, .int x3), (4, .int (nI k16)), (3, .int y3), (0, .ref h0), (1, .ref a0), (2, .int (nI j))] → W p l e (rmD 2 0 0) s m args below meth c H locs 0 0 (MQ below (gQ D A (q_h_breaks_f T fa h0 a0 j h1 qx qy ql h2 h3 qp qc an am al ao au a1 a2 a3 a4 a5 a6 a7 a8 a9 a10 af1 af2 af3 af4 af5 af9)) args s 0 0 A) (F0 m 30 ls []) := by
          intro fu_30
          induction fu_30 with
          | zero => intro k30 y3 hk30 hy3 hnw hmu; exact absurd hmu (Nat.not_lt_zero _)
          | succ fu_30 ih_30 =>
            intro k30 y3 hk30 hy3 hnw hmu_30 H locs ls V hl
            refine lv_iload hx hb dX3_breaksBehind_30 (lv_at hl 0 rfl) ?_
            refine lv_aload_n hx hb dX3_breaksBehind_32 rfl (lv_at hl 4 rfl) ?_
            refine g_get hC V (ci := 3) uwX3 0 rfl rfl 3 (by decide) w_189 rfl rfl dX3_breaksBehind_33 ?_
            refine lv_icmp_ge (tgt := 80) hx hb dX3_breaksBehind_36 (by decide) (fun c_6 => ?_) (fun c_6 => ?_)
            · skip
              have c_6 := b_le (by omega) (by omega) c_6
              refine lv_iload_n hx hb dX3_breaksBehind_80 rfl (lv_at hl 3 rfl) ?_
              refine lv_iload hx hb dX3_breaksBehind_81 (lv_at hl 1 rfl) ?_
              refine lv_icmp_ne (tgt := 88) hx hb dX3_breaksBehind_83 (by decide) (fun c_7 => ?_) (fun c_7 => ?_)
              · skip
                refine lv_iinc (v := (nI (k16 + 1))) (lv' := [(4, .int (nI (k16 + 1))), (6, .int (nI k30)), (5, .int x3), (3, .int y3), (0, .ref h0), (1, .ref a0), (2, .int (nI j))]) hx hb dX3_breaksBehind_88 hl (k := 2) rfl (nI_1 _) (by decide) rfl (fun ls hl => ?_)
                refine lv_goto (tgt := 16) hx hb dX3_breaksBehind_91 (by decide) ?_
                exact ih_16 (k16 + 1) y3 (by omega) (by rw [hy3, sc_mul]; congr 1; omega) (nv_e hnw (by rw [sc_mul]; omega)) (by omega) _ _ _ V (lv_sub hl [0, 3, 4, 5, 6] rfl)
              · skip
                refine lv_iconst (v := (-1)) hx hb dX3_breaksBehind_86 (by decide +kernel) ?_
                exact g_iret (Qr := (q_h_breaks_f T fa h0 a0 j h1 qx qy ql h2 h3 qp qc an am al ao au a1 a2 a3 a4 a5 a6 a7 a8 a9 a10 af1 af2 af3 af4 af5 af9)) hC V ⟨(Nat.le_of_ble_eq_true rfl), (Nat.le_of_ble_eq_true rfl)⟩ ⟨(-1), g_1, rfl, rfl, (bh_n (bk_rep (a := k16 * ql) h_a h_lb h_j h_l.1 (by rw [← hx3, ← c_7, hy3]; congr 1; omega) (nv_e hnw (by omega))))⟩ dX3_breaksBehind_87
            · skip
              have c_6 := b_nle (by omega) (by omega) c_6
              refine lv_iload_n hx hb dX3_breaksBehind_39 rfl (lv_at hl 3 rfl) ?_
              refine lv_aload_n hx hb dX3_breaksBehind_40 rfl (lv_at hl 4 rfl) ?_
              refine g_get hC V (ci := 3) uwX3 0 rfl rfl 5 (by decide) w_191 rfl rfl dX3_breaksBehind_41 ?_
              refine lv_iload hx hb dX3_breaksBehind_44 (lv_at hl 0 rfl) ?_
              refine g_iald hC V 2 rfl (vp_in_nI (by omega) (by omega)) (v := (g_1 k30)) (congrArg _ (nI_clamp (by omega))) dX3_breaksBehind_46 ?_
              refine lv_iadd hx hb dX3_breaksBehind_47 ?_
              refine g_callSNU (nA := 1) (host := RX7) hC V hl.1 (c_bounded_f l D T (y3 + (g_1 k30))) w_489 (List.mem_of_getElem? (i := 9) rfl) w_2 w_488 (by decide +kernel) rfl ⟨(Nat.le_of_ble_eq_true rfl), (Nat.le_of_ble_eq_true rfl)⟩ [] rfl rfl (Nat.le_of_ble_eq_true rfl) dX3_breaksBehind_48 ⟨(Nat.le_of_ble_eq_true rfl), (Nat.le_of_ble_eq_true rfl)⟩ rfl (fun r w1 H locs hQ V => ?_)
              obtain ⟨z_8, rfl, rfl, f_9⟩ := hQ
              have V : gW D T A s [(h0, .inr (3, [.ref h1, .int qx, .int qy, .int (nI ql), .ref h2, .ref h3])), (h2, .inl (T 0, 10, .inl qp)), (h3, .inl (T 0, 12, .inl g_1)), (a0, .inr (5, [.int (nI an), .int am, .int al, .int ao, .int au, .ref a1, .ref a2, .ref a3, .ref a4, .ref a5, .ref a6, .ref a7, .ref a8, .ref a9, .ref a10])), (a1, .inl (T 0, 10, .inl af1)), (a2, .inl (T 0, 10, .inl af2)), (a3, .inl (T 0, 10, .inl af3)), (a4, .inl (T 0, 10, .inl af4)), (a5, .inl (T 0, 10, .inl af5)), (a9, .inl (T 0, 10, .inl af9))] H locs := V _ [] rfl rfl rfl (by decide +kernel) rfl
              show W p l e _ s m args below meth c H locs _ _ _ (F0 m 51 ls [.int z_8])
              have hzs : z_8 = hsF an fa qp ql j (k16 * ql + k30 + 1) := hs_s hy3 (by omega) (hwe k30 (by omega)) f_9
              refine lv_istore_n (lv' := [(3, .int z_8), (6, .int (nI k30)), (5, .int x3), (4, .int (nI k16)), (0, .ref h0), (1, .ref a0), (2, .int (nI j))]) hx hb dX3_breaksBehind_51 rfl hl (by decide) rfl (fun ls hl => ?_)
              refine lv_aload_n hx hb dX3_breaksBehind_52 rfl (lv_at hl 5 rfl) ?_
              refine lv_iload_n hx hb dX3_breaksBehind_53 rfl (lv_at hl 6 rfl) ?_
              refine lv_iload_n hx hb dX3_breaksBehind_54 rfl (lv_at hl 0 rfl) ?_
              refine g_callVU (nA := 2) hC V hl.1 (s_isWorkableAt l D T a0 j z_8 an am al ao au a1 a2 a3 a4 a5 a6 a7 a8 a9 a10 af4 af5 (by first | assumption | omega)) w_624 w_479 w_480 w_3 w_481 (by decide +kernel) rfl ⟨(Nat.le_of_ble_eq_true rfl), (Nat.le_of_ble_eq_true rfl)⟩ 3 (ci := 5) rfl rfl [3, 7, 8] rfl rfl (Nat.le_of_ble_eq_true rfl) dX3_breaksBehind_55 ⟨(Nat.le_of_ble_eq_true rfl), (Nat.le_of_ble_eq_true rfl)⟩ rfl (fun r w1 H locs hQ V => ?_)
              rcases hQ with ⟨rfl, rfl, f_10, f_11⟩ | ⟨rfl, rfl, f_12⟩
              · have V : gW D T A s [(h0, .inr (3, [.ref h1, .int qx, .int qy, .int (nI ql), .ref h2, .ref h3])), (h2, .inl (T 0, 10, .inl qp)), (h3, .inl (T 0, 12, .inl g_1)), (a0, .inr (5, [.int (nI an), .int am, .int al, .int ao, .int au, .ref a1, .ref a2, .ref a3, .ref a4, .ref a5, .ref a6, .ref a7, .ref a8, .ref a9, .ref a10])), (a1, .inl (T 0, 10, .inl af1)), (a2, .inl (T 0, 10, .inl af2)), (a3, .inl (T 0, 10, .inl af3)), (a4, .inl (T 0, 10, .inl af4)), (a5, .inl (T 0, 10, .inl af5)), (a9, .inl (T 0, 10, .inl af9))] H locs := V _ [3, 3, 0] rfl rfl rfl (by decide +kernel) rfl
                show W p l e _ s m args below meth c H locs _ _ _ (F0 m 58 ls [.int (nI 1)])
                refine lv_if_ne (tgt := 74) hx hb dX3_breaksBehind_58 (by decide) (fun _ => ?_) (fun c => absurd (show (nI 1) = 0 from c) (by decide +kernel))
                refine lv_iinc (v := (nI (k30 + 1))) (lv' := [(6, .int (nI (k30 + 1))), (3, .int z_8), (5, .int x3), (4, .int (nI k16)), (0, .ref h0), (1, .ref a0), (2, .int (nI j))]) hx hb dX3_breaksBehind_74 hl (k := 1) rfl (nI_1 _) (by decide) rfl (fun ls hl => ?_)
                refine lv_goto (tgt := 30) hx hb dX3_breaksBehind_77 (by decide) ?_
                exact ih_30 (k30 + 1) z_8 (by omega) hzs (nv_s hnw (bk_n hzs (h_s4 j h_j) (h_s5 j h_j) f_10 f_11)) (by omega) _ _ _ V (lv_sub hl [0, 2, 3, 1, 4, 5, 6] rfl)
              · have V : gW D T A s [(h0, .inr (3, [.ref h1, .int qx, .int qy, .int (nI ql), .ref h2, .ref h3])), (h2, .inl (T 0, 10, .inl qp)), (h3, .inl (T 0, 12, .inl g_1)), (a0, .inr (5, [.int (nI an), .int am, .int al, .int ao, .int au, .ref a1, .ref a2, .ref a3, .ref a4, .ref a5, .ref a6, .ref a7, .ref a8, .ref a9, .ref a10])), (a1, .inl (T 0, 10, .inl af1)), (a2, .inl (T 0, 10, .inl af2)), (a3, .inl (T 0, 10, .inl af3)), (a4, .inl (T 0, 10, .inl af4)), (a5, .inl (T 0, 10, .inl af5)), (a9, .inl (T 0, 10, .inl af9))] H locs := V _ [3, 3, 0] rfl rfl rfl (by decide +kernel) rfl
                show W p l e _ s m args below meth c H locs _ _ _ (F0 m 58 ls [.int (nI 0)])
                refine lv_if_ne (tgt := 74) hx hb dX3_breaksBehind_58 (by decide) (fun c => absurd (show (nI 0) = 0 by decide +kernel) c) (fun _ => ?_)
                refine lv_iload hx hb dX3_breaksBehind_61 (lv_at hl 3 rfl) ?_
                refine lv_aload_n hx hb dX3_breaksBehind_63 rfl (lv_at hl 4 rfl) ?_
                refine g_get hC V (ci := 3) uwX3 0 rfl rfl 3 (by decide) w_189 rfl rfl dX3_breaksBehind_64 ?_
                refine lv_imul hx hb dX3_breaksBehind_67 ?_
                refine g_vi (y := (nI (k16 * ql))) (pk_mul _ _) ?_
                refine lv_iload hx hb dX3_breaksBehind_68 (lv_at hl 1 rfl) ?_
                refine lv_iadd hx hb dX3_breaksBehind_70 ?_
                refine g_vi (y := (nI ((k16 * ql) + k30))) (nI_add _ _) ?_
                refine lv_iconst (v := (nI 1)) hx hb dX3_breaksBehind_71 (by decide +kernel) ?_
                refine lv_iadd hx hb dX3_breaksBehind_72 ?_
                refine g_vi (y := (nI (((k16 * ql) + k30) + 1))) (nI_add _ _) ?_
                exact g_iret (Qr := (q_h_breaks_f T fa h0 a0 j h1 qx qy ql h2 h3 qp qc an am al ao au a1 a2 a3 a4 a5 a6 a7 a8 a9 a10 af1 af2 af3 af4 af5 af9)) hC V ⟨(Nat.le_of_ble_eq_true rfl), (Nat.le_of_ble_eq_true rfl)⟩ ⟨(nI (((k16 * ql) + k30) + 1)), g_1, rfl, rfl, (bh_y rfl (by omega) hnw (bk_y hzs (h_s4 j h_j) (h_s5 j h_j) f_12))⟩ dX3_breaksBehind_73
        exact L_5 _ 0 x3 (by omega) hx3 hnv (Nat.lt_succ_self _) _ _ _ V (lv_sub hl [0, 1, 2, 3, 4, 5, 6] rfl)
  exact L_3 _ 0 (af3 j) (by omega) (by rw [Nat.zero_mul]; exact h_s3 j h_j) (nv_e nv_0 (Nat.zero_mul _)) (Nat.lt_succ_self _) _ _ _ V (lv_sub hl [0, 1, 2, 3, 4] rfl)

def q_h_judgeOn_f (T : Nat → ClassId) (fa : Nat → Int32) (h0 : Nat) (a0 : Nat) (h1 : Nat) (qx : Int32) (qy : Int32) (ql : Nat) (h2 : Nat) (h3 : Nat) (qp : Nat → Int32) (qc : Nat → Int32) (an : Nat) (am : Int32) (al : Int32) (ao : Int32) (au : Int32) (a1 : Nat) (a2 : Nat) (a3 : Nat) (a4 : Nat) (a5 : Nat) (a6 : Nat) (a7 : Nat) (a8 : Nat) (a9 : Nat) (a10 : Nat) (af1 : Nat → Int32) (af2 : Nat → Int32) (af3 : Nat → Int32) (af4 : Nat → Int32) (af5 : Nat → Int32) (af9 : Nat → Int32) : Option Value → va_W → Prop := fun rr ww => (∃ (x1 : Int32) (x2 : Int32) (g : Nat → Int32), rr = none ∧ ww = [(h0, .inr (3, [.ref h1, .int x1, .int x2, .int (nI ql), .ref h2, .ref h3])), (h2, .inl (T 0, 10, .inl qp)), (h3, .inl (T 0, 12, .inl g)), (a0, .inr (5, [.int (nI an), .int am, .int al, .int ao, .int au, .ref a1, .ref a2, .ref a3, .ref a4, .ref a5, .ref a6, .ref a7, .ref a8, .ref a9, .ref a10])), (a1, .inl (T 0, 10, .inl af1)), (a2, .inl (T 0, 10, .inl af2)), (a3, .inl (T 0, 10, .inl af3)), (a4, .inl (T 0, 10, .inl af4)), (a5, .inl (T 0, 10, .inl af5)), (a9, .inl (T 0, 10, .inl af9))] ∧ HO an fa qp ql an x1 x2)
set_option maxHeartbeats 4000000 in
set_option maxRecDepth 100000 in
theorem h_judgeOn_f (l : Launch) (D : va_G) (T : Nat → ClassId) (fa : Nat → Int32) (h0 : Nat) (a0 : Nat) (h1 : Nat) (qx : Int32) (qy : Int32) (ql : Nat) (h2 : Nat) (h3 : Nat) (qp : Nat → Int32) (qc : Nat → Int32) (an : Nat) (am : Int32) (al : Int32) (ao : Int32) (au : Int32) (a1 : Nat) (a2 : Nat) (a3 : Nat) (a4 : Nat) (a5 : Nat) (a6 : Nat) (a7 : Nat) (a8 : Nat) (a9 : Nat) (a10 : Nat) (af1 : Nat → Int32) (af2 : Nat → Int32) (af3 : Nat → Int32) (af4 : Nat → Int32) (af5 : Nat → Int32) (af9 : Nat → Int32) (h_n : an ≤ 10) (h_l : 1 ≤ ql ∧ ql ≤ 12) (h_s1 : ∀ i, i < an → af1 i = fa (4 + i)) (h_s2 : ∀ i, i < an → af2 i = fa (14 + i)) (h_s3 : ∀ i, i < an → af3 i = fa (24 + i)) (h_s4 : ∀ i, i < an → af4 i = fa (34 + i)) (h_s5 : ∀ i, i < an → af5 i = fa (44 + i)) (h_s9 : ∀ i, i < an → af9 i = fa (84 + i)) (h_a : MI an fa) (h_lb : LB fa) : Ct l yX3_judgeOn cX3_judgeOn 4 none 3 0 0 D T [.ref h0, .ref a0] [(h0, .inr (3, [.ref h1, .int qx, .int qy, .int (nI ql), .ref h2, .ref h3])), (h2, .inl (T 0, 10, .inl qp)), (h3, .inl (T 0, 12, .inl qc)), (a0, .inr (5, [.int (nI an), .int am, .int al, .int ao, .int au, .ref a1, .ref a2, .ref a3, .ref a4, .ref a5, .ref a6, .ref a7, .ref a8, .ref a9, .ref a10])), (a1, .inl (T 0, 10, .inl af1)), (a2, .inl (T 0, 10, .inl af2)), (a3, .inl (T 0, 10, .inl af3)), (a4, .inl (T 0, 10, .inl af4)), (a5, .inl (T 0, 10, .inl af5)), (a9, .inl (T 0, 10, .inl af9))] (q_h_judgeOn_f T fa h0 a0 h1 qx qy ql h2 h3 qp qc an am al ao au a1 a2 a3 a4 a5 a6 a7 a8 a9 a10 af1 af2 af3 af4 af5 af9) := by
  refine Ct.of (cc := cX3_judgeOn) (maxL := 4) (ret := none) (by decide) (Nat.le_of_ble_eq_true rfl) ?_
  intro p e s m args below meth c A ls hC hnm V hl
  obtain ⟨hx, hb, hr, hml, hown, hts, hlocks⟩ := id hC
  generalize hH : s.heap = H at V ⊢
  clear hH
  have hl : lv_has ls 4 [(0, .ref h0), (1, .ref a0)] := hl
  generalize hlo : ([] : List Loc) = locs at V ⊢
  clear hlo
  refine lv_aload_n hx hb dX3_judgeOn_0 rfl (lv_at hl 0 rfl) ?_
  refine lv_iconst (v := (-1)) hx hb dX3_judgeOn_1 (by decide +kernel) ?_
  refine g_put hC V (ci := 3) uwX3 tyX3 tyX3_ok nmX3 0 rfl rfl 1 (by decide) w_185 rfl rfl rfl rfl (Nat.le_of_ble_eq_true rfl) (ws' := [(h0, .inr (3, [.ref h1, .int (-1), .int qy, .int (nI ql), .ref h2, .ref h3])), (h2, .inl (T 0, 10, .inl qp)), (h3, .inl (T 0, 12, .inl qc)), (a0, .inr (5, [.int (nI an), .int am, .int al, .int ao, .int au, .ref a1, .ref a2, .ref a3, .ref a4, .ref a5, .ref a6, .ref a7, .ref a8, .ref a9, .ref a10])), (a1, .inl (T 0, 10, .inl af1)), (a2, .inl (T 0, 10, .inl af2)), (a3, .inl (T 0, 10, .inl af3)), (a4, .inl (T 0, 10, .inl af4)), (a5, .inl (T 0, 10, .inl af5)), (a9, .inl (T 0, 10, .inl af9))]) rfl dX3_judgeOn_2 (fun H locs V => ?_)
  refine lv_aload_n hx hb dX3_judgeOn_5 rfl (lv_at hl 0 rfl) ?_
  refine lv_iconst (v := (-1)) hx hb dX3_judgeOn_6 (by decide +kernel) ?_
  refine g_put hC V (ci := 3) uwX3 tyX3 tyX3_ok nmX3 0 rfl rfl 2 (by decide) w_187 rfl rfl rfl rfl (Nat.le_of_ble_eq_true rfl) (ws' := [(h0, .inr (3, [.ref h1, .int (-1), .int (-1), .int (nI ql), .ref h2, .ref h3])), (h2, .inl (T 0, 10, .inl qp)), (h3, .inl (T 0, 12, .inl qc)), (a0, .inr (5, [.int (nI an), .int am, .int al, .int ao, .int au, .ref a1, .ref a2, .ref a3, .ref a4, .ref a5, .ref a6, .ref a7, .ref a8, .ref a9, .ref a10])), (a1, .inl (T 0, 10, .inl af1)), (a2, .inl (T 0, 10, .inl af2)), (a3, .inl (T 0, 10, .inl af3)), (a4, .inl (T 0, 10, .inl af4)), (a5, .inl (T 0, 10, .inl af5)), (a9, .inl (T 0, 10, .inl af9))]) rfl dX3_judgeOn_7 (fun H locs V => ?_)
  refine lv_iconst (v := (nI 0)) hx hb dX3_judgeOn_10 (by decide +kernel) ?_
  refine lv_istore_n (lv' := [(2, .int (nI 0)), (0, .ref h0), (1, .ref a0)]) hx hb dX3_judgeOn_11 rfl hl (by decide) rfl (fun ls hl => ?_)
  have L_1 : ∀ (fu : Nat) (k12 : Nat) (v1 : Int32) (v2 : Int32) (ga : Nat → Int32), k12 ≤ an → HO an fa qp ql k12 v1 v2 → an - k12 < fu → ∀ (H : Heap) (locs : List Loc) (ls : Array Slot), gW D T A s [(h0, .inr (3, [.ref h1, .int v1, .int v2, .int (nI ql), .ref h2, .ref h3])), (h2, .inl (T 0, 10, .inl qp)), (h3, .inl (T 0, 12, .inl ga)), (a0, .inr (5, [.int (nI an), .int am, .int al, .int ao, .int au, .ref a1, .ref a2, .ref a3, .ref a4, .ref a5, .ref a6, .ref a7, .ref a8, .ref a9, .ref a10])), (a1, .inl (T 0, 10, .inl af1)), (a2, .inl (T 0, 10, .inl af2)), (a3, .inl (T 0, 10, .inl af3)), (a4, .inl (T 0, 10, .inl af4)), (a5, .inl (T 0, 10, .inl af5)), (a9, .inl (T 0, 10, .inl af9))] H locs → lv_has ls 4 [(2, .int (nI k12)), (0, .ref h0), (1, .ref a0)] → W p l e (rmD 3 0 0) s m args below meth c H locs 0 0 (MQ below (gQ D A (q_h_judgeOn_f T fa h0 a0 h1 qx qy ql h2 h3 qp qc an am al ao au a1 a2 a3 a4 a5 a6 a7 a8 a9 a10 af1 af2 af3 af4 af5 af9)) args s 0 0 A) (F0 m 12 ls []) := by
    intro fu_12
    induction fu_12 with
    | zero => intro k12 v1 v2 ga hk12 hho hmu; exact absurd hmu (Nat.not_lt_zero _)
    | succ fu_12 ih_12 =>
      intro k12 v1 v2 ga hk12 hho hmu_12 H locs ls V hl
      refine lv_iload_n hx hb dX3_judgeOn_12 rfl (lv_at hl 0 rfl) ?_
      refine lv_aload_n hx hb dX3_judgeOn_13 rfl (lv_at hl 2 rfl) ?_
      refine g_get hC V (ci := 5) uwX5 3 rfl rfl 0 (by decide) w_37 rfl rfl dX3_judgeOn_14 ?_
      refine lv_icmp_ge (tgt := 64) hx hb dX3_judgeOn_17 (by decide) (fun c_2 => ?_) (fun c_2 => ?_)
      · skip
        have c_2 := b_le (by omega) (by omega) c_2
        exact g_vret (Qr := (q_h_judgeOn_f T fa h0 a0 h1 qx qy ql h2 h3 qp qc an am al ao au a1 a2 a3 a4 a5 a6 a7 a8 a9 a10 af1 af2 af3 af4 af5 af9)) hC V ⟨(Nat.le_of_ble_eq_true rfl), (Nat.le_of_ble_eq_true rfl)⟩ ⟨v1, v2, ga, rfl, rfl, (ho_e hho (by omega))⟩ dX3_judgeOn_64
      · skip
        have c_2 := b_nle (by omega) (by omega) c_2
        refine lv_aload_n hx hb dX3_judgeOn_20 rfl (lv_at hl 1 rfl) ?_
        refine lv_aload_n hx hb dX3_judgeOn_21 rfl (lv_at hl 2 rfl) ?_
        refine lv_iload_n hx hb dX3_judgeOn_22 rfl (lv_at hl 0 rfl) ?_
        refine g_callV (wr := []) (nA := 2) hC V hl.1 (h_breaks_f l D T fa h0 a0 k12 h1 v1 v2 ql h2 h3 qp ga an am al ao au a1 a2 a3 a4 a5 a6 a7 a8 a9 a10 af1 af2 af3 af4 af5 af9 (by first | assumption | omega) (by first | assumption | omega) (by first | assumption | omega) (by first | assumption | omega) (by first | assumption | omega) (by first | assumption | omega) (by first | assumption | omega) (by first | assumption | omega) (by first | assumption | omega) (by first | assumption | omega) (by first | assumption | omega)) w_614 w_616 w_s18 w_6 w_617 (by decide +kernel) rfl ⟨(Nat.le_of_ble_eq_true rfl), (Nat.le_of_ble_eq_true rfl)⟩ 0 (ci := 3) rfl rfl [0, 1, 2, 3, 4, 5, 6, 7, 8, 9] [] rfl rfl rfl rfl (by decide) (Nat.le_of_ble_eq_true rfl) dX3_judgeOn_23 ⟨(Nat.le_of_ble_eq_true rfl), (Nat.le_of_ble_eq_true rfl)⟩ rfl (fun r w1 H locs hQ V => ?_)
        obtain ⟨z_3, g_4, rfl, rfl, f_5⟩ := hQ
        have V : gW D T A s [(h0, .inr (3, [.ref h1, .int v1, .int v2, .int (nI ql), .ref h2, .ref h3])), (h2, .inl (T 0, 10, .inl qp)), (h3, .inl (T 0, 12, .inl g_4)), (a0, .inr (5, [.int (nI an), .int am, .int al, .int ao, .int au, .ref a1, .ref a2, .ref a3, .ref a4, .ref a5, .ref a6, .ref a7, .ref a8, .ref a9, .ref a10])), (a1, .inl (T 0, 10, .inl af1)), (a2, .inl (T 0, 10, .inl af2)), (a3, .inl (T 0, 10, .inl af3)), (a4, .inl (T 0, 10, .inl af4)), (a5, .inl (T 0, 10, .inl af5)), (a9, .inl (T 0, 10, .inl af9))] H locs := V
        show W p l e _ s m args below meth c H locs _ _ _ (F0 m 26 ls [.int z_3])
        refine lv_istore_n (lv' := [(3, .int z_3), (2, .int (nI k12)), (0, .ref h0), (1, .ref a0)]) hx hb dX3_judgeOn_26 rfl hl (by decide) rfl (fun ls hl => ?_)
        refine lv_iload_n hx hb dX3_judgeOn_27 rfl (lv_at hl 0 rfl) ?_
        refine lv_iconst (v := (-1)) hx hb dX3_judgeOn_28 (by decide +kernel) ?_
        refine lv_icmp_eq (tgt := 58) hx hb dX3_judgeOn_29 (by decide) (fun c_6 => ?_) (fun c_6 => ?_)
        · skip
          refine lv_iinc (v := (nI (k12 + 1))) (lv' := [(2, .int (nI (k12 + 1))), (3, .int z_3), (0, .ref h0), (1, .ref a0)]) hx hb dX3_judgeOn_58 hl (k := 1) rfl (nI_1 _) (by decide) rfl (fun ls hl => ?_)
          refine lv_goto (tgt := 12) hx hb dX3_judgeOn_61 (by decide) ?_
          exact ih_12 (k12 + 1) v1 v2 g_4 (by omega) (ho_1 hho f_5 c_6) (by omega) _ _ _ V (lv_sub hl [0, 2, 3] rfl)
        · skip
          refine lv_aload_n hx hb dX3_judgeOn_32 rfl (lv_at hl 2 rfl) ?_
          refine g_get hC V (ci := 3) uwX3 0 rfl rfl 1 (by decide) w_185 rfl rfl dX3_judgeOn_33 ?_
          refine lv_iconst (v := (-1)) hx hb dX3_judgeOn_36 (by decide +kernel) ?_
          refine lv_icmp_eq (tgt := 48) hx hb dX3_judgeOn_37 (by decide) (fun c_7 => ?_) (fun c_7 => ?_)
          · skip
            refine lv_aload_n hx hb dX3_judgeOn_48 rfl (lv_at hl 2 rfl) ?_
            refine lv_iload_n hx hb dX3_judgeOn_49 rfl (lv_at hl 0 rfl) ?_
            refine g_put hC V (ci := 3) uwX3 tyX3 tyX3_ok nmX3 0 rfl rfl 1 (by decide) w_185 rfl rfl rfl rfl (Nat.le_of_ble_eq_true rfl) (ws' := [(h0, .inr (3, [.ref h1, .int z_3, .int v2, .int (nI ql), .ref h2, .ref h3])), (h2, .inl (T 0, 10, .inl qp)), (h3, .inl (T 0, 12, .inl g_4)), (a0, .inr (5, [.int (nI an), .int am, .int al, .int ao, .int au, .ref a1, .ref a2, .ref a3, .ref a4, .ref a5, .ref a6, .ref a7, .ref a8, .ref a9, .ref a10])), (a1, .inl (T 0, 10, .inl af1)), (a2, .inl (T 0, 10, .inl af2)), (a3, .inl (T 0, 10, .inl af3)), (a4, .inl (T 0, 10, .inl af4)), (a5, .inl (T 0, 10, .inl af5)), (a9, .inl (T 0, 10, .inl af9))]) rfl dX3_judgeOn_50 (fun H locs V => ?_)
            refine lv_aload_n hx hb dX3_judgeOn_53 rfl (lv_at hl 2 rfl) ?_
            refine lv_iload_n hx hb dX3_judgeOn_54 rfl (lv_at hl 1 rfl) ?_
            refine g_put hC V (ci := 3) uwX3 tyX3 tyX3_ok nmX3 0 rfl rfl 2 (by decide) w_187 rfl rfl rfl rfl (Nat.le_of_ble_eq_true rfl) (ws' := [(h0, .inr (3, [.ref h1, .int z_3, .int (nI k12), .int (nI ql), .ref h2, .ref h3])), (h2, .inl (T 0, 10, .inl qp)), (h3, .inl (T 0, 12, .inl g_4)), (a0, .inr (5, [.int (nI an), .int am, .int al, .int ao, .int au, .ref a1, .ref a2, .ref a3, .ref a4, .ref a5, .ref a6, .ref a7, .ref a8, .ref a9, .ref a10])), (a1, .inl (T 0, 10, .inl af1)), (a2, .inl (T 0, 10, .inl af2)), (a3, .inl (T 0, 10, .inl af3)), (a4, .inl (T 0, 10, .inl af4)), (a5, .inl (T 0, 10, .inl af5)), (a9, .inl (T 0, 10, .inl af9))]) rfl dX3_judgeOn_55 (fun H locs V => ?_)
            refine lv_iinc (v := (nI (k12 + 1))) (lv' := [(2, .int (nI (k12 + 1))), (3, .int z_3), (0, .ref h0), (1, .ref a0)]) hx hb dX3_judgeOn_58 hl (k := 1) rfl (nI_1 _) (by decide) rfl (fun ls hl => ?_)
            refine lv_goto (tgt := 12) hx hb dX3_judgeOn_61 (by decide) ?_
            exact ih_12 (k12 + 1) z_3 (nI k12) g_4 (by omega) (ho_2 hho f_5 c_6 (Or.inl c_7)) (by omega) _ _ _ V (lv_sub hl [0, 2, 3] rfl)
          · skip
            refine lv_iload_n hx hb dX3_judgeOn_40 rfl (lv_at hl 0 rfl) ?_
            refine lv_aload_n hx hb dX3_judgeOn_41 rfl (lv_at hl 2 rfl) ?_
            refine g_get hC V (ci := 3) uwX3 0 rfl rfl 1 (by decide) w_185 rfl rfl dX3_judgeOn_42 ?_
            refine lv_icmp_ge (tgt := 58) hx hb dX3_judgeOn_45 (by decide) (fun c_8 => ?_) (fun c_8 => ?_)
            · skip
              refine lv_iinc (v := (nI (k12 + 1))) (lv' := [(2, .int (nI (k12 + 1))), (3, .int z_3), (0, .ref h0), (1, .ref a0)]) hx hb dX3_judgeOn_58 hl (k := 1) rfl (nI_1 _) (by decide) rfl (fun ls hl => ?_)
              refine lv_goto (tgt := 12) hx hb dX3_judgeOn_61 (by decide) ?_
              exact ih_12 (k12 + 1) v1 v2 g_4 (by omega) (ho_3 hho f_5 c_6 c_7 (Int32.not_lt.mpr c_8)) (by omega) _ _ _ V (lv_sub hl [0, 2, 3] rfl)
            · skip
              refine lv_aload_n hx hb dX3_judgeOn_48 rfl (lv_at hl 2 rfl) ?_
              refine lv_iload_n hx hb dX3_judgeOn_49 rfl (lv_at hl 0 rfl) ?_
              refine g_put hC V (ci := 3) uwX3 tyX3 tyX3_ok nmX3 0 rfl rfl 1 (by decide) w_185 rfl rfl rfl rfl (Nat.le_of_ble_eq_true rfl) (ws' := [(h0, .inr (3, [.ref h1, .int z_3, .int v2, .int (nI ql), .ref h2, .ref h3])), (h2, .inl (T 0, 10, .inl qp)), (h3, .inl (T 0, 12, .inl g_4)), (a0, .inr (5, [.int (nI an), .int am, .int al, .int ao, .int au, .ref a1, .ref a2, .ref a3, .ref a4, .ref a5, .ref a6, .ref a7, .ref a8, .ref a9, .ref a10])), (a1, .inl (T 0, 10, .inl af1)), (a2, .inl (T 0, 10, .inl af2)), (a3, .inl (T 0, 10, .inl af3)), (a4, .inl (T 0, 10, .inl af4)), (a5, .inl (T 0, 10, .inl af5)), (a9, .inl (T 0, 10, .inl af9))]) rfl dX3_judgeOn_50 (fun H locs V => ?_)
              refine lv_aload_n hx hb dX3_judgeOn_53 rfl (lv_at hl 2 rfl) ?_
              refine lv_iload_n hx hb dX3_judgeOn_54 rfl (lv_at hl 1 rfl) ?_
              refine g_put hC V (ci := 3) uwX3 tyX3 tyX3_ok nmX3 0 rfl rfl 2 (by decide) w_187 rfl rfl rfl rfl (Nat.le_of_ble_eq_true rfl) (ws' := [(h0, .inr (3, [.ref h1, .int z_3, .int (nI k12), .int (nI ql), .ref h2, .ref h3])), (h2, .inl (T 0, 10, .inl qp)), (h3, .inl (T 0, 12, .inl g_4)), (a0, .inr (5, [.int (nI an), .int am, .int al, .int ao, .int au, .ref a1, .ref a2, .ref a3, .ref a4, .ref a5, .ref a6, .ref a7, .ref a8, .ref a9, .ref a10])), (a1, .inl (T 0, 10, .inl af1)), (a2, .inl (T 0, 10, .inl af2)), (a3, .inl (T 0, 10, .inl af3)), (a4, .inl (T 0, 10, .inl af4)), (a5, .inl (T 0, 10, .inl af5)), (a9, .inl (T 0, 10, .inl af9))]) rfl dX3_judgeOn_55 (fun H locs V => ?_)
              refine lv_iinc (v := (nI (k12 + 1))) (lv' := [(2, .int (nI (k12 + 1))), (3, .int z_3), (0, .ref h0), (1, .ref a0)]) hx hb dX3_judgeOn_58 hl (k := 1) rfl (nI_1 _) (by decide) rfl (fun ls hl => ?_)
              refine lv_goto (tgt := 12) hx hb dX3_judgeOn_61 (by decide) ?_
              exact ih_12 (k12 + 1) z_3 (nI k12) g_4 (by omega) (ho_2 hho f_5 c_6 (Or.inr (Int32.not_le.mp c_8))) (by omega) _ _ _ V (lv_sub hl [0, 2, 3] rfl)
  exact L_1 _ 0 (-1) (-1) qc (by omega) ho_0 (Nat.lt_succ_self _) _ _ _ V (lv_sub hl [0, 1, 2] rfl)
