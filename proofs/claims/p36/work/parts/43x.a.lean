/-! ropes followed -/
theorem least {P : Nat → Prop} : ∀ N, (∃ j, j < N ∧ P j) → ∃ j, j < N ∧ P j ∧ ∀ m, m < j → ¬ P m
  | 0, ⟨j, h, _⟩ => absurd h (Nat.not_lt_zero _)
  | N + 1, ⟨j, h, hp⟩ => by
    by_cases c : ∃ i, i < N ∧ P i
    · obtain ⟨i, h1, h2, h3⟩ := least N c
      exact ⟨i, by omega, h2, h3⟩
    · have e : j = N := by
        by_cases q : j < N
        · exact absurd ⟨j, q, hp⟩ c
        · omega
      exact ⟨j, h, hp, fun m hm hq => c ⟨m, by omega, hq⟩⟩
def spG (f : Nat → Int32) (i t : Nat) : Nat → Nat → Int32
  | 0, _ => -1
  | fu + 1, k => if ledF f i k = t then nI k else spG f i t fu (k + 1)
theorem sp_hit {f : Nat → Int32} {i t : Nat} : ∀ fu k j, k ≤ j → j < k + fu → ledF f i j = t → (∀ m, k ≤ m → m < j → ledF f i m ≠ t) → spG f i t fu k = nI j
  | 0, k, j, h1, h2, _, _ => absurd h2 (by omega)
  | fu + 1, k, j, h1, h2, h3, h4 => by
    show (if ledF f i k = t then nI k else spG f i t fu (k + 1)) = nI j
    by_cases q : k = j
    · rw [if_pos (by rw [q]; exact h3), q]
    · rw [if_neg (h4 k (Nat.le_refl _) (by omega))]
      exact sp_hit fu (k + 1) j (by omega) (by omega) h3 (fun m a b => h4 m (by omega) b)
theorem sp_mis {f : Nat → Int32} {i t : Nat} : ∀ fu k, (∀ m, k ≤ m → m < k + fu → ledF f i m ≠ t) → spG f i t fu k = -1
  | 0, _, _ => rfl
  | fu + 1, k, h => by
    show (if ledF f i k = t then nI k else spG f i t fu (k + 1)) = -1
    rw [if_neg (h k (Nat.le_refl _) (by omega))]
    exact sp_mis fu (k + 1) (fun m a b => h m (by omega) (by omega))
theorem led_sh {f : Nat → Int32} {i a b : Nat} (e : ledF f i a = ledF f i b) (k : Nat) : ledF f i (a + k) = ledF f i (b + k) := by rw [← led_add, ← led_add, e]
theorem sp_eq {n i t : Nat} {f : Nat → Int32} (h : MI n f) (hi : i < n) : spG f i t 10 0 = spG f i t n 0 := by
  have hn := h.1
  by_cases c : ∃ j, j < 10 ∧ ledF f i j = t
  · obtain ⟨j, h1, h2, h3⟩ := least 10 c
    have hj : j < n := by
      by_cases q : j < n
      · exact q
      · exfalso
        obtain ⟨a, b, hab, hb, e⟩ := pigeon n (ledF f i) (fun k _ => led_lt h hi k)
        have e2 := led_sh e (j - b)
        rw [show b + (j - b) = j by omega] at e2
        exact h3 (a + (j - b)) (by omega) (e2.trans h2)
    rw [sp_hit 10 0 j (Nat.zero_le _) (by omega) h2 (fun m _ b => h3 m b), sp_hit n 0 j (Nat.zero_le _) (by omega) h2 (fun m _ b => h3 m b)]
  · have hm : ∀ m, m < 10 → ledF f i m ≠ t := fun m a b => c ⟨m, a, b⟩
    rw [sp_mis 10 0 (fun m _ b => hm m (by omega)), sp_mis n 0 (fun m _ b => hm m (by omega))]
theorem sp_s {f : Nat → Int32} {i t N k : Nat} (hk : k < N) (h : ledF f i k ≠ t) : spG f i t (N - k) k = spG f i t (N - (k + 1)) (k + 1) := by
  rw [show N - k = (N - (k + 1)) + 1 by omega]
  show (if ledF f i k = t then nI k else spG f i t (N - (k + 1)) (k + 1)) = _
  rw [if_neg h]
theorem sp_d {f : Nat → Int32} {i t N k : Nat} (hk : k < N) (h : ledF f i k = t) : spG f i t (N - k) k = nI k := by
  rw [show N - k = (N - (k + 1)) + 1 by omega]
  show (if ledF f i k = t then nI k else spG f i t (N - (k + 1)) (k + 1)) = _
  rw [if_pos h]
theorem sp_e {f : Nat → Int32} {i t N k : Nat} (hk : ¬ k < N) : spG f i t (N - k) k = -1 := by
  rw [show N - k = 0 by omega]; rfl
def spA (n : Nat) (f : Nat → Int32) (i to : Int32) : Int32 := if smP n i ∧ smP n to then spG f i.toNatClampNeg to.toNatClampNeg n 0 else -2
theorem spA_1 {n : Nat} {f : Nat → Int32} {i to : Int32} (h : i < 0 ∨ nI n ≤ i) : -2 = spA n f i to := by unfold spA; rw [if_neg (fun q => q.1 h)]
theorem spA_2 {n : Nat} {f : Nat → Int32} {i to : Int32} (h : to < 0 ∨ nI n ≤ to) : -2 = spA n f i to := by unfold spA; rw [if_neg (fun q => q.2 h)]
theorem spA_y {n j k : Nat} {f : Nat → Int32} {i to z : Int32} (hn : n ≤ 10) (ei : i = nI j) (hj : j < n) (et : to = nI k) (hk : k < n) (h : spG f j k n 0 = z) : z = spA n f i to := by
  unfold spA; rw [if_pos ⟨smP_of ei hj hn, smP_of et hk hn⟩, ei, et, nI_clamp (by omega), nI_clamp (by omega), h]
/-! the RING to which a way leads -/
def pgG (f : Nat → Int32) (x : Nat) : Nat → Nat → Nat
  | 0, k => k
  | fu + 1, k => if ledF f x k = x then k else pgG f x fu (k + 1)
theorem pg_hit {f : Nat → Int32} {x : Nat} : ∀ fu k j, k ≤ j → j ≤ k + fu → ledF f x j = x → (∀ m, k ≤ m → m < j → ledF f x m ≠ x) → pgG f x fu k = j
  | 0, k, j, h1, h2, _, _ => by show k = j; omega
  | fu + 1, k, j, h1, h2, h3, h4 => by
    show (if ledF f x k = x then k else pgG f x fu (k + 1)) = j
    by_cases q : k = j
    · rw [if_pos (by rw [q]; exact h3), q]
    · rw [if_neg (h4 k (Nat.le_refl _) (by omega))]
      exact pg_hit fu (k + 1) j (by omega) (by omega) h3 (fun m a b => h4 m (by omega) b)
theorem pg_s {f : Nat → Int32} {x N k : Nat} (hk : k < N) (h : ledF f x k ≠ x) : pgG f x (N - k) k = pgG f x (N - (k + 1)) (k + 1) := by
  rw [show N - k = (N - (k + 1)) + 1 by omega]
  show (if ledF f x k = x then k else pgG f x (N - (k + 1)) (k + 1)) = _
  rw [if_neg h]
theorem pg_d {f : Nat → Int32} {x k : Nat} (h : ledF f x k = x) : ∀ fu, pgG f x fu k = k
  | 0 => rfl
  | fu + 1 => by
    show (if ledF f x k = x then k else pgG f x fu (k + 1)) = k
    rw [if_pos h]
theorem pg_e {f : Nat → Int32} {x N k : Nat} (hk : ¬ k < N) : pgG f x (N - k) k = k := by rw [show N - k = 0 by omega]; rfl
/-- from x, p ropes lead back -/
theorem led_mul {f : Nat → Int32} {x p : Nat} (h : ledF f x p = x) : ∀ q, ledF f x (p * q) = x
  | 0 => rfl
  | q + 1 => by rw [Nat.mul_succ, ← led_add, led_mul h q, h]
theorem led_cyc2 {f : Nat → Int32} {i n : Nat} (h : MI n f) (hi : i < n) : ∃ p, 1 ≤ p ∧ p ≤ n ∧ ledF f (ledF f i n) p = ledF f i n := by
  obtain ⟨a, b, hab, hb, e⟩ := pigeon n (ledF f i) (fun k _ => led_lt h hi k)
  refine ⟨b - a, by omega, by omega, ?_⟩
  have e2 := led_sh e (n - a)
  rw [show a + (n - a) = n by omega, show b + (n - a) = n + (b - a) by omega] at e2
  rw [led_add]; exact e2.symm
theorem led_iff {f : Nat → Int32} {x p d m : Nat} (hp : 1 ≤ p) (h : ledF f x p = x) : ledF f (ledF f x d) m = ledF f x d ↔ ledF f x m = x := by
  constructor
  · intro e
    rw [led_add] at e
    have hd : d ≤ p * d := Nat.le_mul_of_pos_left d (by omega)
    have e2 := led_sh e (p * d - d)
    rw [show d + m + (p * d - d) = p * d + m by omega, show d + (p * d - d) = p * d by omega, ← led_add, led_mul h d] at e2
    exact e2
  · intro e
    rw [led_add, Nat.add_comm, ← led_add, e]
theorem rg_eq {n i r : Nat} {f : Nat → Int32} (h : MI n f) (hi : i < n) (h1 : 1 ≤ r) (h2 : ledF f (ledF f i 10) r = ledF f i 10) (h3 : ∀ m, 1 ≤ m → m < r → ledF f (ledF f i 10) m ≠ ledF f i 10) : r = pgG f (ledF f i n) (n - 1) 1 := by
  obtain ⟨p, p1, p2, p3⟩ := led_cyc2 h hi
  have hn := h.1
  have ey : ledF f i 10 = ledF f (ledF f i n) (10 - n) := by rw [led_add, show n + (10 - n) = 10 by omega]
  rw [ey] at h2 h3
  have q2 := (led_iff p1 p3).mp h2
  have q3 : ∀ m, 1 ≤ m → m < r → ledF f (ledF f i n) m ≠ ledF f i n := fun m a b e => h3 m a b ((led_iff p1 p3).mpr e)
  have hr : r ≤ p := by
    by_cases c : r ≤ p
    · exact c
    · exact absurd p3 (q3 p p1 (by omega))
  exact (pg_hit (n - 1) 1 r h1 (by omega) q2 q3).symm
def rgA (n : Nat) (f : Nat → Int32) (i : Int32) : Int32 := if smP n i then nI (pgG f (ledF f i.toNatClampNeg n) (n - 1) 1) else -2
theorem rg_o {n : Nat} {f : Nat → Int32} {i : Int32} (h : i < 0 ∨ nI n ≤ i) : -2 = rgA n f i := by unfold rgA; rw [if_neg (fun q => q h)]
theorem rg_y {n j r : Nat} {f : Nat → Int32} {i : Int32} (hn : n ≤ 10) (e : i = nI j) (hj : j < n) (h : r = pgG f (ledF f j n) (n - 1) 1) : nI r = rgA n f i := by unfold rgA; rw [if_pos (smP_of e hj hn), e, nI_clamp (by omega), h]
/-! the least of a RING -/
def lrP (f : Nat → Int32) (i : Nat) : Prop := (∃ m, 1 ≤ m ∧ ledF f i m = i) ∧ ∀ k, i ≤ ledF f i k
theorem led_mod {f : Nat → Int32} {x p : Nat} (h : ledF f x p = x) (q : Nat) : ledF f x q = ledF f x (q % p) := by
  have e : ledF f x (p * (q / p) + q % p) = ledF f x (q % p) := by rw [← led_add, led_mul h]
  rw [Nat.div_add_mod] at e; exact e
/-- the class: k more ropes, all above i, then i itself -/
theorem lr_y {f : Nat → Int32} {i k : Nat} (h1 : ∀ m, 1 ≤ m → m ≤ k → i < ledF f i m) (h2 : ledF f i (k + 1) = i) : lrP f i := by
  refine ⟨⟨k + 1, by omega, h2⟩, fun q => ?_⟩
  rw [led_mod h2 q]
  have hq := Nat.mod_lt q (show 0 < k + 1 by omega)
  generalize q % (k + 1) = m at hq
  by_cases c : m = 0
  · rw [c]; exact Nat.le_refl _
  · exact Nat.le_of_lt (h1 m (by omega) (by omega))
theorem lr_lt {f : Nat → Int32} {i k : Nat} (h : ledF f i k < i) : ¬ lrP f i := fun q => absurd (q.2 k) (by omega)
theorem lr_on {f : Nat → Int32} {i n m : Nat} (h : MI n f) (hi : i < n) (hm : 1 ≤ m) (e : ledF f i m = i) : ∃ p, 1 ≤ p ∧ p ≤ n ∧ ledF f i p = i := by
  obtain ⟨a, b, hab, hb, e1⟩ := pigeon n (ledF f i) (fun k _ => led_lt h hi k)
  refine ⟨b - a, by omega, by omega, ?_⟩
  have ha : a ≤ m * a := Nat.le_mul_of_pos_left a (by omega)
  have e2 := led_sh e1 (m * a - a)
  rw [show a + (m * a - a) = m * a by omega, show b + (m * a - a) = m * a + (b - a) by omega, ← led_add, led_mul e] at e2
  exact e2.symm
theorem lr_all {f : Nat → Int32} {i n : Nat} (h : MI n f) (hi : i < n) (h1 : ∀ m, 1 ≤ m → m ≤ n → i < ledF f i m) : ¬ lrP f i := by
  rintro ⟨⟨m, hm, e⟩, -⟩
  obtain ⟨p, p1, p2, p3⟩ := lr_on h hi hm e
  have := h1 p p1 p2
  omega
/-- the reference -/
theorem lr_ry {f : Nat → Int32} {i r : Nat} (hr : 1 ≤ r) (hr2 : r ≤ 10) (e : ledF f i r = i) (h1 : ∀ m, 1 ≤ m → m < 10 → i ≤ ledF f i m) : lrP f i := by
  refine ⟨⟨r, hr, e⟩, fun q => ?_⟩
  rw [led_mod e q]
  have hq := Nat.mod_lt q (show 0 < r by omega)
  generalize q % r = m at hq
  by_cases c : m = 0
  · rw [c]; exact Nat.le_refl _
  · exact h1 m (by omega) (by omega)
theorem lr_rn {f : Nat → Int32} {i n r : Nat} (h : MI n f) (hi : i < n) (h2 : ledF f (ledF f i 10) r = ledF f i 10) (hne : ledF f i r ≠ i) : ¬ lrP f i := by
  rintro ⟨⟨m, hm, e⟩, -⟩
  apply hne
  have e1 : ledF f i (m * 10) = i := led_mul e 10
  have e2 : ledF f (ledF f i 10) (m * 10 - 10) = i := by rw [led_add, show 10 + (m * 10 - 10) = m * 10 by omega]; exact e1
  have e3 : ledF f (ledF f (ledF f i 10) r) (m * 10 - 10) = i := by rw [h2]; exact e2
  rw [led_add, Nat.add_comm, ← led_add, e2] at e3
  exact e3
noncomputable def rcF (f : Nat → Int32) : Nat → Int32
  | 0 => nI 0
  | k + 1 => rcF f k + @ite _ (lrP f k) (Classical.propDecidable _) (nI 1) (nI 0)
theorem rc_y {f : Nat → Int32} {k : Nat} (h : lrP f k) : rcF f k + nI 1 = rcF f (k + 1) := by
  show _ = rcF f k + @ite _ (lrP f k) (Classical.propDecidable _) (nI 1) (nI 0)
  rw [if_pos h]
theorem rc_n {f : Nat → Int32} {k : Nat} (h : ¬ lrP f k) : rcF f k = rcF f (k + 1) := by
  show _ = rcF f k + @ite _ (lrP f k) (Classical.propDecidable _) (nI 1) (nI 0)
  rw [if_neg h]; exact add_n0 _
theorem lr_st {f : Nat → Int32} {i k : Nat} (h : ∀ m, 1 ≤ m → m ≤ k → i < ledF f i m) (h2 : i < ledF f i (k + 1)) : ∀ m, 1 ≤ m → m ≤ k + 1 → i < ledF f i m := by
  intro m a b
  by_cases c : m = k + 1
  · rw [c]; exact h2
  · exact h m a (by omega)
def RbS (f : Nat → Int32) (i R k : Nat) (b : Int32) : Prop := (b = 0 → ¬ lrP f i) ∧ (¬ b = 0 → ledF f i R = i ∧ ∀ m, 1 ≤ m → m < k → i ≤ ledF f i m)
theorem rb_1 {f : Nat → Int32} {i R : Nat} (e : ledF f i R = i) : RbS f i R 1 (nI 1) := ⟨fun h => absurd h (by decide +kernel), fun _ => ⟨e, fun m a b => absurd b (by omega)⟩⟩
theorem rb_0 {f : Nat → Int32} {i R k : Nat} (h : ¬ lrP f i) : RbS f i R k (nI 0) := ⟨fun _ => h, fun q => absurd rfl q⟩
theorem rb_s {f : Nat → Int32} {i R k : Nat} {b : Int32} (H : RbS f i R k b) (hb : ¬ b = 0) (h : i ≤ ledF f i k) : RbS f i R (k + 1) (nI 1) := by
  obtain ⟨e, h1⟩ := H.2 hb
  refine ⟨fun q => absurd q (by decide +kernel), fun _ => ⟨e, fun m a b => ?_⟩⟩
  by_cases c : m = k
  · rw [c]; exact h
  · exact h1 m a (by omega)
theorem rb_e {f : Nat → Int32} {i R k : Nat} {b : Int32} (H : RbS f i R k b) (hb : ¬ b = 0) (hk : 10 ≤ k) (h1 : 1 ≤ R) (h2 : R ≤ 10) : lrP f i := by
  obtain ⟨e, h3⟩ := H.2 hb
  exact lr_ry h1 h2 e (fun m a b => h3 m a (by omega))

def q_x_steps_f (T : Nat → ClassId) (nf1 : Nat → Int32) (nf2 : Nat → Int32) (nf3 : Nat → Int32) (nf4 : Nat → Int32) (nf5 : Nat → Int32) (nf6 : Nat → Int32) (nf7 : Nat → Int32) (fa : Nat → Int32) (o : Nat) (i : Int32) (to : Int32) (n0 : Nat) (s0 : Nat) (im : Nat) (iz : Nat) (rw : Nat) (t0 : Nat) (u0 : Nat) (h0 : Nat) (y0 : Nat) (sv : Value) (nn : Nat) (nm : Int32) (nl : Int32) (no : Int32) (nu : Int32) (n1 : Nat) (n2 : Nat) (n3 : Nat) (n4 : Nat) (n5 : Nat) (n6 : Nat) (n7 : Nat) (n8 : Nat) (n9 : Nat) (n10 : Nat) (nf9 : Nat → Int32) : Option Value → va_W → Prop := fun rr ww => (∃ (z : Int32), rr = some (.int z) ∧ ww = [(o, .inr (7, [.ref n0, .ref s0, .ref im, .ref iz, .ref rw, .ref t0, .ref u0, .ref h0, .ref y0, sv])), (n0, .inr (5, [.int (nI nn), .int nm, .int nl, .int no, .int nu, .ref n1, .ref n2, .ref n3, .ref n4, .ref n5, .ref n6, .ref n7, .ref n8, .ref n9, .ref n10])), (n9, .inl (T 0, 10, .inl nf9))] ∧ z = spA nn fa i to)
set_option maxHeartbeats 4000000 in
set_option maxRecDepth 100000 in
theorem x_steps_f (l : Launch) (D : va_G) (T : Nat → ClassId) (nf1 : Nat → Int32) (nf2 : Nat → Int32) (nf3 : Nat → Int32) (nf4 : Nat → Int32) (nf5 : Nat → Int32) (nf6 : Nat → Int32) (nf7 : Nat → Int32) (fa : Nat → Int32) (o : Nat) (i : Int32) (to : Int32) (n0 : Nat) (s0 : Nat) (im : Nat) (iz : Nat) (rw : Nat) (t0 : Nat) (u0 : Nat) (h0 : Nat) (y0 : Nat) (sv : Value) (nn : Nat) (nm : Int32) (nl : Int32) (no : Int32) (nu : Int32) (n1 : Nat) (n2 : Nat) (n3 : Nat) (n4 : Nat) (n5 : Nat) (n6 : Nat) (n7 : Nat) (n8 : Nat) (n9 : Nat) (n10 : Nat) (nf9 : Nat → Int32) (h_n : nn ≤ 10) (h_t : ∀ i, i < nn → bd (nf9 i) nn) (h_sr : SR nn nm nl no nf1 nf2 nf3 nf4 nf5 nf6 nf7 nf9 fa) (h_a : MI nn fa) : Ct l yX7_steps cX7_steps 5 (some .int) 1 0 0 D T [.ref o, .int i, .int to] [(o, .inr (7, [.ref n0, .ref s0, .ref im, .ref iz, .ref rw, .ref t0, .ref u0, .ref h0, .ref y0, sv])), (n0, .inr (5, [.int (nI nn), .int nm, .int nl, .int no, .int nu, .ref n1, .ref n2, .ref n3, .ref n4, .ref n5, .ref n6, .ref n7, .ref n8, .ref n9, .ref n10])), (n9, .inl (T 0, 10, .inl nf9))] (q_x_steps_f T nf1 nf2 nf3 nf4 nf5 nf6 nf7 fa o i to n0 s0 im iz rw t0 u0 h0 y0 sv nn nm nl no nu n1 n2 n3 n4 n5 n6 n7 n8 n9 n10 nf9) := by
  refine Ct.of (cc := cX7_steps) (maxL := 5) (ret := (some .int)) (by decide) (Nat.le_of_ble_eq_true rfl) ?_
  intro p e s m args below meth c A ls hC hnm V hl
  obtain ⟨hx, hb, hr, hml, hown, hts, hlocks⟩ := id hC
  generalize hH : s.heap = H at V ⊢
  clear hH
  have hl : lv_has ls 5 [(0, .ref o), (1, .int i), (2, .int to)] := hl
  generalize hlo : ([] : List Loc) = locs at V ⊢
  clear hlo
  refine lv_aload_n hx hb dX7_steps_0 rfl (lv_at hl 0 rfl) ?_
  refine g_get hC V (ci := 7) uwX7 0 rfl rfl 0 (by decide) w_249 rfl rfl dX7_steps_1 ?_
  refine lv_iload_n hx hb dX7_steps_4 rfl (lv_at hl 1 rfl) ?_
  refine g_callVU (nA := 1) hC V hl.1 (s_isSmith l D T n0 i nn nm nl no nu n1 n2 n3 n4 n5 n6 n7 n8 n9 n10 (by first | assumption | omega)) w_425 w_426 w_427 w_3 w_428 (by decide +kernel) rfl ⟨(Nat.le_of_ble_eq_true rfl), (Nat.le_of_ble_eq_true rfl)⟩ 1 (ci := 5) rfl rfl [1] rfl rfl (Nat.le_of_ble_eq_true rfl) dX7_steps_5 ⟨(Nat.le_of_ble_eq_true rfl), (Nat.le_of_ble_eq_true rfl)⟩ rfl (fun r w1 H locs hQ V => ?_)
  rcases hQ with ⟨j_1, rfl, rfl, f_2, f_3⟩ | ⟨rfl, rfl, f_4⟩
  · have V : gW D T A s [(o, .inr (7, [.ref n0, .ref s0, .ref im, .ref iz, .ref rw, .ref t0, .ref u0, .ref h0, .ref y0, sv])), (n0, .inr (5, [.int (nI nn), .int nm, .int nl, .int no, .int nu, .ref n1, .ref n2, .ref n3, .ref n4, .ref n5, .ref n6, .ref n7, .ref n8, .ref n9, .ref n10])), (n9, .inl (T 0, 10, .inl nf9))] H locs := V _ [1] rfl rfl rfl (by decide +kernel) rfl
    show W p l e _ s m args below meth c H locs _ _ _ (F0 m 8 ls [.int (nI 1)])
    rw [f_2] at hl
    refine lv_if_eq (tgt := 22) hx hb dX7_steps_8 (by decide) (fun c => absurd (show (nI 1) = 0 from c) (by decide +kernel)) (fun _ => ?_)
    refine lv_aload_n hx hb dX7_steps_11 rfl (lv_at hl 0 rfl) ?_
    refine g_get hC V (ci := 7) uwX7 0 rfl rfl 0 (by decide) w_249 rfl rfl dX7_steps_12 ?_
    refine lv_iload_n hx hb dX7_steps_15 rfl (lv_at hl 2 rfl) ?_
    refine g_callVU (nA := 1) hC V hl.1 (s_isSmith l D T n0 to nn nm nl no nu n1 n2 n3 n4 n5 n6 n7 n8 n9 n10 (by first | assumption | omega)) w_425 w_426 w_427 w_3 w_428 (by decide +kernel) rfl ⟨(Nat.le_of_ble_eq_true rfl), (Nat.le_of_ble_eq_true rfl)⟩ 1 (ci := 5) rfl rfl [1] rfl rfl (Nat.le_of_ble_eq_true rfl) dX7_steps_16 ⟨(Nat.le_of_ble_eq_true rfl), (Nat.le_of_ble_eq_true rfl)⟩ rfl (fun r w1 H locs hQ V => ?_)
    rcases hQ with ⟨j_5, rfl, rfl, f_6, f_7⟩ | ⟨rfl, rfl, f_8⟩
    · have V : gW D T A s [(o, .inr (7, [.ref n0, .ref s0, .ref im, .ref iz, .ref rw, .ref t0, .ref u0, .ref h0, .ref y0, sv])), (n0, .inr (5, [.int (nI nn), .int nm, .int nl, .int no, .int nu, .ref n1, .ref n2, .ref n3, .ref n4, .ref n5, .ref n6, .ref n7, .ref n8, .ref n9, .ref n10])), (n9, .inl (T 0, 10, .inl nf9))] H locs := V _ [1] rfl rfl rfl (by decide +kernel) rfl
      show W p l e _ s m args below meth c H locs _ _ _ (F0 m 19 ls [.int (nI 1)])
      rw [f_6] at hl
      refine lv_if_ne (tgt := 25) hx hb dX7_steps_19 (by decide) (fun _ => ?_) (fun c => absurd (show (nI 1) = 0 from c) (by decide +kernel))
      refine lv_iload_n hx hb dX7_steps_25 rfl (lv_at hl 1 rfl) ?_
      refine lv_istore_n (lv' := [(3, .int (nI j_1)), (0, .ref o), (1, .int (nI j_1)), (2, .int (nI j_5))]) hx hb dX7_steps_26 rfl hl (by decide) rfl (fun ls hl => ?_)
      refine lv_iconst (v := (nI 0)) hx hb dX7_steps_27 (by decide +kernel) ?_
      refine lv_istore (lv' := [(4, .int (nI 0)), (3, .int (nI j_1)), (0, .ref o), (1, .int (nI j_1)), (2, .int (nI j_5))]) hx hb dX7_steps_28 hl (by decide) rfl (fun ls hl => ?_)
      have L_9 : ∀ (fu : Nat) (k30 : Nat) (at_ : Nat), k30 ≤ nn → (at_ = ledF fa j_1 k30 ∧ at_ < nn) → spG fa j_1 j_5 nn 0 = spG fa j_1 j_5 (nn - k30) k30 → nn - k30 < fu → ∀ (H : Heap) (locs : List Loc) (ls : Array Slot), gW D T A s [(o, .inr (7, [.ref n0, .ref s0, .ref im, .ref iz, .ref rw, .ref t0, .ref u0, .ref h0, .ref y0, sv])), (n0, .inr (5, [.int (nI nn), .int nm, .int nl, .int no, .int nu, .ref n1, .ref n2, .ref n3, .ref n4, .ref n5, .ref n6, .ref n7, .ref n8, .ref n9, .ref n10])), (n9, .inl (T 0, 10, .inl nf9))] H locs → lv_has ls 5 [(4, .int (nI k30)), (3, .int (nI at_)), (0, .ref o), (1, .int (nI j_1)), (2, .int (nI j_5))] → W p l e (rmD 1 0 0) s m args below meth c H locs 0 0 (MQ below (gQ D A (q_x_steps_f T nf1 nf2 nf3 nf4 nf5 nf6 nf7 fa o i to n0 s0 im iz rw t0 u0 h0 y0 sv nn nm nl no nu n1 n2 n3 n4 n5 n6 n7 n8 n9 n10 nf9)) args s 0 0 A) (F0 m 30 ls []) := by
        intro fu_30
        induction fu_30 with
        | zero => intro k30 at_ hk30 hat hE hmu; exact absurd hmu (Nat.not_lt_zero _)
        | succ fu_30 ih_30 =>
          intro k30 at_ hk30 hat hE hmu_30 H locs ls V hl
          refine lv_iload hx hb dX7_steps_30 (lv_at hl 0 rfl) ?_
          refine lv_aload_n hx hb dX7_steps_32 rfl (lv_at hl 2 rfl) ?_
          refine g_get hC V (ci := 7) uwX7 0 rfl rfl 0 (by decide) w_249 rfl rfl dX7_steps_33 ?_
          refine g_get hC V (ci := 5) uwX5 1 rfl rfl 0 (by decide) w_38 rfl rfl dX7_steps_36 ?_
          refine lv_icmp_ge (tgt := 66) hx hb dX7_steps_39 (by decide) (fun c_10 => ?_) (fun c_10 => ?_)
          · skip
            have c_10 := b_le (by omega) (by omega) c_10
            refine lv_iconst (v := (-1)) hx hb dX7_steps_66 (by decide +kernel) ?_
            exact g_iret (Qr := (q_x_steps_f T nf1 nf2 nf3 nf4 nf5 nf6 nf7 fa o i to n0 s0 im iz rw t0 u0 h0 y0 sv nn nm nl no nu n1 n2 n3 n4 n5 n6 n7 n8 n9 n10 nf9)) hC V ⟨(Nat.le_of_ble_eq_true rfl), (Nat.le_of_ble_eq_true rfl)⟩ ⟨(-1), rfl, rfl, (spA_y h_n f_2 f_3 f_6 f_7 (hE.trans (sp_e (by omega))))⟩ dX7_steps_67
          · skip
            have c_10 := b_nle (by omega) (by omega) c_10
            refine lv_iload_n hx hb dX7_steps_42 rfl (lv_at hl 1 rfl) ?_
            refine lv_iload_n hx hb dX7_steps_43 rfl (lv_at hl 4 rfl) ?_
            refine lv_icmp_ne (tgt := 50) hx hb dX7_steps_44 (by decide) (fun c_11 => ?_) (fun c_11 => ?_)
            · skip
              have c_11 := b_ne (by omega) (by omega) c_11
              have hne : ledF fa j_1 k30 ≠ j_5 := fun q => c_11 (hat.1.trans q)
              refine lv_aload_n hx hb dX7_steps_50 rfl (lv_at hl 2 rfl) ?_
              refine g_get hC V (ci := 7) uwX7 0 rfl rfl 0 (by decide) w_249 rfl rfl dX7_steps_51 ?_
              refine g_get hC V (ci := 5) uwX5 1 rfl rfl 13 (by decide) w_84 rfl rfl dX7_steps_54 ?_
              refine lv_iload_n hx hb dX7_steps_57 rfl (lv_at hl 1 rfl) ?_
              obtain ⟨j_12, hj_12, ej_12⟩ := bd_ex (h_t at_ (by omega))
              refine g_iald hC V 2 rfl (vp_in_nI (by omega) (by omega)) (v := (nI j_12)) (by rw [nI_clamp (by omega)]; exact ej_12) dX7_steps_58 ?_
              refine lv_istore_n (lv' := [(3, .int (nI j_12)), (4, .int (nI k30)), (0, .ref o), (1, .int (nI j_1)), (2, .int (nI j_5))]) hx hb dX7_steps_59 rfl hl (by decide) rfl (fun ls hl => ?_)
              refine lv_iinc (v := (nI (k30 + 1))) (lv' := [(4, .int (nI (k30 + 1))), (3, .int (nI j_12)), (0, .ref o), (1, .int (nI j_1)), (2, .int (nI j_5))]) hx hb dX7_steps_60 hl (k := 1) rfl (nI_1 _) (by decide) rfl (fun ls hl => ?_)
              refine lv_goto (tgt := 30) hx hb dX7_steps_63 (by decide) ?_
              exact ih_30 (k30 + 1) j_12 (by omega) (led_nx hat ((h_sr.2.2.2.2 at_ hat.2).2.2.2.2.2.2.2.symm.trans ej_12) (by omega) h_n) (hE.trans (sp_s (by omega) hne)) (by omega) _ _ _ V (lv_sub hl [0, 1, 2, 3, 4] rfl)
            · skip
              have c_11 := b_eq (by omega) (by omega) c_11
              have heq : ledF fa j_1 k30 = j_5 := hat.1.symm.trans c_11
              refine lv_iload hx hb dX7_steps_47 (lv_at hl 0 rfl) ?_
              exact g_iret (Qr := (q_x_steps_f T nf1 nf2 nf3 nf4 nf5 nf6 nf7 fa o i to n0 s0 im iz rw t0 u0 h0 y0 sv nn nm nl no nu n1 n2 n3 n4 n5 n6 n7 n8 n9 n10 nf9)) hC V ⟨(Nat.le_of_ble_eq_true rfl), (Nat.le_of_ble_eq_true rfl)⟩ ⟨(nI k30), rfl, rfl, (spA_y h_n f_2 f_3 f_6 f_7 (hE.trans (sp_d (by omega) heq)))⟩ dX7_steps_49
      exact L_9 _ 0 j_1 (by omega) ⟨rfl, f_3⟩ rfl (Nat.lt_succ_self _) _ _ _ V (lv_sub hl [0, 1, 2, 3, 4] rfl)
    · have V : gW D T A s [(o, .inr (7, [.ref n0, .ref s0, .ref im, .ref iz, .ref rw, .ref t0, .ref u0, .ref h0, .ref y0, sv])), (n0, .inr (5, [.int (nI nn), .int nm, .int nl, .int no, .int nu, .ref n1, .ref n2, .ref n3, .ref n4, .ref n5, .ref n6, .ref n7, .ref n8, .ref n9, .ref n10])), (n9, .inl (T 0, 10, .inl nf9))] H locs := V _ [1] rfl rfl rfl (by decide +kernel) rfl
      show W p l e _ s m args below meth c H locs _ _ _ (F0 m 19 ls [.int (nI 0)])
      refine lv_if_ne (tgt := 25) hx hb dX7_steps_19 (by decide) (fun c => absurd (show (nI 0) = 0 by decide +kernel) c) (fun _ => ?_)
      refine lv_bipush (v := (-2)) hx hb dX7_steps_22 (by decide +kernel) ?_
      exact g_iret (Qr := (q_x_steps_f T nf1 nf2 nf3 nf4 nf5 nf6 nf7 fa o i to n0 s0 im iz rw t0 u0 h0 y0 sv nn nm nl no nu n1 n2 n3 n4 n5 n6 n7 n8 n9 n10 nf9)) hC V ⟨(Nat.le_of_ble_eq_true rfl), (Nat.le_of_ble_eq_true rfl)⟩ ⟨(-2), rfl, rfl, (spA_2 f_8)⟩ dX7_steps_24
  · have V : gW D T A s [(o, .inr (7, [.ref n0, .ref s0, .ref im, .ref iz, .ref rw, .ref t0, .ref u0, .ref h0, .ref y0, sv])), (n0, .inr (5, [.int (nI nn), .int nm, .int nl, .int no, .int nu, .ref n1, .ref n2, .ref n3, .ref n4, .ref n5, .ref n6, .ref n7, .ref n8, .ref n9, .ref n10])), (n9, .inl (T 0, 10, .inl nf9))] H locs := V _ [1] rfl rfl rfl (by decide +kernel) rfl
    show W p l e _ s m args below meth c H locs _ _ _ (F0 m 8 ls [.int (nI 0)])
    refine lv_if_eq (tgt := 22) hx hb dX7_steps_8 (by decide) (fun _ => ?_) (fun c => absurd (show (nI 0) = 0 by decide +kernel) c)
    refine lv_bipush (v := (-2)) hx hb dX7_steps_22 (by decide +kernel) ?_
    exact g_iret (Qr := (q_x_steps_f T nf1 nf2 nf3 nf4 nf5 nf6 nf7 fa o i to n0 s0 im iz rw t0 u0 h0 y0 sv nn nm nl no nu n1 n2 n3 n4 n5 n6 n7 n8 n9 n10 nf9)) hC V ⟨(Nat.le_of_ble_eq_true rfl), (Nat.le_of_ble_eq_true rfl)⟩ ⟨(-2), rfl, rfl, (spA_1 f_4)⟩ dX7_steps_24

def q_m_steps_f (T : Nat → ClassId) (n : Nat) (o : Nat) (i : Int32) (to : Int32) (w0 : Int32) (g1 : Nat) (g2 : Nat) (g3 : Nat) (g4 : Nat) (tp : Nat) (w6 : Int32) (w7 : Int32) (w8 : Int32) (w9 : Int32) (w10 : Int32) (w11 : Int32) (w12 : Int32) (w13 : Int32) (w14 : Int32) (g15 : Nat) (w16 : Int32) (g17 : Nat) (w18 : Int32) (w19 : Int32) (g20 : Nat) (w21 : Int32) (g22 : Nat) (g23 : Nat) (g24 : Nat) (w25 : Int32) (w26 : Int32) (w27 : Int32) (g28 : Nat) (g29 : Nat) (w30 : Int32) (g31 : Nat) (g32 : Nat) (g33 : Nat) (fa : Nat → Int32) : Option Value → va_W → Prop := fun rr ww => (∃ (z : Int32), rr = some (.int z) ∧ ww = [(o, .inr (8, [.int (nI 0), .ref g1, .ref g2, .ref g3, .ref g4, .int (nI tp), .int w6, .int w7, .int w8, .int w9, .int w10, .int w11, .int w12, .int w13, .int w14, .ref g15, .int w16, .ref g17, .int w18, .int w19, .ref g20, .int w21, .ref g22, .ref g23, .ref g24, .int w25, .int w26, .int w27, .ref g28, .ref g29, .int w30, .ref g31, .ref g32, .ref g33])), (g1, .inl (T 0, 282, .inl fa))] ∧ z = spA n fa i to)
set_option maxHeartbeats 4000000 in
set_option maxRecDepth 100000 in
theorem m_steps_f (l : Launch) (D : va_G) (T : Nat → ClassId) (n : Nat) (o : Nat) (i : Int32) (to : Int32) (w0 : Int32) (g1 : Nat) (g2 : Nat) (g3 : Nat) (g4 : Nat) (tp : Nat) (w6 : Int32) (w7 : Int32) (w8 : Int32) (w9 : Int32) (w10 : Int32) (w11 : Int32) (w12 : Int32) (w13 : Int32) (w14 : Int32) (g15 : Nat) (w16 : Int32) (g17 : Nat) (w18 : Int32) (w19 : Int32) (g20 : Nat) (w21 : Int32) (g22 : Nat) (g23 : Nat) (g24 : Nat) (w25 : Int32) (w26 : Int32) (w27 : Int32) (g28 : Nat) (g29 : Nat) (w30 : Int32) (g31 : Nat) (g32 : Nat) (g33 : Nat) (fa : Nat → Int32) (h_a : MI n fa) : Ct l yX8_steps cX8_steps 4 (some .int) 2 0 0 D T [.ref o, .int i, .int to] [(o, .inr (8, [.int w0, .ref g1, .ref g2, .ref g3, .ref g4, .int (nI tp), .int w6, .int w7, .int w8, .int w9, .int w10, .int w11, .int w12, .int w13, .int w14, .ref g15, .int w16, .ref g17, .int w18, .int w19, .ref g20, .int w21, .ref g22, .ref g23, .ref g24, .int w25, .int w26, .int w27, .ref g28, .ref g29, .int w30, .ref g31, .ref g32, .ref g33])), (g1, .inl (T 0, 282, .inl fa))] (q_m_steps_f T n o i to w0 g1 g2 g3 g4 tp w6 w7 w8 w9 w10 w11 w12 w13 w14 g15 w16 g17 w18 w19 g20 w21 g22 g23 g24 w25 w26 w27 g28 g29 w30 g31 g32 g33 fa) := by
  refine Ct.of (cc := cX8_steps) (maxL := 4) (ret := (some .int)) (by decide) (Nat.le_of_ble_eq_true rfl) ?_
  intro p e s m args below meth c A ls hC hnm V hl
  obtain ⟨hx, hb, hr, hml, hown, hts, hlocks⟩ := id hC
  generalize hH : s.heap = H at V ⊢
  clear hH
  have hl : lv_has ls 4 [(0, .ref o), (1, .int i), (2, .int to)] := hl
  generalize hlo : ([] : List Loc) = locs at V ⊢
  clear hlo
  have ms0 := ms_rf h_a
  have hn10 := h_a.1
  refine lv_aload_n hx hb dX8_steps_0 rfl (lv_at hl 0 rfl) ?_
  refine lv_iconst (v := (nI 0)) hx hb dX8_steps_1 (by decide +kernel) ?_
  refine g_put hC V (ci := 8) uwX8 tyX8 tyX8_ok nmX8 0 rfl rfl 0 (by decide) w_912 rfl rfl rfl rfl (Nat.le_of_ble_eq_true rfl) (ws' := [(o, .inr (8, [.int (nI 0), .ref g1, .ref g2, .ref g3, .ref g4, .int (nI tp), .int w6, .int w7, .int w8, .int w9, .int w10, .int w11, .int w12, .int w13, .int w14, .ref g15, .int w16, .ref g17, .int w18, .int w19, .ref g20, .int w21, .ref g22, .ref g23, .ref g24, .int w25, .int w26, .int w27, .ref g28, .ref g29, .int w30, .ref g31, .ref g32, .ref g33])), (g1, .inl (T 0, 282, .inl fa))]) rfl dX8_steps_2 (fun H locs V => ?_)
  refine lv_aload_n hx hb dX8_steps_5 rfl (lv_at hl 0 rfl) ?_
  refine lv_iload_n hx hb dX8_steps_6 rfl (lv_at hl 1 rfl) ?_
  refine g_callV (wr := []) (nA := 1) hC V hl.1 (m_isSmith_f l D T n o i (nI 0) g1 g2 g3 g4 tp w6 w7 w8 w9 w10 w11 w12 w13 w14 g15 w16 g17 w18 w19 g20 w21 g22 g23 g24 w25 w26 w27 g28 g29 w30 g31 g32 g33 fa h_a) w_1083 w_1085 w_s46 w_9 w_1086 (by decide +kernel) rfl ⟨(Nat.le_of_ble_eq_true rfl), (Nat.le_of_ble_eq_true rfl)⟩ 0 (ci := 8) rfl rfl [0, 1] [] rfl rfl rfl rfl (by decide) (Nat.le_of_ble_eq_true rfl) dX8_steps_7 ⟨(Nat.le_of_ble_eq_true rfl), (Nat.le_of_ble_eq_true rfl)⟩ rfl (fun r w1 H locs hQ V => ?_)
  rcases hQ with ⟨j_1, rfl, rfl, f_2, f_3⟩ | ⟨rfl, rfl, f_4⟩
  · have V : gW D T A s [(o, .inr (8, [.int (nI 0), .ref g1, .ref g2, .ref g3, .ref g4, .int (nI tp), .int w6, .int w7, .int w8, .int w9, .int w10, .int w11, .int w12, .int w13, .int w14, .ref g15, .int w16, .ref g17, .int w18, .int w19, .ref g20, .int w21, .ref g22, .ref g23, .ref g24, .int w25, .int w26, .int w27, .ref g28, .ref g29, .int w30, .ref g31, .ref g32, .ref g33])), (g1, .inl (T 0, 282, .inl fa))] H locs := V
    show W p l e _ s m args below meth c H locs _ _ _ (F0 m 10 ls [.int (nI 1)])
    rw [f_2] at hl
    refine lv_if_eq (tgt := 21) hx hb dX8_steps_10 (by decide) (fun c => absurd (show (nI 1) = 0 from c) (by decide +kernel)) (fun _ => ?_)
    refine lv_aload_n hx hb dX8_steps_13 rfl (lv_at hl 0 rfl) ?_
    refine lv_iload_n hx hb dX8_steps_14 rfl (lv_at hl 2 rfl) ?_
    refine g_callV (wr := []) (nA := 1) hC V hl.1 (m_isSmith_f l D T n o to (nI 0) g1 g2 g3 g4 tp w6 w7 w8 w9 w10 w11 w12 w13 w14 g15 w16 g17 w18 w19 g20 w21 g22 g23 g24 w25 w26 w27 g28 g29 w30 g31 g32 g33 fa h_a) w_1083 w_1085 w_s46 w_9 w_1086 (by decide +kernel) rfl ⟨(Nat.le_of_ble_eq_true rfl), (Nat.le_of_ble_eq_true rfl)⟩ 0 (ci := 8) rfl rfl [0, 1] [] rfl rfl rfl rfl (by decide) (Nat.le_of_ble_eq_true rfl) dX8_steps_15 ⟨(Nat.le_of_ble_eq_true rfl), (Nat.le_of_ble_eq_true rfl)⟩ rfl (fun r w1 H locs hQ V => ?_)
    rcases hQ with ⟨j_5, rfl, rfl, f_6, f_7⟩ | ⟨rfl, rfl, f_8⟩
    · have V : gW D T A s [(o, .inr (8, [.int (nI 0), .ref g1, .ref g2, .ref g3, .ref g4, .int (nI tp), .int w6, .int w7, .int w8, .int w9, .int w10, .int w11, .int w12, .int w13, .int w14, .ref g15, .int w16, .ref g17, .int w18, .int w19, .ref g20, .int w21, .ref g22, .ref g23, .ref g24, .int w25, .int w26, .int w27, .ref g28, .ref g29, .int w30, .ref g31, .ref g32, .ref g33])), (g1, .inl (T 0, 282, .inl fa))] H locs := V
      show W p l e _ s m args below meth c H locs _ _ _ (F0 m 18 ls [.int (nI 1)])
      rw [f_6] at hl
      refine lv_if_ne (tgt := 24) hx hb dX8_steps_18 (by decide) (fun _ => ?_) (fun c => absurd (show (nI 1) = 0 from c) (by decide +kernel))
      refine lv_iconst (v := (nI 0)) hx hb dX8_steps_24 (by decide +kernel) ?_
      refine lv_istore_n (lv' := [(3, .int (nI 0)), (0, .ref o), (1, .int (nI j_1)), (2, .int (nI j_5))]) hx hb dX8_steps_25 rfl hl (by decide) rfl (fun ls hl => ?_)
      have L_9 : ∀ (fu : Nat) (k26 : Nat), k26 ≤ 10 → spG fa j_1 j_5 10 0 = spG fa j_1 j_5 (10 - k26) k26 → 10 - k26 < fu → ∀ (H : Heap) (locs : List Loc) (ls : Array Slot), gW D T A s [(o, .inr (8, [.int (nI 0), .ref g1, .ref g2, .ref g3, .ref g4, .int (nI tp), .int w6, .int w7, .int w8, .int w9, .int w10, .int w11, .int w12, .int w13, .int w14, .ref g15, .int w16, .ref g17, .int w18, .int w19, .ref g20, .int w21, .ref g22, .ref g23, .ref g24, .int w25, .int w26, .int w27, .ref g28, .ref g29, .int w30, .ref g31, .ref g32, .ref g33])), (g1, .inl (T 0, 282, .inl fa))] H locs → lv_has ls 4 [(3, .int (nI k26)), (0, .ref o), (1, .int (nI j_1)), (2, .int (nI j_5))] → W p l e (rmD 2 0 0) s m args below meth c H locs 0 0 (MQ below (gQ D A (q_m_steps_f T n o i to w0 g1 g2 g3 g4 tp w6 w7 w8 w9 w10 w11 w12 w13 w14 g15 w16 g17 w18 w19 g20 w21 g22 g23 g24 w25 w26 w27 g28 g29 w30 g31 g32 g33 fa)) args s 0 0 A) (F0 m 26 ls []) := by
        intro fu_26
        induction fu_26 with
        | zero => intro k26 hk26 hE hmu; exact absurd hmu (Nat.not_lt_zero _)
        | succ fu_26 ih_26 =>
          intro k26 hk26 hE hmu_26 H locs ls V hl
          refine lv_iload_n hx hb dX8_steps_26 rfl (lv_at hl 0 rfl) ?_
          refine lv_bipush (v := (nI 10)) hx hb dX8_steps_27 (by decide +kernel) ?_
          refine lv_icmp_ge (tgt := 50) hx hb dX8_steps_29 (by decide) (fun c_10 => ?_) (fun c_10 => ?_)
          · skip
            have c_10 := b_le (by omega) (by omega) c_10
            refine lv_iconst (v := (-1)) hx hb dX8_steps_50 (by decide +kernel) ?_
            exact g_iret (Qr := (q_m_steps_f T n o i to w0 g1 g2 g3 g4 tp w6 w7 w8 w9 w10 w11 w12 w13 w14 g15 w16 g17 w18 w19 g20 w21 g22 g23 g24 w25 w26 w27 g28 g29 w30 g31 g32 g33 fa)) hC V ⟨(Nat.le_of_ble_eq_true rfl), (Nat.le_of_ble_eq_true rfl)⟩ ⟨(-1), rfl, rfl, (spA_y hn10 f_2 f_3 f_6 f_7 ((sp_eq h_a f_3).symm.trans (hE.trans (sp_e (by omega)))))⟩ dX8_steps_51
          · skip
            have c_10 := b_nle (by omega) (by omega) c_10
            refine lv_aload_n hx hb dX8_steps_32 rfl (lv_at hl 1 rfl) ?_
            refine lv_iload_n hx hb dX8_steps_33 rfl (lv_at hl 2 rfl) ?_
            refine lv_iload_n hx hb dX8_steps_34 rfl (lv_at hl 0 rfl) ?_
            refine g_callV (wr := []) (nA := 2) hC V hl.1 (m_led l D T n o j_1 k26 (nI 0) g1 g2 g3 g4 tp w6 w7 w8 w9 w10 w11 w12 w13 w14 g15 w16 g17 w18 w19 g20 w21 g22 g23 g24 w25 w26 w27 g28 g29 w30 g31 g32 g33 fa h_a (by first | assumption | omega) (by first | assumption | omega)) w_1204 w_1206 w_s62 w_9 w_1207 (by decide +kernel) rfl ⟨(Nat.le_of_ble_eq_true rfl), (Nat.le_of_ble_eq_true rfl)⟩ 0 (ci := 8) rfl rfl [0, 1] [] rfl rfl rfl rfl (by decide) (Nat.le_of_ble_eq_true rfl) dX8_steps_35 ⟨(Nat.le_of_ble_eq_true rfl), (Nat.le_of_ble_eq_true rfl)⟩ rfl (fun r w1 H locs hQ V => ?_)
            obtain ⟨r_11, rfl, rfl, f_12⟩ := hQ
            have V : gW D T A s [(o, .inr (8, [.int (nI 0), .ref g1, .ref g2, .ref g3, .ref g4, .int (nI tp), .int w6, .int w7, .int w8, .int w9, .int w10, .int w11, .int w12, .int w13, .int w14, .ref g15, .int w16, .ref g17, .int w18, .int w19, .ref g20, .int w21, .ref g22, .ref g23, .ref g24, .int w25, .int w26, .int w27, .ref g28, .ref g29, .int w30, .ref g31, .ref g32, .ref g33])), (g1, .inl (T 0, 282, .inl fa))] H locs := V
            show W p l e _ s m args below meth c H locs _ _ _ (F0 m 38 ls [.int (nI r_11)])
            refine lv_iload_n hx hb dX8_steps_38 rfl (lv_at hl 3 rfl) ?_
            refine lv_icmp_ne (tgt := 44) hx hb dX8_steps_39 (by decide) (fun c_13 => ?_) (fun c_13 => ?_)
            · skip
              have c_13 := b_ne (by omega) (by omega) c_13
              have hne : ledF fa j_1 k26 ≠ j_5 := fun q => c_13 (f_12.1.trans q)
              refine lv_iinc (v := (nI (k26 + 1))) (lv' := [(3, .int (nI (k26 + 1))), (0, .ref o), (1, .int (nI j_1)), (2, .int (nI j_5))]) hx hb dX8_steps_44 hl (k := 0) rfl (nI_1 _) (by decide) rfl (fun ls hl => ?_)
              refine lv_goto (tgt := 26) hx hb dX8_steps_47 (by decide) ?_
              exact ih_26 (k26 + 1) (by omega) (hE.trans (sp_s (by omega) hne)) (by omega) _ _ _ V (lv_sub hl [0, 1, 2, 3] rfl)
            · skip
              have c_13 := b_eq (by omega) (by omega) c_13
              have heq : ledF fa j_1 k26 = j_5 := f_12.1.symm.trans c_13
              refine lv_iload_n hx hb dX8_steps_42 rfl (lv_at hl 0 rfl) ?_
              exact g_iret (Qr := (q_m_steps_f T n o i to w0 g1 g2 g3 g4 tp w6 w7 w8 w9 w10 w11 w12 w13 w14 g15 w16 g17 w18 w19 g20 w21 g22 g23 g24 w25 w26 w27 g28 g29 w30 g31 g32 g33 fa)) hC V ⟨(Nat.le_of_ble_eq_true rfl), (Nat.le_of_ble_eq_true rfl)⟩ ⟨(nI k26), rfl, rfl, (spA_y hn10 f_2 f_3 f_6 f_7 ((sp_eq h_a f_3).symm.trans (hE.trans (sp_d (by omega) heq))))⟩ dX8_steps_43
      exact L_9 _ 0 (by omega) rfl (Nat.lt_succ_self _) _ _ _ V (lv_sub hl [0, 1, 2, 3] rfl)
    · have V : gW D T A s [(o, .inr (8, [.int (nI 0), .ref g1, .ref g2, .ref g3, .ref g4, .int (nI tp), .int w6, .int w7, .int w8, .int w9, .int w10, .int w11, .int w12, .int w13, .int w14, .ref g15, .int w16, .ref g17, .int w18, .int w19, .ref g20, .int w21, .ref g22, .ref g23, .ref g24, .int w25, .int w26, .int w27, .ref g28, .ref g29, .int w30, .ref g31, .ref g32, .ref g33])), (g1, .inl (T 0, 282, .inl fa))] H locs := V
      show W p l e _ s m args below meth c H locs _ _ _ (F0 m 18 ls [.int (nI 0)])
      refine lv_if_ne (tgt := 24) hx hb dX8_steps_18 (by decide) (fun c => absurd (show (nI 0) = 0 by decide +kernel) c) (fun _ => ?_)
      refine lv_bipush (v := (-2)) hx hb dX8_steps_21 (by decide +kernel) ?_
      exact g_iret (Qr := (q_m_steps_f T n o i to w0 g1 g2 g3 g4 tp w6 w7 w8 w9 w10 w11 w12 w13 w14 g15 w16 g17 w18 w19 g20 w21 g22 g23 g24 w25 w26 w27 g28 g29 w30 g31 g32 g33 fa)) hC V ⟨(Nat.le_of_ble_eq_true rfl), (Nat.le_of_ble_eq_true rfl)⟩ ⟨(-2), rfl, rfl, (spA_2 f_8)⟩ dX8_steps_23
  · have V : gW D T A s [(o, .inr (8, [.int (nI 0), .ref g1, .ref g2, .ref g3, .ref g4, .int (nI tp), .int w6, .int w7, .int w8, .int w9, .int w10, .int w11, .int w12, .int w13, .int w14, .ref g15, .int w16, .ref g17, .int w18, .int w19, .ref g20, .int w21, .ref g22, .ref g23, .ref g24, .int w25, .int w26, .int w27, .ref g28, .ref g29, .int w30, .ref g31, .ref g32, .ref g33])), (g1, .inl (T 0, 282, .inl fa))] H locs := V
    show W p l e _ s m args below meth c H locs _ _ _ (F0 m 10 ls [.int (nI 0)])
    refine lv_if_eq (tgt := 21) hx hb dX8_steps_10 (by decide) (fun _ => ?_) (fun c => absurd (show (nI 0) = 0 by decide +kernel) c)
    refine lv_bipush (v := (-2)) hx hb dX8_steps_21 (by decide +kernel) ?_
    exact g_iret (Qr := (q_m_steps_f T n o i to w0 g1 g2 g3 g4 tp w6 w7 w8 w9 w10 w11 w12 w13 w14 g15 w16 g17 w18 w19 g20 w21 g22 g23 g24 w25 w26 w27 g28 g29 w30 g31 g32 g33 fa)) hC V ⟨(Nat.le_of_ble_eq_true rfl), (Nat.le_of_ble_eq_true rfl)⟩ ⟨(-2), rfl, rfl, (spA_1 f_4)⟩ dX8_steps_23
