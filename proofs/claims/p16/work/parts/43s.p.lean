/-! what calls do to THE STREET, over the reference's numbers -/
abbrev smP (n : Nat) (i : Int32) : Prop := ¬ (i < 0 ∨ nI n ≤ i)
theorem smP_of {n j : Nat} {i : Int32} (e : i = nI j) (hj : j < n) (hn : n ≤ 10) : smP n i := by
  subst e
  rintro (h | h)
  · exact absurd h (nI_pos (by omega))
  · have := b_le (by omega) (by omega) h; omega
def ropeA (n : Nat) (f : Nat → Int32) (i to : Int32) : Int32 := if smP n i ∧ smP n to then f (84 + i.toNatClampNeg) else -2
def ropeF (n : Nat) (f : Nat → Int32) (i to : Int32) : Nat → Int32 := if smP n i ∧ smP n to then upd f (84 + i.toNatClampNeg) to else f
theorem rp_1 {n : Nat} {f : Nat → Int32} {i to : Int32} (h : i < 0 ∨ nI n ≤ i) : -2 = ropeA n f i to ∧ f = ropeF n f i to := by
  unfold ropeA ropeF; rw [if_neg (fun q => q.1 h), if_neg (fun q => q.1 h)]; exact ⟨rfl, rfl⟩
theorem rp_2 {n : Nat} {f : Nat → Int32} {i to : Int32} (h : to < 0 ∨ nI n ≤ to) : -2 = ropeA n f i to ∧ f = ropeF n f i to := by
  unfold ropeA ropeF; rw [if_neg (fun q => q.2 h), if_neg (fun q => q.2 h)]; exact ⟨rfl, rfl⟩
theorem rp_y {n j k : Nat} {f : Nat → Int32} {i to : Int32} (hn : n ≤ 10) (ei : i = nI j) (hj : j < n) (et : to = nI k) (hk : k < n) : f (84 + j) = ropeA n f i to ∧ upd f (84 + j) (nI k) = ropeF n f i to := by
  unfold ropeA ropeF
  rw [if_pos ⟨smP_of ei hj hn, smP_of et hk hn⟩, if_pos ⟨smP_of ei hj hn, smP_of et hk hn⟩, ei, et, nI_clamp (by omega)]
  exact ⟨rfl, rfl⟩
def armA (n : Nat) (f : Nat → Int32) (i b : Int32) : Int32 := if smP n i then (if b < nI 0 ∨ nI 60 < b then -3 else f (4 + i.toNatClampNeg)) else -2
def armF (n : Nat) (f : Nat → Int32) (i b : Int32) : Nat → Int32 := if smP n i ∧ ¬ (b < nI 0 ∨ nI 60 < b) then upd f (4 + i.toNatClampNeg) b else f
theorem ar_1 {n : Nat} {f : Nat → Int32} {i b : Int32} (h : i < 0 ∨ nI n ≤ i) : -2 = armA n f i b ∧ f = armF n f i b := by
  unfold armA armF; rw [if_neg (fun q => q h), if_neg (fun q => q.1 h)]; exact ⟨rfl, rfl⟩
theorem ar_2 {n j : Nat} {f : Nat → Int32} {i b : Int32} (hn : n ≤ 10) (ei : i = nI j) (hj : j < n) (h : b < nI 0 ∨ nI 60 < b) : -3 = armA n f i b ∧ f = armF n f i b := by
  unfold armA armF; rw [if_pos (smP_of ei hj hn), if_pos h, if_neg (fun q => q.2 h)]; exact ⟨rfl, rfl⟩
theorem ar_y {n j : Nat} {f : Nat → Int32} {i b : Int32} (hn : n ≤ 10) (ei : i = nI j) (hj : j < n) (h1 : ¬ b < nI 0) (h2 : ¬ nI 60 < b) : f (4 + j) = armA n f i b ∧ upd f (4 + j) b = armF n f i b := by
  have h : ¬ (b < nI 0 ∨ nI 60 < b) := fun q => q.elim h1 h2
  unfold armA armF; rw [if_pos (smP_of ei hj hn), if_neg h, if_pos ⟨smP_of ei hj hn, h⟩, ei, nI_clamp (by omega)]; exact ⟨rfl, rfl⟩
def pieA (n : Nat) (f : Nat → Int32) (i b : Int32) : Int32 := if smP n i then (if b < nI 0 ∨ nI 20 < b then -3 else f (64 + i.toNatClampNeg)) else -2
def pieF (n : Nat) (f : Nat → Int32) (i b : Int32) : Nat → Int32 := if smP n i ∧ ¬ (b < nI 0 ∨ nI 20 < b) then upd (upd f (54 + i.toNatClampNeg) b) (64 + i.toNatClampNeg) (nI 0) else f
theorem pi_1 {n : Nat} {f : Nat → Int32} {i b : Int32} (h : i < 0 ∨ nI n ≤ i) : -2 = pieA n f i b ∧ f = pieF n f i b := by
  unfold pieA pieF; rw [if_neg (fun q => q h), if_neg (fun q => q.1 h)]; exact ⟨rfl, rfl⟩
theorem pi_2 {n j : Nat} {f : Nat → Int32} {i b : Int32} (hn : n ≤ 10) (ei : i = nI j) (hj : j < n) (h : b < nI 0 ∨ nI 20 < b) : -3 = pieA n f i b ∧ f = pieF n f i b := by
  unfold pieA pieF; rw [if_pos (smP_of ei hj hn), if_pos h, if_neg (fun q => q.2 h)]; exact ⟨rfl, rfl⟩
theorem pi_y {n j : Nat} {f : Nat → Int32} {i b : Int32} (hn : n ≤ 10) (ei : i = nI j) (hj : j < n) (h1 : ¬ b < nI 0) (h2 : ¬ nI 20 < b) : f (64 + j) = pieA n f i b ∧ upd (upd f (54 + j) b) (64 + j) (nI 0) = pieF n f i b := by
  have h : ¬ (b < nI 0 ∨ nI 20 < b) := fun q => q.elim h1 h2
  unfold pieA pieF; rw [if_pos (smP_of ei hj hn), if_neg h, if_pos ⟨smP_of ei hj hn, h⟩, ei, nI_clamp (by omega)]; exact ⟨rfl, rfl⟩
/-- one number of a SMITH is another -/
theorem SR_9 {n j : Nat} {m l o x : Int32} {f1 f2 f3 f4 f5 f6 f7 f9 fa : Nat → Int32} (hn : n ≤ 10) (h : SR n m l o f1 f2 f3 f4 f5 f6 f7 f9 fa) (hj : j < n) : SR n m l o f1 f2 f3 f4 f5 f6 f7 (upd f9 j x) (upd fa (84 + j) x) := by
  obtain ⟨a0, a1, a2, a3, a4⟩ := h
  refine ⟨by rw [up_other (by omega)]; exact a0, by rw [up_other (by omega)]; exact a1, by rw [up_other (by omega)]; exact a2, by rw [up_other (by omega)]; exact a3, fun i hi => ?_⟩
  obtain ⟨q1, q2, q3, q4, q5, q6, q7, q9⟩ := a4 i hi
  rw [up_other (by omega), up_other (by omega), up_other (by omega), up_other (by omega), up_other (by omega), up_other (by omega), up_other (by omega)]
  refine ⟨q1, q2, q3, q4, q5, q6, q7, ?_⟩
  by_cases c : i = j
  · subst c; rw [up_same, up_same]
  · rw [up_other c, up_other (by omega)]; exact q9
theorem SR_1 {n j : Nat} {m l o x : Int32} {f1 f2 f3 f4 f5 f6 f7 f9 fa : Nat → Int32} (hn : n ≤ 10) (h : SR n m l o f1 f2 f3 f4 f5 f6 f7 f9 fa) (hj : j < n) : SR n m l o (upd f1 j x) f2 f3 f4 f5 f6 f7 f9 (upd fa (4 + j) x) := by
  obtain ⟨a0, a1, a2, a3, a4⟩ := h
  refine ⟨by rw [up_other (by omega)]; exact a0, by rw [up_other (by omega)]; exact a1, by rw [up_other (by omega)]; exact a2, by rw [up_other (by omega)]; exact a3, fun i hi => ?_⟩
  obtain ⟨q1, q2, q3, q4, q5, q6, q7, q9⟩ := a4 i hi
  refine ⟨?_, by rw [up_other (by omega)]; exact q2, by rw [up_other (by omega)]; exact q3, by rw [up_other (by omega)]; exact q4, by rw [up_other (by omega)]; exact q5, by rw [up_other (by omega)]; exact q6, by rw [up_other (by omega)]; exact q7, by rw [up_other (by omega)]; exact q9⟩
  by_cases c : i = j
  · subst c; rw [up_same, up_same]
  · rw [up_other c, up_other (by omega)]; exact q1
theorem SR_67 {n j : Nat} {m l o x y : Int32} {f1 f2 f3 f4 f5 f6 f7 f9 fa : Nat → Int32} (hn : n ≤ 10) (h : SR n m l o f1 f2 f3 f4 f5 f6 f7 f9 fa) (hj : j < n) : SR n m l o f1 f2 f3 f4 f5 (upd f6 j x) (upd f7 j y) f9 (upd (upd fa (54 + j) x) (64 + j) y) := by
  obtain ⟨a0, a1, a2, a3, a4⟩ := h
  have eo : ∀ q, q ≠ 54 + j → q ≠ 64 + j → upd (upd fa (54 + j) x) (64 + j) y q = fa q := fun q h1 h2 => by rw [up_other h2, up_other h1]
  refine ⟨(eo _ (by omega) (by omega)).trans a0, (eo _ (by omega) (by omega)).trans a1, (eo _ (by omega) (by omega)).trans a2, (eo _ (by omega) (by omega)).trans a3, fun i hi => ?_⟩
  obtain ⟨q1, q2, q3, q4, q5, q6, q7, q9⟩ := a4 i hi
  refine ⟨q1.trans (eo _ (by omega) (by omega)).symm, q2.trans (eo _ (by omega) (by omega)).symm, q3.trans (eo _ (by omega) (by omega)).symm, q4.trans (eo _ (by omega) (by omega)).symm, q5.trans (eo _ (by omega) (by omega)).symm, ?_, ?_, q9.trans (eo _ (by omega) (by omega)).symm⟩
  · by_cases c : i = j
    · subst c; rw [up_same, up_other (by omega), up_same]
    · rw [up_other c, eo _ (by omega) (by omega)]; exact q6
  · by_cases c : i = j
    · subst c; rw [up_same, up_same]
    · rw [up_other c, eo _ (by omega) (by omega)]; exact q7
theorem ism_o {n : Nat} {i : Int32} (hn : n ≤ 10) (h : i < nI 0 ∨ nI n - nI 1 < i) : i < 0 ∨ nI n ≤ i := by
  have H : ∀ n : Fin 11, (nI n.1 - nI 1).toInt = (n.1 : Int) - 1 := by decide +kernel
  have e := H ⟨n, by omega⟩
  rcases h with h | h
  · exact Or.inl h
  · refine Or.inr ?_
    rw [Int32.lt_iff_toInt_lt] at h
    rw [Int32.le_iff_toInt_le, nI_toInt (by omega)]
    have e' : (nI n - nI 1).toInt = (n : Int) - 1 := e
    omega
/-- a set of SMITHS -/
abbrev setP (n : Nat) (v : Int32) : Prop := ¬ (v < 0 ∨ nI (2 ^ n - 1) < v)
theorem set_c {n : Nat} {v : Int32} (hn : n ≤ 10) : (v &&& (nI (2 ^ n - 1) ^^^ -1)) = 0 ↔ setP n v := by
  have hm : ∀ (n : Fin 11) (i : Fin 32), ((nI (2 ^ n.1 - 1) ^^^ -1 : Int32).toBitVec).getLsbD i.1 = decide (n.1 ≤ i.1) := by decide +kernel
  have hp := pw10 hn
  have hz : (0 : Int32).toInt = 0 := by decide +kernel
  have key : (v &&& (nI (2 ^ n - 1) ^^^ -1)) = 0 ↔ v.toBitVec.toNat < 2 ^ n := by
    constructor
    · intro h
      apply Nat.lt_pow_two_of_testBit
      intro i hi
      by_cases c : i < 32
      · have e := congrArg (fun q : Int32 => q.toBitVec.getLsbD i) h
        have e1 : (v.toBitVec &&& (nI (2 ^ n - 1) ^^^ -1 : Int32).toBitVec).getLsbD i = (0 : Int32).toBitVec.getLsbD i := e
        rw [BitVec.getLsbD_and, hm ⟨n, by omega⟩ ⟨i, c⟩] at e1
        have e2 : (0 : Int32).toBitVec.getLsbD i = false := by
          have H : ∀ i : Fin 32, (0 : Int32).toBitVec.getLsbD i.1 = false := by decide +kernel
          exact H ⟨i, c⟩
        have e3 : decide (n ≤ i) = true := decide_eq_true hi
        rw [e2, e3, Bool.and_true] at e1
        exact e1
      · exact Nat.testBit_lt_two_pow (Nat.lt_of_lt_of_le v.toBitVec.isLt (Nat.pow_le_pow_right (by decide) (by omega)))
    · intro h
      apply Int32.toBitVec_inj.mp
      apply BitVec.eq_of_getLsbD_eq
      intro i hi
      show (v.toBitVec &&& (nI (2 ^ n - 1) ^^^ -1 : Int32).toBitVec).getLsbD i = (0 : Int32).toBitVec.getLsbD i
      have e2 : (0 : Int32).toBitVec.getLsbD i = false := by
        have H : ∀ i : Fin 32, (0 : Int32).toBitVec.getLsbD i.1 = false := by decide +kernel
        exact H ⟨i, hi⟩
      rw [BitVec.getLsbD_and, hm ⟨n, by omega⟩ ⟨i, hi⟩, e2]
      by_cases c : n ≤ i
      · have : v.toBitVec.getLsbD i = false := Nat.testBit_lt_two_pow (Nat.lt_of_lt_of_le h (Nat.pow_le_pow_right (by decide) c))
        rw [this, Bool.false_and]
      · have e3 : decide (n ≤ i) = false := decide_eq_false c
        show (v.toBitVec.getLsbD i && decide (n ≤ i)) = false
        rw [e3, Bool.and_false]
  rw [key]
  constructor
  · intro h
    have e : v = nI v.toBitVec.toNat := by
      apply Int32.toBitVec_inj.mp
      apply BitVec.eq_of_toNat_eq
      show _ = (BitVec.ofNat 32 v.toBitVec.toNat).toNat
      simp
    rw [e]
    rintro (q | q)
    · exact absurd q (nI_pos (by omega))
    · have := b_lt (by omega) (by omega) q; omega
  · intro h
    obtain ⟨j, h1, h2, e⟩ := g_rng (x := v) (a := 0) (b := 2 ^ n - 1) (by decide) (by omega) (fun q => h (Or.inl q)) (fun q => h (Or.inr q))
    rw [e]
    show (BitVec.ofNat 32 j).toNat < 2 ^ n
    rw [BitVec.toNat_ofNat, Nat.mod_eq_of_lt (by omega)]
    omega
theorem set_m1 {n : Nat} (hn : n ≤ 10) : (nI 1).toInt64 <<< ((nI n).toInt64 &&& 63) - (nI 1).toInt64 = (nI (2 ^ n - 1)).toInt64 := by
  have H : ∀ n : Fin 11, (nI 1).toInt64 <<< ((nI n.1).toInt64 &&& 63) - (nI 1).toInt64 = (nI (2 ^ n.1 - 1)).toInt64 := by decide +kernel
  exact H ⟨n, by omega⟩

def q_x_rope_f (T : Nat → ClassId) (nf1 : Nat → Int32) (nf2 : Nat → Int32) (nf3 : Nat → Int32) (nf4 : Nat → Int32) (nf5 : Nat → Int32) (nf6 : Nat → Int32) (nf7 : Nat → Int32) (fa : Nat → Int32) (o : Nat) (i : Int32) (to : Int32) (n0 : Nat) (s0 : Nat) (im : Nat) (iz : Nat) (rw : Nat) (t0 : Nat) (u0 : Nat) (h0 : Nat) (y0 : Nat) (sv : Value) (nn : Nat) (nm : Int32) (nl : Int32) (no : Int32) (nu : Int32) (n1 : Nat) (n2 : Nat) (n3 : Nat) (n4 : Nat) (n5 : Nat) (n6 : Nat) (n7 : Nat) (n8 : Nat) (n9 : Nat) (n10 : Nat) (nf9 : Nat → Int32) : Option Value → va_W → Prop := fun rr ww => (∃ (z : Int32) (g9 : Nat → Int32), rr = some (.int z) ∧ ww = [(o, .inr (7, [.ref n0, .ref s0, .ref im, .ref iz, .ref rw, .ref t0, .ref u0, .ref h0, .ref y0, sv])), (n0, .inr (5, [.int (nI nn), .int nm, .int nl, .int no, .int nu, .ref n1, .ref n2, .ref n3, .ref n4, .ref n5, .ref n6, .ref n7, .ref n8, .ref n9, .ref n10])), (n9, .inl (T 0, 10, .inl g9))] ∧ (∀ i, i < nn → bd (g9 i) nn) ∧ z = ropeA nn fa i to ∧ SR nn nm nl no nf1 nf2 nf3 nf4 nf5 nf6 nf7 g9 (ropeF nn fa i to))
set_option maxHeartbeats 4000000 in
set_option maxRecDepth 100000 in
theorem x_rope_f (l : Launch) (D : va_G) (T : Nat → ClassId) (nf1 : Nat → Int32) (nf2 : Nat → Int32) (nf3 : Nat → Int32) (nf4 : Nat → Int32) (nf5 : Nat → Int32) (nf6 : Nat → Int32) (nf7 : Nat → Int32) (fa : Nat → Int32) (o : Nat) (i : Int32) (to : Int32) (n0 : Nat) (s0 : Nat) (im : Nat) (iz : Nat) (rw : Nat) (t0 : Nat) (u0 : Nat) (h0 : Nat) (y0 : Nat) (sv : Value) (nn : Nat) (nm : Int32) (nl : Int32) (no : Int32) (nu : Int32) (n1 : Nat) (n2 : Nat) (n3 : Nat) (n4 : Nat) (n5 : Nat) (n6 : Nat) (n7 : Nat) (n8 : Nat) (n9 : Nat) (n10 : Nat) (nf9 : Nat → Int32) (h_n : nn ≤ 10) (h_t : ∀ i, i < nn → bd (nf9 i) nn) (h_sr : SR nn nm nl no nf1 nf2 nf3 nf4 nf5 nf6 nf7 nf9 fa) : Ct l yX7_rope cX7_rope 4 (some .int) 1 0 0 D T [.ref o, .int i, .int to] [(o, .inr (7, [.ref n0, .ref s0, .ref im, .ref iz, .ref rw, .ref t0, .ref u0, .ref h0, .ref y0, sv])), (n0, .inr (5, [.int (nI nn), .int nm, .int nl, .int no, .int nu, .ref n1, .ref n2, .ref n3, .ref n4, .ref n5, .ref n6, .ref n7, .ref n8, .ref n9, .ref n10])), (n9, .inl (T 0, 10, .inl nf9))] (q_x_rope_f T nf1 nf2 nf3 nf4 nf5 nf6 nf7 fa o i to n0 s0 im iz rw t0 u0 h0 y0 sv nn nm nl no nu n1 n2 n3 n4 n5 n6 n7 n8 n9 n10 nf9) := by
  refine Ct.of (cc := cX7_rope) (maxL := 4) (ret := (some .int)) (by decide) (Nat.le_of_ble_eq_true rfl) ?_
  intro p e s m args below meth c A ls hC hnm V hl
  obtain ⟨hx, hb, hr, hml, hown, hts, hlocks⟩ := id hC
  generalize hH : s.heap = H at V ⊢
  clear hH
  have hl : lv_has ls 4 [(0, .ref o), (1, .int i), (2, .int to)] := hl
  generalize hlo : ([] : List Loc) = locs at V ⊢
  clear hlo
  refine lv_aload_n hx hb dX7_rope_0 rfl (lv_at hl 0 rfl) ?_
  refine g_get hC V (ci := 7) uwX7 0 rfl rfl 0 (by decide) w_249 rfl rfl dX7_rope_1 ?_
  refine lv_iload_n hx hb dX7_rope_4 rfl (lv_at hl 1 rfl) ?_
  refine g_callVU (nA := 1) hC V hl.1 (s_isSmith l D T n0 i nn nm nl no nu n1 n2 n3 n4 n5 n6 n7 n8 n9 n10 (by first | assumption | omega)) w_425 w_426 w_427 w_3 w_428 (by decide +kernel) rfl ⟨(Nat.le_of_ble_eq_true rfl), (Nat.le_of_ble_eq_true rfl)⟩ 1 (ci := 5) rfl rfl [1] rfl rfl (Nat.le_of_ble_eq_true rfl) dX7_rope_5 ⟨(Nat.le_of_ble_eq_true rfl), (Nat.le_of_ble_eq_true rfl)⟩ rfl (fun r w1 H locs hQ V => ?_)
  rcases hQ with ⟨j_1, rfl, rfl, f_2, f_3⟩ | ⟨rfl, rfl, f_4⟩
  · have V : gW D T A s [(o, .inr (7, [.ref n0, .ref s0, .ref im, .ref iz, .ref rw, .ref t0, .ref u0, .ref h0, .ref y0, sv])), (n0, .inr (5, [.int (nI nn), .int nm, .int nl, .int no, .int nu, .ref n1, .ref n2, .ref n3, .ref n4, .ref n5, .ref n6, .ref n7, .ref n8, .ref n9, .ref n10])), (n9, .inl (T 0, 10, .inl nf9))] H locs := V _ [1] rfl rfl rfl (by decide +kernel) rfl
    show W p l e _ s m args below meth c H locs _ _ _ (F0 m 8 ls [.int (nI 1)])
    rw [f_2] at hl
    refine lv_if_eq (tgt := 22) hx hb dX7_rope_8 (by decide) (fun c => absurd (show (nI 1) = 0 from c) (by decide +kernel)) (fun _ => ?_)
    refine lv_aload_n hx hb dX7_rope_11 rfl (lv_at hl 0 rfl) ?_
    refine g_get hC V (ci := 7) uwX7 0 rfl rfl 0 (by decide) w_249 rfl rfl dX7_rope_12 ?_
    refine lv_iload_n hx hb dX7_rope_15 rfl (lv_at hl 2 rfl) ?_
    refine g_callVU (nA := 1) hC V hl.1 (s_isSmith l D T n0 to nn nm nl no nu n1 n2 n3 n4 n5 n6 n7 n8 n9 n10 (by first | assumption | omega)) w_425 w_426 w_427 w_3 w_428 (by decide +kernel) rfl ⟨(Nat.le_of_ble_eq_true rfl), (Nat.le_of_ble_eq_true rfl)⟩ 1 (ci := 5) rfl rfl [1] rfl rfl (Nat.le_of_ble_eq_true rfl) dX7_rope_16 ⟨(Nat.le_of_ble_eq_true rfl), (Nat.le_of_ble_eq_true rfl)⟩ rfl (fun r w1 H locs hQ V => ?_)
    rcases hQ with ⟨j_5, rfl, rfl, f_6, f_7⟩ | ⟨rfl, rfl, f_8⟩
    · have V : gW D T A s [(o, .inr (7, [.ref n0, .ref s0, .ref im, .ref iz, .ref rw, .ref t0, .ref u0, .ref h0, .ref y0, sv])), (n0, .inr (5, [.int (nI nn), .int nm, .int nl, .int no, .int nu, .ref n1, .ref n2, .ref n3, .ref n4, .ref n5, .ref n6, .ref n7, .ref n8, .ref n9, .ref n10])), (n9, .inl (T 0, 10, .inl nf9))] H locs := V _ [1] rfl rfl rfl (by decide +kernel) rfl
      show W p l e _ s m args below meth c H locs _ _ _ (F0 m 19 ls [.int (nI 1)])
      rw [f_6] at hl
      refine lv_if_ne (tgt := 25) hx hb dX7_rope_19 (by decide) (fun _ => ?_) (fun c => absurd (show (nI 1) = 0 from c) (by decide +kernel))
      refine lv_aload_n hx hb dX7_rope_25 rfl (lv_at hl 0 rfl) ?_
      refine g_get hC V (ci := 7) uwX7 0 rfl rfl 0 (by decide) w_249 rfl rfl dX7_rope_26 ?_
      refine g_get hC V (ci := 5) uwX5 1 rfl rfl 13 (by decide) w_84 rfl rfl dX7_rope_29 ?_
      refine lv_iload_n hx hb dX7_rope_32 rfl (lv_at hl 1 rfl) ?_
      refine g_iald hC V 2 rfl (vp_in_nI (by omega) (by omega)) (v := (nf9 j_1)) (congrArg _ (nI_clamp (by omega))) dX7_rope_33 ?_
      refine lv_istore_n (lv' := [(3, .int (nf9 j_1)), (0, .ref o), (1, .int (nI j_1)), (2, .int (nI j_5))]) hx hb dX7_rope_34 rfl hl (by decide) rfl (fun ls hl => ?_)
      refine lv_aload_n hx hb dX7_rope_35 rfl (lv_at hl 1 rfl) ?_
      refine g_get hC V (ci := 7) uwX7 0 rfl rfl 0 (by decide) w_249 rfl rfl dX7_rope_36 ?_
      refine g_get hC V (ci := 5) uwX5 1 rfl rfl 13 (by decide) w_84 rfl rfl dX7_rope_39 ?_
      refine lv_iload_n hx hb dX7_rope_42 rfl (lv_at hl 2 rfl) ?_
      refine lv_iload_n hx hb dX7_rope_43 rfl (lv_at hl 3 rfl) ?_
      refine g_iast hC V 2 rfl (vp_in_nI (by omega) (by omega)) (f' := (upd nf9 j_1 (nI j_5))) (by rw [nI_clamp (by omega)]) (ws' := [(o, .inr (7, [.ref n0, .ref s0, .ref im, .ref iz, .ref rw, .ref t0, .ref u0, .ref h0, .ref y0, sv])), (n0, .inr (5, [.int (nI nn), .int nm, .int nl, .int no, .int nu, .ref n1, .ref n2, .ref n3, .ref n4, .ref n5, .ref n6, .ref n7, .ref n8, .ref n9, .ref n10])), (n9, .inl (T 0, 10, .inl (upd nf9 j_1 (nI j_5))))]) rfl dX7_rope_44 (fun H locs V => ?_)
      refine lv_iload_n hx hb dX7_rope_45 rfl (lv_at hl 0 rfl) ?_
      exact g_iret (Qr := (q_x_rope_f T nf1 nf2 nf3 nf4 nf5 nf6 nf7 fa o i to n0 s0 im iz rw t0 u0 h0 y0 sv nn nm nl no nu n1 n2 n3 n4 n5 n6 n7 n8 n9 n10 nf9)) hC V ⟨(Nat.le_of_ble_eq_true rfl), (Nat.le_of_ble_eq_true rfl)⟩ ⟨(nf9 j_1), (upd nf9 j_1 (nI j_5)), rfl, rfl, (up_all (p := fun x => bd x nn) h_t (fun _ => bd_nI (by assumption))), ((h_sr.2.2.2.2 j_1 f_3).2.2.2.2.2.2.2.trans (rp_y (f := fa) h_n f_2 f_3 f_6 f_7).1), (by rw [← (rp_y (f := fa) h_n f_2 f_3 f_6 f_7).2]; exact SR_9 h_n h_sr f_3)⟩ dX7_rope_46
    · have V : gW D T A s [(o, .inr (7, [.ref n0, .ref s0, .ref im, .ref iz, .ref rw, .ref t0, .ref u0, .ref h0, .ref y0, sv])), (n0, .inr (5, [.int (nI nn), .int nm, .int nl, .int no, .int nu, .ref n1, .ref n2, .ref n3, .ref n4, .ref n5, .ref n6, .ref n7, .ref n8, .ref n9, .ref n10])), (n9, .inl (T 0, 10, .inl nf9))] H locs := V _ [1] rfl rfl rfl (by decide +kernel) rfl
      show W p l e _ s m args below meth c H locs _ _ _ (F0 m 19 ls [.int (nI 0)])
      refine lv_if_ne (tgt := 25) hx hb dX7_rope_19 (by decide) (fun c => absurd (show (nI 0) = 0 by decide +kernel) c) (fun _ => ?_)
      refine lv_bipush (v := (-2)) hx hb dX7_rope_22 (by decide +kernel) ?_
      exact g_iret (Qr := (q_x_rope_f T nf1 nf2 nf3 nf4 nf5 nf6 nf7 fa o i to n0 s0 im iz rw t0 u0 h0 y0 sv nn nm nl no nu n1 n2 n3 n4 n5 n6 n7 n8 n9 n10 nf9)) hC V ⟨(Nat.le_of_ble_eq_true rfl), (Nat.le_of_ble_eq_true rfl)⟩ ⟨(-2), nf9, rfl, rfl, h_t, (rp_2 (f := fa) (i := i) f_8).1, (by rw [← (rp_2 (f := fa) (i := i) f_8).2]; exact h_sr)⟩ dX7_rope_24
  · have V : gW D T A s [(o, .inr (7, [.ref n0, .ref s0, .ref im, .ref iz, .ref rw, .ref t0, .ref u0, .ref h0, .ref y0, sv])), (n0, .inr (5, [.int (nI nn), .int nm, .int nl, .int no, .int nu, .ref n1, .ref n2, .ref n3, .ref n4, .ref n5, .ref n6, .ref n7, .ref n8, .ref n9, .ref n10])), (n9, .inl (T 0, 10, .inl nf9))] H locs := V _ [1] rfl rfl rfl (by decide +kernel) rfl
    show W p l e _ s m args below meth c H locs _ _ _ (F0 m 8 ls [.int (nI 0)])
    refine lv_if_eq (tgt := 22) hx hb dX7_rope_8 (by decide) (fun _ => ?_) (fun c => absurd (show (nI 0) = 0 by decide +kernel) c)
    refine lv_bipush (v := (-2)) hx hb dX7_rope_22 (by decide +kernel) ?_
    exact g_iret (Qr := (q_x_rope_f T nf1 nf2 nf3 nf4 nf5 nf6 nf7 fa o i to n0 s0 im iz rw t0 u0 h0 y0 sv nn nm nl no nu n1 n2 n3 n4 n5 n6 n7 n8 n9 n10 nf9)) hC V ⟨(Nat.le_of_ble_eq_true rfl), (Nat.le_of_ble_eq_true rfl)⟩ ⟨(-2), nf9, rfl, rfl, h_t, (rp_1 (f := fa) (to := to) f_4).1, (by rw [← (rp_1 (f := fa) (to := to) f_4).2]; exact h_sr)⟩ dX7_rope_24

def q_x_arm_f (T : Nat → ClassId) (nf2 : Nat → Int32) (nf3 : Nat → Int32) (nf4 : Nat → Int32) (nf5 : Nat → Int32) (nf6 : Nat → Int32) (nf7 : Nat → Int32) (nf9 : Nat → Int32) (fa : Nat → Int32) (o : Nat) (i : Int32) (bl : Int32) (n0 : Nat) (s0 : Nat) (im : Nat) (iz : Nat) (rw : Nat) (t0 : Nat) (u0 : Nat) (h0 : Nat) (y0 : Nat) (sv : Value) (nn : Nat) (nm : Int32) (nl : Int32) (no : Int32) (nu : Int32) (n1 : Nat) (n2 : Nat) (n3 : Nat) (n4 : Nat) (n5 : Nat) (n6 : Nat) (n7 : Nat) (n8 : Nat) (n9 : Nat) (n10 : Nat) (nf1 : Nat → Int32) : Option Value → va_W → Prop := fun rr ww => (∃ (z : Int32) (g1 : Nat → Int32), rr = some (.int z) ∧ ww = [(o, .inr (7, [.ref n0, .ref s0, .ref im, .ref iz, .ref rw, .ref t0, .ref u0, .ref h0, .ref y0, sv])), (n0, .inr (5, [.int (nI nn), .int nm, .int nl, .int no, .int nu, .ref n1, .ref n2, .ref n3, .ref n4, .ref n5, .ref n6, .ref n7, .ref n8, .ref n9, .ref n10])), (n1, .inl (T 0, 10, .inl g1))] ∧ z = armA nn fa i bl ∧ SR nn nm nl no g1 nf2 nf3 nf4 nf5 nf6 nf7 nf9 (armF nn fa i bl))
set_option maxHeartbeats 4000000 in
set_option maxRecDepth 100000 in
theorem x_arm_f (l : Launch) (D : va_G) (T : Nat → ClassId) (nf2 : Nat → Int32) (nf3 : Nat → Int32) (nf4 : Nat → Int32) (nf5 : Nat → Int32) (nf6 : Nat → Int32) (nf7 : Nat → Int32) (nf9 : Nat → Int32) (fa : Nat → Int32) (o : Nat) (i : Int32) (bl : Int32) (n0 : Nat) (s0 : Nat) (im : Nat) (iz : Nat) (rw : Nat) (t0 : Nat) (u0 : Nat) (h0 : Nat) (y0 : Nat) (sv : Value) (nn : Nat) (nm : Int32) (nl : Int32) (no : Int32) (nu : Int32) (n1 : Nat) (n2 : Nat) (n3 : Nat) (n4 : Nat) (n5 : Nat) (n6 : Nat) (n7 : Nat) (n8 : Nat) (n9 : Nat) (n10 : Nat) (nf1 : Nat → Int32) (h_n : nn ≤ 10) (h_sr : SR nn nm nl no nf1 nf2 nf3 nf4 nf5 nf6 nf7 nf9 fa) : Ct l yX7_arm cX7_arm 4 (some .int) 1 0 0 D T [.ref o, .int i, .int bl] [(o, .inr (7, [.ref n0, .ref s0, .ref im, .ref iz, .ref rw, .ref t0, .ref u0, .ref h0, .ref y0, sv])), (n0, .inr (5, [.int (nI nn), .int nm, .int nl, .int no, .int nu, .ref n1, .ref n2, .ref n3, .ref n4, .ref n5, .ref n6, .ref n7, .ref n8, .ref n9, .ref n10])), (n1, .inl (T 0, 10, .inl nf1))] (q_x_arm_f T nf2 nf3 nf4 nf5 nf6 nf7 nf9 fa o i bl n0 s0 im iz rw t0 u0 h0 y0 sv nn nm nl no nu n1 n2 n3 n4 n5 n6 n7 n8 n9 n10 nf1) := by
  refine Ct.of (cc := cX7_arm) (maxL := 4) (ret := (some .int)) (by decide) (Nat.le_of_ble_eq_true rfl) ?_
  intro p e s m args below meth c A ls hC hnm V hl
  obtain ⟨hx, hb, hr, hml, hown, hts, hlocks⟩ := id hC
  generalize hH : s.heap = H at V ⊢
  clear hH
  have hl : lv_has ls 4 [(0, .ref o), (1, .int i), (2, .int bl)] := hl
  generalize hlo : ([] : List Loc) = locs at V ⊢
  clear hlo
  refine lv_aload_n hx hb dX7_arm_0 rfl (lv_at hl 0 rfl) ?_
  refine g_get hC V (ci := 7) uwX7 0 rfl rfl 0 (by decide) w_249 rfl rfl dX7_arm_1 ?_
  refine lv_iload_n hx hb dX7_arm_4 rfl (lv_at hl 1 rfl) ?_
  refine g_callVU (nA := 1) hC V hl.1 (s_isSmith l D T n0 i nn nm nl no nu n1 n2 n3 n4 n5 n6 n7 n8 n9 n10 (by first | assumption | omega)) w_425 w_426 w_427 w_3 w_428 (by decide +kernel) rfl ⟨(Nat.le_of_ble_eq_true rfl), (Nat.le_of_ble_eq_true rfl)⟩ 1 (ci := 5) rfl rfl [1] rfl rfl (Nat.le_of_ble_eq_true rfl) dX7_arm_5 ⟨(Nat.le_of_ble_eq_true rfl), (Nat.le_of_ble_eq_true rfl)⟩ rfl (fun r w1 H locs hQ V => ?_)
  rcases hQ with ⟨j_1, rfl, rfl, f_2, f_3⟩ | ⟨rfl, rfl, f_4⟩
  · have V : gW D T A s [(o, .inr (7, [.ref n0, .ref s0, .ref im, .ref iz, .ref rw, .ref t0, .ref u0, .ref h0, .ref y0, sv])), (n0, .inr (5, [.int (nI nn), .int nm, .int nl, .int no, .int nu, .ref n1, .ref n2, .ref n3, .ref n4, .ref n5, .ref n6, .ref n7, .ref n8, .ref n9, .ref n10])), (n1, .inl (T 0, 10, .inl nf1))] H locs := V _ [1] rfl rfl rfl (by decide +kernel) rfl
    show W p l e _ s m args below meth c H locs _ _ _ (F0 m 8 ls [.int (nI 1)])
    rw [f_2] at hl
    refine lv_if_ne (tgt := 14) hx hb dX7_arm_8 (by decide) (fun _ => ?_) (fun c => absurd (show (nI 1) = 0 from c) (by decide +kernel))
    refine lv_iload_n hx hb dX7_arm_14 rfl (lv_at hl 2 rfl) ?_
    refine lv_iconst (v := (nI 0)) hx hb dX7_arm_15 (by decide +kernel) ?_
    refine lv_bipush (v := (nI 60)) hx hb dX7_arm_16 (by decide +kernel) ?_
    refine g_callSU (nA := 3) hC V hl.1 (c_isWithin l D T bl (nI 0) (nI 60)) w_292 w_293 w_2 w_294 (by decide +kernel) rfl ⟨(Nat.le_of_ble_eq_true rfl), (Nat.le_of_ble_eq_true rfl)⟩ [] rfl rfl (Nat.le_of_ble_eq_true rfl) dX7_arm_18 ⟨(Nat.le_of_ble_eq_true rfl), (Nat.le_of_ble_eq_true rfl)⟩ rfl (fun r w1 H locs hQ V => ?_)
    rcases hQ with ⟨rfl, rfl, f_5, f_6⟩ | ⟨rfl, rfl, f_7⟩
    · have V : gW D T A s [(o, .inr (7, [.ref n0, .ref s0, .ref im, .ref iz, .ref rw, .ref t0, .ref u0, .ref h0, .ref y0, sv])), (n0, .inr (5, [.int (nI nn), .int nm, .int nl, .int no, .int nu, .ref n1, .ref n2, .ref n3, .ref n4, .ref n5, .ref n6, .ref n7, .ref n8, .ref n9, .ref n10])), (n1, .inl (T 0, 10, .inl nf1))] H locs := V _ [] rfl rfl rfl (by decide +kernel) rfl
      show W p l e _ s m args below meth c H locs _ _ _ (F0 m 21 ls [.int (nI 1)])
      refine lv_if_ne (tgt := 27) hx hb dX7_arm_21 (by decide) (fun _ => ?_) (fun c => absurd (show (nI 1) = 0 from c) (by decide +kernel))
      refine lv_aload_n hx hb dX7_arm_27 rfl (lv_at hl 0 rfl) ?_
      refine g_get hC V (ci := 7) uwX7 0 rfl rfl 0 (by decide) w_249 rfl rfl dX7_arm_28 ?_
      refine g_get hC V (ci := 5) uwX5 1 rfl rfl 5 (by decide) w_54 rfl rfl dX7_arm_31 ?_
      refine lv_iload_n hx hb dX7_arm_34 rfl (lv_at hl 1 rfl) ?_
      refine g_iald hC V 2 rfl (vp_in_nI (by omega) (by omega)) (v := (nf1 j_1)) (congrArg _ (nI_clamp (by omega))) dX7_arm_35 ?_
      refine lv_istore_n (lv' := [(3, .int (nf1 j_1)), (0, .ref o), (1, .int (nI j_1)), (2, .int bl)]) hx hb dX7_arm_36 rfl hl (by decide) rfl (fun ls hl => ?_)
      refine lv_aload_n hx hb dX7_arm_37 rfl (lv_at hl 1 rfl) ?_
      refine g_get hC V (ci := 7) uwX7 0 rfl rfl 0 (by decide) w_249 rfl rfl dX7_arm_38 ?_
      refine g_get hC V (ci := 5) uwX5 1 rfl rfl 5 (by decide) w_54 rfl rfl dX7_arm_41 ?_
      refine lv_iload_n hx hb dX7_arm_44 rfl (lv_at hl 2 rfl) ?_
      refine lv_iload_n hx hb dX7_arm_45 rfl (lv_at hl 3 rfl) ?_
      refine g_iast hC V 2 rfl (vp_in_nI (by omega) (by omega)) (f' := (upd nf1 j_1 bl)) (by rw [nI_clamp (by omega)]) (ws' := [(o, .inr (7, [.ref n0, .ref s0, .ref im, .ref iz, .ref rw, .ref t0, .ref u0, .ref h0, .ref y0, sv])), (n0, .inr (5, [.int (nI nn), .int nm, .int nl, .int no, .int nu, .ref n1, .ref n2, .ref n3, .ref n4, .ref n5, .ref n6, .ref n7, .ref n8, .ref n9, .ref n10])), (n1, .inl (T 0, 10, .inl (upd nf1 j_1 bl)))]) rfl dX7_arm_46 (fun H locs V => ?_)
      refine lv_iload_n hx hb dX7_arm_47 rfl (lv_at hl 0 rfl) ?_
      exact g_iret (Qr := (q_x_arm_f T nf2 nf3 nf4 nf5 nf6 nf7 nf9 fa o i bl n0 s0 im iz rw t0 u0 h0 y0 sv nn nm nl no nu n1 n2 n3 n4 n5 n6 n7 n8 n9 n10 nf1)) hC V ⟨(Nat.le_of_ble_eq_true rfl), (Nat.le_of_ble_eq_true rfl)⟩ ⟨(nf1 j_1), (upd nf1 j_1 bl), rfl, rfl, ((h_sr.2.2.2.2 j_1 f_3).1.trans (ar_y (f := fa) h_n f_2 f_3 f_5 f_6).1), (by rw [← (ar_y (f := fa) h_n f_2 f_3 f_5 f_6).2]; exact SR_1 h_n h_sr f_3)⟩ dX7_arm_48
    · have V : gW D T A s [(o, .inr (7, [.ref n0, .ref s0, .ref im, .ref iz, .ref rw, .ref t0, .ref u0, .ref h0, .ref y0, sv])), (n0, .inr (5, [.int (nI nn), .int nm, .int nl, .int no, .int nu, .ref n1, .ref n2, .ref n3, .ref n4, .ref n5, .ref n6, .ref n7, .ref n8, .ref n9, .ref n10])), (n1, .inl (T 0, 10, .inl nf1))] H locs := V _ [] rfl rfl rfl (by decide +kernel) rfl
      show W p l e _ s m args below meth c H locs _ _ _ (F0 m 21 ls [.int (nI 0)])
      refine lv_if_ne (tgt := 27) hx hb dX7_arm_21 (by decide) (fun c => absurd (show (nI 0) = 0 by decide +kernel) c) (fun _ => ?_)
      refine lv_bipush (v := (-3)) hx hb dX7_arm_24 (by decide +kernel) ?_
      exact g_iret (Qr := (q_x_arm_f T nf2 nf3 nf4 nf5 nf6 nf7 nf9 fa o i bl n0 s0 im iz rw t0 u0 h0 y0 sv nn nm nl no nu n1 n2 n3 n4 n5 n6 n7 n8 n9 n10 nf1)) hC V ⟨(Nat.le_of_ble_eq_true rfl), (Nat.le_of_ble_eq_true rfl)⟩ ⟨(-3), nf1, rfl, rfl, (ar_2 (f := fa) h_n f_2 f_3 f_7).1, (by rw [← (ar_2 (f := fa) h_n f_2 f_3 f_7).2]; exact h_sr)⟩ dX7_arm_26
  · have V : gW D T A s [(o, .inr (7, [.ref n0, .ref s0, .ref im, .ref iz, .ref rw, .ref t0, .ref u0, .ref h0, .ref y0, sv])), (n0, .inr (5, [.int (nI nn), .int nm, .int nl, .int no, .int nu, .ref n1, .ref n2, .ref n3, .ref n4, .ref n5, .ref n6, .ref n7, .ref n8, .ref n9, .ref n10])), (n1, .inl (T 0, 10, .inl nf1))] H locs := V _ [1] rfl rfl rfl (by decide +kernel) rfl
    show W p l e _ s m args below meth c H locs _ _ _ (F0 m 8 ls [.int (nI 0)])
    refine lv_if_ne (tgt := 14) hx hb dX7_arm_8 (by decide) (fun c => absurd (show (nI 0) = 0 by decide +kernel) c) (fun _ => ?_)
    refine lv_bipush (v := (-2)) hx hb dX7_arm_11 (by decide +kernel) ?_
    exact g_iret (Qr := (q_x_arm_f T nf2 nf3 nf4 nf5 nf6 nf7 nf9 fa o i bl n0 s0 im iz rw t0 u0 h0 y0 sv nn nm nl no nu n1 n2 n3 n4 n5 n6 n7 n8 n9 n10 nf1)) hC V ⟨(Nat.le_of_ble_eq_true rfl), (Nat.le_of_ble_eq_true rfl)⟩ ⟨(-2), nf1, rfl, rfl, (ar_1 (f := fa) (b := bl) f_4).1, (by rw [← (ar_1 (f := fa) (b := bl) f_4).2]; exact h_sr)⟩ dX7_arm_13

def q_x_piece_f (T : Nat → ClassId) (nf1 : Nat → Int32) (nf2 : Nat → Int32) (nf3 : Nat → Int32) (nf4 : Nat → Int32) (nf5 : Nat → Int32) (nf9 : Nat → Int32) (fa : Nat → Int32) (o : Nat) (i : Int32) (st : Int32) (n0 : Nat) (s0 : Nat) (im : Nat) (iz : Nat) (rw : Nat) (t0 : Nat) (u0 : Nat) (h0 : Nat) (y0 : Nat) (sv : Value) (nn : Nat) (nm : Int32) (nl : Int32) (no : Int32) (nu : Int32) (n1 : Nat) (n2 : Nat) (n3 : Nat) (n4 : Nat) (n5 : Nat) (n6 : Nat) (n7 : Nat) (n8 : Nat) (n9 : Nat) (n10 : Nat) (nf6 : Nat → Int32) (nf7 : Nat → Int32) (nf8 : Nat → Int32) : Option Value → va_W → Prop := fun rr ww => (∃ (z : Int32) (g6 : Nat → Int32) (g7 : Nat → Int32) (g8 : Nat → Int32), rr = some (.int z) ∧ ww = [(o, .inr (7, [.ref n0, .ref s0, .ref im, .ref iz, .ref rw, .ref t0, .ref u0, .ref h0, .ref y0, sv])), (n0, .inr (5, [.int (nI nn), .int nm, .int nl, .int no, .int nu, .ref n1, .ref n2, .ref n3, .ref n4, .ref n5, .ref n6, .ref n7, .ref n8, .ref n9, .ref n10])), (n6, .inl (T 0, 10, .inl g6)), (n7, .inl (T 0, 10, .inl g7)), (n8, .inl (T 0, 10, .inl g8))] ∧ z = pieA nn fa i st ∧ SR nn nm nl no nf1 nf2 nf3 nf4 nf5 g6 g7 nf9 (pieF nn fa i st))
set_option maxHeartbeats 4000000 in
set_option maxRecDepth 100000 in
theorem x_piece_f (l : Launch) (D : va_G) (T : Nat → ClassId) (nf1 : Nat → Int32) (nf2 : Nat → Int32) (nf3 : Nat → Int32) (nf4 : Nat → Int32) (nf5 : Nat → Int32) (nf9 : Nat → Int32) (fa : Nat → Int32) (o : Nat) (i : Int32) (st : Int32) (n0 : Nat) (s0 : Nat) (im : Nat) (iz : Nat) (rw : Nat) (t0 : Nat) (u0 : Nat) (h0 : Nat) (y0 : Nat) (sv : Value) (nn : Nat) (nm : Int32) (nl : Int32) (no : Int32) (nu : Int32) (n1 : Nat) (n2 : Nat) (n3 : Nat) (n4 : Nat) (n5 : Nat) (n6 : Nat) (n7 : Nat) (n8 : Nat) (n9 : Nat) (n10 : Nat) (nf6 : Nat → Int32) (nf7 : Nat → Int32) (nf8 : Nat → Int32) (h_n : nn ≤ 10) (h_sr : SR nn nm nl no nf1 nf2 nf3 nf4 nf5 nf6 nf7 nf9 fa) : Ct l yX7_piece cX7_piece 4 (some .int) 1 0 0 D T [.ref o, .int i, .int st] [(o, .inr (7, [.ref n0, .ref s0, .ref im, .ref iz, .ref rw, .ref t0, .ref u0, .ref h0, .ref y0, sv])), (n0, .inr (5, [.int (nI nn), .int nm, .int nl, .int no, .int nu, .ref n1, .ref n2, .ref n3, .ref n4, .ref n5, .ref n6, .ref n7, .ref n8, .ref n9, .ref n10])), (n6, .inl (T 0, 10, .inl nf6)), (n7, .inl (T 0, 10, .inl nf7)), (n8, .inl (T 0, 10, .inl nf8))] (q_x_piece_f T nf1 nf2 nf3 nf4 nf5 nf9 fa o i st n0 s0 im iz rw t0 u0 h0 y0 sv nn nm nl no nu n1 n2 n3 n4 n5 n6 n7 n8 n9 n10 nf6 nf7 nf8) := by
  refine Ct.of (cc := cX7_piece) (maxL := 4) (ret := (some .int)) (by decide) (Nat.le_of_ble_eq_true rfl) ?_
  intro p e s m args below meth c A ls hC hnm V hl
  obtain ⟨hx, hb, hr, hml, hown, hts, hlocks⟩ := id hC
  generalize hH : s.heap = H at V ⊢
  clear hH
  have hl : lv_has ls 4 [(0, .ref o), (1, .int i), (2, .int st)] := hl
  generalize hlo : ([] : List Loc) = locs at V ⊢
  clear hlo
  refine lv_aload_n hx hb dX7_piece_0 rfl (lv_at hl 0 rfl) ?_
  refine g_get hC V (ci := 7) uwX7 0 rfl rfl 0 (by decide) w_249 rfl rfl dX7_piece_1 ?_
  refine lv_iload_n hx hb dX7_piece_4 rfl (lv_at hl 1 rfl) ?_
  refine g_callVU (nA := 1) hC V hl.1 (s_isSmith l D T n0 i nn nm nl no nu n1 n2 n3 n4 n5 n6 n7 n8 n9 n10 (by first | assumption | omega)) w_425 w_426 w_427 w_3 w_428 (by decide +kernel) rfl ⟨(Nat.le_of_ble_eq_true rfl), (Nat.le_of_ble_eq_true rfl)⟩ 1 (ci := 5) rfl rfl [1] rfl rfl (Nat.le_of_ble_eq_true rfl) dX7_piece_5 ⟨(Nat.le_of_ble_eq_true rfl), (Nat.le_of_ble_eq_true rfl)⟩ rfl (fun r w1 H locs hQ V => ?_)
  rcases hQ with ⟨j_1, rfl, rfl, f_2, f_3⟩ | ⟨rfl, rfl, f_4⟩
  · have V : gW D T A s [(o, .inr (7, [.ref n0, .ref s0, .ref im, .ref iz, .ref rw, .ref t0, .ref u0, .ref h0, .ref y0, sv])), (n0, .inr (5, [.int (nI nn), .int nm, .int nl, .int no, .int nu, .ref n1, .ref n2, .ref n3, .ref n4, .ref n5, .ref n6, .ref n7, .ref n8, .ref n9, .ref n10])), (n6, .inl (T 0, 10, .inl nf6)), (n7, .inl (T 0, 10, .inl nf7)), (n8, .inl (T 0, 10, .inl nf8))] H locs := V _ [1] rfl rfl rfl (by decide +kernel) rfl
    show W p l e _ s m args below meth c H locs _ _ _ (F0 m 8 ls [.int (nI 1)])
    rw [f_2] at hl
    refine lv_if_ne (tgt := 14) hx hb dX7_piece_8 (by decide) (fun _ => ?_) (fun c => absurd (show (nI 1) = 0 from c) (by decide +kernel))
    refine lv_iload_n hx hb dX7_piece_14 rfl (lv_at hl 2 rfl) ?_
    refine lv_iconst (v := (nI 0)) hx hb dX7_piece_15 (by decide +kernel) ?_
    refine lv_bipush (v := (nI 20)) hx hb dX7_piece_16 (by decide +kernel) ?_
    refine g_callSU (nA := 3) hC V hl.1 (c_isWithin l D T st (nI 0) (nI 20)) w_292 w_293 w_2 w_294 (by decide +kernel) rfl ⟨(Nat.le_of_ble_eq_true rfl), (Nat.le_of_ble_eq_true rfl)⟩ [] rfl rfl (Nat.le_of_ble_eq_true rfl) dX7_piece_18 ⟨(Nat.le_of_ble_eq_true rfl), (Nat.le_of_ble_eq_true rfl)⟩ rfl (fun r w1 H locs hQ V => ?_)
    rcases hQ with ⟨rfl, rfl, f_5, f_6⟩ | ⟨rfl, rfl, f_7⟩
    · have V : gW D T A s [(o, .inr (7, [.ref n0, .ref s0, .ref im, .ref iz, .ref rw, .ref t0, .ref u0, .ref h0, .ref y0, sv])), (n0, .inr (5, [.int (nI nn), .int nm, .int nl, .int no, .int nu, .ref n1, .ref n2, .ref n3, .ref n4, .ref n5, .ref n6, .ref n7, .ref n8, .ref n9, .ref n10])), (n6, .inl (T 0, 10, .inl nf6)), (n7, .inl (T 0, 10, .inl nf7)), (n8, .inl (T 0, 10, .inl nf8))] H locs := V _ [] rfl rfl rfl (by decide +kernel) rfl
      show W p l e _ s m args below meth c H locs _ _ _ (F0 m 21 ls [.int (nI 1)])
      refine lv_if_ne (tgt := 27) hx hb dX7_piece_21 (by decide) (fun _ => ?_) (fun c => absurd (show (nI 1) = 0 from c) (by decide +kernel))
      refine lv_aload_n hx hb dX7_piece_27 rfl (lv_at hl 0 rfl) ?_
      refine g_get hC V (ci := 7) uwX7 0 rfl rfl 0 (by decide) w_249 rfl rfl dX7_piece_28 ?_
      refine g_get hC V (ci := 5) uwX5 1 rfl rfl 11 (by decide) w_79 rfl rfl dX7_piece_31 ?_
      refine lv_iload_n hx hb dX7_piece_34 rfl (lv_at hl 1 rfl) ?_
      refine g_iald hC V 3 rfl (vp_in_nI (by omega) (by omega)) (v := (nf7 j_1)) (congrArg _ (nI_clamp (by omega))) dX7_piece_35 ?_
      refine lv_istore_n (lv' := [(3, .int (nf7 j_1)), (0, .ref o), (1, .int (nI j_1)), (2, .int st)]) hx hb dX7_piece_36 rfl hl (by decide) rfl (fun ls hl => ?_)
      refine lv_aload_n hx hb dX7_piece_37 rfl (lv_at hl 1 rfl) ?_
      refine g_get hC V (ci := 7) uwX7 0 rfl rfl 0 (by decide) w_249 rfl rfl dX7_piece_38 ?_
      refine lv_iload_n hx hb dX7_piece_41 rfl (lv_at hl 2 rfl) ?_
      refine lv_iload_n hx hb dX7_piece_42 rfl (lv_at hl 3 rfl) ?_
      refine g_callVU (nA := 2) hC V hl.1 (s_beginPiece l D T n0 j_1 st nn nm nl no nu n1 n2 n3 n4 n5 n6 n7 n8 n9 n10 nf6 nf7 nf8 (by first | assumption | omega)) w_453 w_396 w_397 w_3 w_398 (by decide +kernel) rfl ⟨(Nat.le_of_ble_eq_true rfl), (Nat.le_of_ble_eq_true rfl)⟩ 1 (ci := 5) rfl rfl [1, 2, 3, 4] rfl rfl (Nat.le_of_ble_eq_true rfl) dX7_piece_43 ⟨(Nat.le_of_ble_eq_true rfl), (Nat.le_of_ble_eq_true rfl)⟩ rfl (fun r w1 H locs hQ V => ?_)
      obtain ⟨g6_8, g7_9, g8_10, rfl, rfl, f_11, f_12, f_13⟩ := hQ
      have V : gW D T A s [(o, .inr (7, [.ref n0, .ref s0, .ref im, .ref iz, .ref rw, .ref t0, .ref u0, .ref h0, .ref y0, sv])), (n0, .inr (5, [.int (nI nn), .int nm, .int nl, .int no, .int nu, .ref n1, .ref n2, .ref n3, .ref n4, .ref n5, .ref n6, .ref n7, .ref n8, .ref n9, .ref n10])), (n6, .inl (T 0, 10, .inl g6_8)), (n7, .inl (T 0, 10, .inl g7_9)), (n8, .inl (T 0, 10, .inl g8_10))] H locs := V _ [1, 0, 0, 0] rfl rfl rfl (by decide +kernel) rfl
      show W p l e _ s m args below meth c H locs _ _ _ (F0 m 46 ls [])
      refine lv_iload_n hx hb dX7_piece_46 rfl (lv_at hl 0 rfl) ?_
      exact g_iret (Qr := (q_x_piece_f T nf1 nf2 nf3 nf4 nf5 nf9 fa o i st n0 s0 im iz rw t0 u0 h0 y0 sv nn nm nl no nu n1 n2 n3 n4 n5 n6 n7 n8 n9 n10 nf6 nf7 nf8)) hC V ⟨(Nat.le_of_ble_eq_true rfl), (Nat.le_of_ble_eq_true rfl)⟩ ⟨(nf7 j_1), g6_8, g7_9, g8_10, rfl, rfl, ((h_sr.2.2.2.2 j_1 f_3).2.2.2.2.2.2.1.trans (pi_y (f := fa) h_n f_2 f_3 f_5 f_6).1), (by rw [f_11, f_12, ← (pi_y (f := fa) h_n f_2 f_3 f_5 f_6).2]; exact SR_67 h_n h_sr f_3)⟩ dX7_piece_47
    · have V : gW D T A s [(o, .inr (7, [.ref n0, .ref s0, .ref im, .ref iz, .ref rw, .ref t0, .ref u0, .ref h0, .ref y0, sv])), (n0, .inr (5, [.int (nI nn), .int nm, .int nl, .int no, .int nu, .ref n1, .ref n2, .ref n3, .ref n4, .ref n5, .ref n6, .ref n7, .ref n8, .ref n9, .ref n10])), (n6, .inl (T 0, 10, .inl nf6)), (n7, .inl (T 0, 10, .inl nf7)), (n8, .inl (T 0, 10, .inl nf8))] H locs := V _ [] rfl rfl rfl (by decide +kernel) rfl
      show W p l e _ s m args below meth c H locs _ _ _ (F0 m 21 ls [.int (nI 0)])
      refine lv_if_ne (tgt := 27) hx hb dX7_piece_21 (by decide) (fun c => absurd (show (nI 0) = 0 by decide +kernel) c) (fun _ => ?_)
      refine lv_bipush (v := (-3)) hx hb dX7_piece_24 (by decide +kernel) ?_
      exact g_iret (Qr := (q_x_piece_f T nf1 nf2 nf3 nf4 nf5 nf9 fa o i st n0 s0 im iz rw t0 u0 h0 y0 sv nn nm nl no nu n1 n2 n3 n4 n5 n6 n7 n8 n9 n10 nf6 nf7 nf8)) hC V ⟨(Nat.le_of_ble_eq_true rfl), (Nat.le_of_ble_eq_true rfl)⟩ ⟨(-3), nf6, nf7, nf8, rfl, rfl, (pi_2 (f := fa) h_n f_2 f_3 f_7).1, (by rw [← (pi_2 (f := fa) h_n f_2 f_3 f_7).2]; exact h_sr)⟩ dX7_piece_26
  · have V : gW D T A s [(o, .inr (7, [.ref n0, .ref s0, .ref im, .ref iz, .ref rw, .ref t0, .ref u0, .ref h0, .ref y0, sv])), (n0, .inr (5, [.int (nI nn), .int nm, .int nl, .int no, .int nu, .ref n1, .ref n2, .ref n3, .ref n4, .ref n5, .ref n6, .ref n7, .ref n8, .ref n9, .ref n10])), (n6, .inl (T 0, 10, .inl nf6)), (n7, .inl (T 0, 10, .inl nf7)), (n8, .inl (T 0, 10, .inl nf8))] H locs := V _ [1] rfl rfl rfl (by decide +kernel) rfl
    show W p l e _ s m args below meth c H locs _ _ _ (F0 m 8 ls [.int (nI 0)])
    refine lv_if_ne (tgt := 14) hx hb dX7_piece_8 (by decide) (fun c => absurd (show (nI 0) = 0 by decide +kernel) c) (fun _ => ?_)
    refine lv_bipush (v := (-2)) hx hb dX7_piece_11 (by decide +kernel) ?_
    exact g_iret (Qr := (q_x_piece_f T nf1 nf2 nf3 nf4 nf5 nf9 fa o i st n0 s0 im iz rw t0 u0 h0 y0 sv nn nm nl no nu n1 n2 n3 n4 n5 n6 n7 n8 n9 n10 nf6 nf7 nf8)) hC V ⟨(Nat.le_of_ble_eq_true rfl), (Nat.le_of_ble_eq_true rfl)⟩ ⟨(-2), nf6, nf7, nf8, rfl, rfl, (pi_1 (f := fa) (b := st) f_4).1, (by rw [← (pi_1 (f := fa) (b := st) f_4).2]; exact h_sr)⟩ dX7_piece_13

def q_m_isSmith_f (T : Nat → ClassId) (n : Nat) (o : Nat) (i : Int32) (w0 : Int32) (g1 : Nat) (g2 : Nat) (g3 : Nat) (g4 : Nat) (tp : Nat) (w6 : Int32) (w7 : Int32) (w8 : Int32) (w9 : Int32) (w10 : Int32) (w11 : Int32) (w12 : Int32) (w13 : Int32) (w14 : Int32) (g15 : Nat) (w16 : Int32) (g17 : Nat) (w18 : Int32) (w19 : Int32) (g20 : Nat) (w21 : Int32) (g22 : Nat) (g23 : Nat) (g24 : Nat) (w25 : Int32) (w26 : Int32) (w27 : Int32) (g28 : Nat) (g29 : Nat) (w30 : Int32) (g31 : Nat) (g32 : Nat) (g33 : Nat) (fa : Nat → Int32) : Option Value → va_W → Prop := fun rr ww => (∃ (j : Nat), rr = some (.int (nI 1)) ∧ ww = [(o, .inr (8, [.int w0, .ref g1, .ref g2, .ref g3, .ref g4, .int (nI tp), .int w6, .int w7, .int w8, .int w9, .int w10, .int w11, .int w12, .int w13, .int w14, .ref g15, .int w16, .ref g17, .int w18, .int w19, .ref g20, .int w21, .ref g22, .ref g23, .ref g24, .int w25, .int w26, .int w27, .ref g28, .ref g29, .int w30, .ref g31, .ref g32, .ref g33])), (g1, .inl (T 0, 282, .inl fa))] ∧ i = nI j ∧ j < n) ∨ (rr = some (.int (nI 0)) ∧ ww = [(o, .inr (8, [.int w0, .ref g1, .ref g2, .ref g3, .ref g4, .int (nI tp), .int w6, .int w7, .int w8, .int w9, .int w10, .int w11, .int w12, .int w13, .int w14, .ref g15, .int w16, .ref g17, .int w18, .int w19, .ref g20, .int w21, .ref g22, .ref g23, .ref g24, .int w25, .int w26, .int w27, .ref g28, .ref g29, .int w30, .ref g31, .ref g32, .ref g33])), (g1, .inl (T 0, 282, .inl fa))] ∧ (i < 0 ∨ nI n ≤ i))
set_option maxHeartbeats 4000000 in
set_option maxRecDepth 100000 in
theorem m_isSmith_f (l : Launch) (D : va_G) (T : Nat → ClassId) (n : Nat) (o : Nat) (i : Int32) (w0 : Int32) (g1 : Nat) (g2 : Nat) (g3 : Nat) (g4 : Nat) (tp : Nat) (w6 : Int32) (w7 : Int32) (w8 : Int32) (w9 : Int32) (w10 : Int32) (w11 : Int32) (w12 : Int32) (w13 : Int32) (w14 : Int32) (g15 : Nat) (w16 : Int32) (g17 : Nat) (w18 : Int32) (w19 : Int32) (g20 : Nat) (w21 : Int32) (g22 : Nat) (g23 : Nat) (g24 : Nat) (w25 : Int32) (w26 : Int32) (w27 : Int32) (g28 : Nat) (g29 : Nat) (w30 : Int32) (g31 : Nat) (g32 : Nat) (g33 : Nat) (fa : Nat → Int32) (h_a : MI n fa) : Ct l yX8_isSmith cX8_isSmith 2 (some .boolean) 1 0 0 D T [.ref o, .int i] [(o, .inr (8, [.int w0, .ref g1, .ref g2, .ref g3, .ref g4, .int (nI tp), .int w6, .int w7, .int w8, .int w9, .int w10, .int w11, .int w12, .int w13, .int w14, .ref g15, .int w16, .ref g17, .int w18, .int w19, .ref g20, .int w21, .ref g22, .ref g23, .ref g24, .int w25, .int w26, .int w27, .ref g28, .ref g29, .int w30, .ref g31, .ref g32, .ref g33])), (g1, .inl (T 0, 282, .inl fa))] (q_m_isSmith_f T n o i w0 g1 g2 g3 g4 tp w6 w7 w8 w9 w10 w11 w12 w13 w14 g15 w16 g17 w18 w19 g20 w21 g22 g23 g24 w25 w26 w27 g28 g29 w30 g31 g32 g33 fa) := by
  refine Ct.of (cc := cX8_isSmith) (maxL := 2) (ret := (some .boolean)) (by decide) (Nat.le_of_ble_eq_true rfl) ?_
  intro p e s m args below meth c A ls hC hnm V hl
  obtain ⟨hx, hb, hr, hml, hown, hts, hlocks⟩ := id hC
  generalize hH : s.heap = H at V ⊢
  clear hH
  have hl : lv_has ls 2 [(0, .ref o), (1, .int i)] := hl
  generalize hlo : ([] : List Loc) = locs at V ⊢
  clear hlo
  have ms0 := ms_rf h_a
  have hn10 := h_a.1
  refine lv_iload_n hx hb dX8_isSmith_0 rfl (lv_at hl 1 rfl) ?_
  refine lv_i2l (v := i.toInt64) hx hb dX8_isSmith_1 rfl ?_
  refine lv_lconst (v := (nI 0).toInt64) hx hb dX8_isSmith_2 (by decide +kernel) ?_
  refine lv_aload_n hx hb dX8_isSmith_3 rfl (lv_at hl 0 rfl) ?_
  refine g_get hC V (ci := 8) uwX8 0 rfl rfl 1 (by decide) w_913 rfl rfl dX8_isSmith_4 ?_
  refine lv_iconst (v := (nI 0)) hx hb dX8_isSmith_7 (by decide +kernel) ?_
  refine g_iald hC V 1 rfl (vp_in_nI (by decide) (by decide)) (v := (nI n)) (by rw [nI_clamp (by decide)]; first | rfl | exact h_a.2.1) dX8_isSmith_8 ?_
  refine lv_iconst (v := (nI 1)) hx hb dX8_isSmith_9 (by decide +kernel) ?_
  refine lv_isub hx hb dX8_isSmith_10 ?_
  refine lv_i2l (v := ((nI n) - (nI 1)).toInt64) hx hb dX8_isSmith_11 rfl ?_
  refine g_callSU (nA := 3) hC V hl.1 (m_within l D T i (nI 0) ((nI n) - (nI 1))) w_1023 w_1024 w_9 w_1025 (by decide +kernel) rfl ⟨(Nat.le_of_ble_eq_true rfl), (Nat.le_of_ble_eq_true rfl)⟩ [] rfl rfl (Nat.le_of_ble_eq_true rfl) dX8_isSmith_12 ⟨(Nat.le_of_ble_eq_true rfl), (Nat.le_of_ble_eq_true rfl)⟩ rfl (fun r w1 H locs hQ V => ?_)
  rcases hQ with ⟨rfl, rfl, f_1, f_2⟩ | ⟨rfl, rfl, f_3⟩
  · have V : gW D T A s [(o, .inr (8, [.int w0, .ref g1, .ref g2, .ref g3, .ref g4, .int (nI tp), .int w6, .int w7, .int w8, .int w9, .int w10, .int w11, .int w12, .int w13, .int w14, .ref g15, .int w16, .ref g17, .int w18, .int w19, .ref g20, .int w21, .ref g22, .ref g23, .ref g24, .int w25, .int w26, .int w27, .ref g28, .ref g29, .int w30, .ref g31, .ref g32, .ref g33])), (g1, .inl (T 0, 282, .inl fa))] H locs := V _ [] rfl rfl rfl (by decide +kernel) rfl
    show W p l e _ s m args below meth c H locs _ _ _ (F0 m 15 ls [.int (nI 1)])
    obtain ⟨j, hj, ej⟩ := pred_bd hn10 f_1 f_2
    exact g_zret (Qr := (q_m_isSmith_f T n o i w0 g1 g2 g3 g4 tp w6 w7 w8 w9 w10 w11 w12 w13 w14 g15 w16 g17 w18 w19 g20 w21 g22 g23 g24 w25 w26 w27 g28 g29 w30 g31 g32 g33 fa)) hC V ⟨(Nat.le_of_ble_eq_true rfl), (Nat.le_of_ble_eq_true rfl)⟩ (by first | decide +kernel | exact rfl) (.inl ⟨j, rfl, rfl, ej, hj⟩) dX8_isSmith_15
  · have V : gW D T A s [(o, .inr (8, [.int w0, .ref g1, .ref g2, .ref g3, .ref g4, .int (nI tp), .int w6, .int w7, .int w8, .int w9, .int w10, .int w11, .int w12, .int w13, .int w14, .ref g15, .int w16, .ref g17, .int w18, .int w19, .ref g20, .int w21, .ref g22, .ref g23, .ref g24, .int w25, .int w26, .int w27, .ref g28, .ref g29, .int w30, .ref g31, .ref g32, .ref g33])), (g1, .inl (T 0, 282, .inl fa))] H locs := V _ [] rfl rfl rfl (by decide +kernel) rfl
    show W p l e _ s m args below meth c H locs _ _ _ (F0 m 15 ls [.int (nI 0)])
    exact g_zret (Qr := (q_m_isSmith_f T n o i w0 g1 g2 g3 g4 tp w6 w7 w8 w9 w10 w11 w12 w13 w14 g15 w16 g17 w18 w19 g20 w21 g22 g23 g24 w25 w26 w27 g28 g29 w30 g31 g32 g33 fa)) hC V ⟨(Nat.le_of_ble_eq_true rfl), (Nat.le_of_ble_eq_true rfl)⟩ (by first | decide +kernel | exact rfl) (.inr ⟨rfl, rfl, (ism_o hn10 f_3)⟩) dX8_isSmith_15

def q_m_rope_f (T : Nat → ClassId) (n : Nat) (o : Nat) (i : Int32) (to : Int32) (w0 : Int32) (g1 : Nat) (g2 : Nat) (g3 : Nat) (g4 : Nat) (tp : Nat) (w6 : Int32) (w7 : Int32) (w8 : Int32) (w9 : Int32) (w10 : Int32) (w11 : Int32) (w12 : Int32) (w13 : Int32) (w14 : Int32) (g15 : Nat) (w16 : Int32) (g17 : Nat) (w18 : Int32) (w19 : Int32) (g20 : Nat) (w21 : Int32) (g22 : Nat) (g23 : Nat) (g24 : Nat) (w25 : Int32) (w26 : Int32) (w27 : Int32) (g28 : Nat) (g29 : Nat) (w30 : Int32) (g31 : Nat) (g32 : Nat) (g33 : Nat) (fa : Nat → Int32) : Option Value → va_W → Prop := fun rr ww => (∃ (z : Int32) (ga : Nat → Int32), rr = some (.int z) ∧ ww = [(o, .inr (8, [.int (nI 0), .ref g1, .ref g2, .ref g3, .ref g4, .int (nI tp), .int w6, .int w7, .int w8, .int w9, .int w10, .int w11, .int w12, .int w13, .int w14, .ref g15, .int w16, .ref g17, .int w18, .int w19, .ref g20, .int w21, .ref g22, .ref g23, .ref g24, .int w25, .int w26, .int w27, .ref g28, .ref g29, .int w30, .ref g31, .ref g32, .ref g33])), (g1, .inl (T 0, 282, .inl ga))] ∧ MS n fa ga ∧ z = ropeA n fa i to ∧ ga = ropeF n fa i to)
set_option maxHeartbeats 4000000 in
set_option maxRecDepth 100000 in
theorem m_rope_f (l : Launch) (D : va_G) (T : Nat → ClassId) (n : Nat) (o : Nat) (i : Int32) (to : Int32) (w0 : Int32) (g1 : Nat) (g2 : Nat) (g3 : Nat) (g4 : Nat) (tp : Nat) (w6 : Int32) (w7 : Int32) (w8 : Int32) (w9 : Int32) (w10 : Int32) (w11 : Int32) (w12 : Int32) (w13 : Int32) (w14 : Int32) (g15 : Nat) (w16 : Int32) (g17 : Nat) (w18 : Int32) (w19 : Int32) (g20 : Nat) (w21 : Int32) (g22 : Nat) (g23 : Nat) (g24 : Nat) (w25 : Int32) (w26 : Int32) (w27 : Int32) (g28 : Nat) (g29 : Nat) (w30 : Int32) (g31 : Nat) (g32 : Nat) (g33 : Nat) (fa : Nat → Int32) (h_a : MI n fa) : Ct l yX8_rope cX8_rope 4 (some .int) 2 0 0 D T [.ref o, .int i, .int to] [(o, .inr (8, [.int w0, .ref g1, .ref g2, .ref g3, .ref g4, .int (nI tp), .int w6, .int w7, .int w8, .int w9, .int w10, .int w11, .int w12, .int w13, .int w14, .ref g15, .int w16, .ref g17, .int w18, .int w19, .ref g20, .int w21, .ref g22, .ref g23, .ref g24, .int w25, .int w26, .int w27, .ref g28, .ref g29, .int w30, .ref g31, .ref g32, .ref g33])), (g1, .inl (T 0, 282, .inl fa))] (q_m_rope_f T n o i to w0 g1 g2 g3 g4 tp w6 w7 w8 w9 w10 w11 w12 w13 w14 g15 w16 g17 w18 w19 g20 w21 g22 g23 g24 w25 w26 w27 g28 g29 w30 g31 g32 g33 fa) := by
  refine Ct.of (cc := cX8_rope) (maxL := 4) (ret := (some .int)) (by decide) (Nat.le_of_ble_eq_true rfl) ?_
  intro p e s m args below meth c A ls hC hnm V hl
  obtain ⟨hx, hb, hr, hml, hown, hts, hlocks⟩ := id hC
  generalize hH : s.heap = H at V ⊢
  clear hH
  have hl : lv_has ls 4 [(0, .ref o), (1, .int i), (2, .int to)] := hl
  generalize hlo : ([] : List Loc) = locs at V ⊢
  clear hlo
  have ms0 := ms_rf h_a
  have hn10 := h_a.1
  refine lv_aload_n hx hb dX8_rope_0 rfl (lv_at hl 0 rfl) ?_
  refine lv_iconst (v := (nI 0)) hx hb dX8_rope_1 (by decide +kernel) ?_
  refine g_put hC V (ci := 8) uwX8 tyX8 tyX8_ok nmX8 0 rfl rfl 0 (by decide) w_912 rfl rfl rfl rfl (Nat.le_of_ble_eq_true rfl) (ws' := [(o, .inr (8, [.int (nI 0), .ref g1, .ref g2, .ref g3, .ref g4, .int (nI tp), .int w6, .int w7, .int w8, .int w9, .int w10, .int w11, .int w12, .int w13, .int w14, .ref g15, .int w16, .ref g17, .int w18, .int w19, .ref g20, .int w21, .ref g22, .ref g23, .ref g24, .int w25, .int w26, .int w27, .ref g28, .ref g29, .int w30, .ref g31, .ref g32, .ref g33])), (g1, .inl (T 0, 282, .inl fa))]) rfl dX8_rope_2 (fun H locs V => ?_)
  refine lv_aload_n hx hb dX8_rope_5 rfl (lv_at hl 0 rfl) ?_
  refine lv_iload_n hx hb dX8_rope_6 rfl (lv_at hl 1 rfl) ?_
  refine g_callV (wr := []) (nA := 1) hC V hl.1 (m_isSmith_f l D T n o i (nI 0) g1 g2 g3 g4 tp w6 w7 w8 w9 w10 w11 w12 w13 w14 g15 w16 g17 w18 w19 g20 w21 g22 g23 g24 w25 w26 w27 g28 g29 w30 g31 g32 g33 fa h_a) w_1083 w_1085 w_s46 w_9 w_1086 (by decide +kernel) rfl ⟨(Nat.le_of_ble_eq_true rfl), (Nat.le_of_ble_eq_true rfl)⟩ 0 (ci := 8) rfl rfl [0, 1] [] rfl rfl rfl rfl (by decide) (Nat.le_of_ble_eq_true rfl) dX8_rope_7 ⟨(Nat.le_of_ble_eq_true rfl), (Nat.le_of_ble_eq_true rfl)⟩ rfl (fun r w1 H locs hQ V => ?_)
  rcases hQ with ⟨j_1, rfl, rfl, f_2, f_3⟩ | ⟨rfl, rfl, f_4⟩
  · have V : gW D T A s [(o, .inr (8, [.int (nI 0), .ref g1, .ref g2, .ref g3, .ref g4, .int (nI tp), .int w6, .int w7, .int w8, .int w9, .int w10, .int w11, .int w12, .int w13, .int w14, .ref g15, .int w16, .ref g17, .int w18, .int w19, .ref g20, .int w21, .ref g22, .ref g23, .ref g24, .int w25, .int w26, .int w27, .ref g28, .ref g29, .int w30, .ref g31, .ref g32, .ref g33])), (g1, .inl (T 0, 282, .inl fa))] H locs := V
    show W p l e _ s m args below meth c H locs _ _ _ (F0 m 10 ls [.int (nI 1)])
    rw [f_2] at hl
    refine lv_if_eq (tgt := 21) hx hb dX8_rope_10 (by decide) (fun c => absurd (show (nI 1) = 0 from c) (by decide +kernel)) (fun _ => ?_)
    refine lv_aload_n hx hb dX8_rope_13 rfl (lv_at hl 0 rfl) ?_
    refine lv_iload_n hx hb dX8_rope_14 rfl (lv_at hl 2 rfl) ?_
    refine g_callV (wr := []) (nA := 1) hC V hl.1 (m_isSmith_f l D T n o to (nI 0) g1 g2 g3 g4 tp w6 w7 w8 w9 w10 w11 w12 w13 w14 g15 w16 g17 w18 w19 g20 w21 g22 g23 g24 w25 w26 w27 g28 g29 w30 g31 g32 g33 fa h_a) w_1083 w_1085 w_s46 w_9 w_1086 (by decide +kernel) rfl ⟨(Nat.le_of_ble_eq_true rfl), (Nat.le_of_ble_eq_true rfl)⟩ 0 (ci := 8) rfl rfl [0, 1] [] rfl rfl rfl rfl (by decide) (Nat.le_of_ble_eq_true rfl) dX8_rope_15 ⟨(Nat.le_of_ble_eq_true rfl), (Nat.le_of_ble_eq_true rfl)⟩ rfl (fun r w1 H locs hQ V => ?_)
    rcases hQ with ⟨j_5, rfl, rfl, f_6, f_7⟩ | ⟨rfl, rfl, f_8⟩
    · have V : gW D T A s [(o, .inr (8, [.int (nI 0), .ref g1, .ref g2, .ref g3, .ref g4, .int (nI tp), .int w6, .int w7, .int w8, .int w9, .int w10, .int w11, .int w12, .int w13, .int w14, .ref g15, .int w16, .ref g17, .int w18, .int w19, .ref g20, .int w21, .ref g22, .ref g23, .ref g24, .int w25, .int w26, .int w27, .ref g28, .ref g29, .int w30, .ref g31, .ref g32, .ref g33])), (g1, .inl (T 0, 282, .inl fa))] H locs := V
      show W p l e _ s m args below meth c H locs _ _ _ (F0 m 18 ls [.int (nI 1)])
      rw [f_6] at hl
      refine lv_if_ne (tgt := 24) hx hb dX8_rope_18 (by decide) (fun _ => ?_) (fun c => absurd (show (nI 1) = 0 from c) (by decide +kernel))
      refine lv_aload_n hx hb dX8_rope_24 rfl (lv_at hl 0 rfl) ?_
      refine g_get hC V (ci := 8) uwX8 0 rfl rfl 1 (by decide) w_913 rfl rfl dX8_rope_25 ?_
      refine lv_bipush (v := (nI 84)) hx hb dX8_rope_28 (by decide +kernel) ?_
      refine lv_iload_n hx hb dX8_rope_30 rfl (lv_at hl 1 rfl) ?_
      refine lv_iadd hx hb dX8_rope_31 ?_
      refine g_vi (y := (nI (84 + j_1))) (nI_add _ _) ?_
      obtain ⟨j_9, hj_9, ej_9⟩ := bd_ex (mi_to h_a (i := j_1) (by omega))
      refine g_iald hC V 1 rfl (vp_in_nI (by omega) (by omega)) (v := (nI j_9)) (by rw [nI_clamp (by omega)]; exact ej_9) dX8_rope_32 ?_
      refine lv_istore_n (lv' := [(3, .int (nI j_9)), (0, .ref o), (1, .int (nI j_1)), (2, .int (nI j_5))]) hx hb dX8_rope_33 rfl hl (by decide) rfl (fun ls hl => ?_)
      refine lv_aload_n hx hb dX8_rope_34 rfl (lv_at hl 1 rfl) ?_
      refine g_get hC V (ci := 8) uwX8 0 rfl rfl 1 (by decide) w_913 rfl rfl dX8_rope_35 ?_
      refine lv_bipush (v := (nI 84)) hx hb dX8_rope_38 (by decide +kernel) ?_
      refine lv_iload_n hx hb dX8_rope_40 rfl (lv_at hl 2 rfl) ?_
      refine lv_iadd hx hb dX8_rope_41 ?_
      refine g_vi (y := (nI (84 + j_1))) (nI_add _ _) ?_
      refine lv_iload_n hx hb dX8_rope_42 rfl (lv_at hl 3 rfl) ?_
      obtain ⟨f_10, ef_10⟩ : ∃ x, x = upd fa (84 + j_1) (nI j_5) := ⟨_, rfl⟩
      have hf_10 : MS n fa f_10 := by rw [ef_10]; exact ms_st (by assumption) (by omega) (by omega) (by intros; first | (exfalso; omega) | exact bd_nI (by omega) | exact bd_le ‹bd (nI j_5) _› (by omega) | assumption) (by intros; first | (exfalso; omega) | exact bd_nI (by omega) | exact bd_le ‹bd (nI j_5) _› (by omega) | assumption) (by intros; first | (exfalso; omega) | exact bd_nI (by omega) | exact bd_le ‹bd (nI j_5) _› (by omega) | assumption) (by intros; first | (exfalso; omega) | exact bd_nI (by omega) | exact bd_le ‹bd (nI j_5) _› (by omega) | assumption) (by intros; first | (exfalso; omega) | exact bd_nI (by omega) | exact bd_le ‹bd (nI j_5) _› (by omega) | assumption) (by intros; first | (exfalso; omega) | exact bd_nI (by omega) | exact bd_le ‹bd (nI j_5) _› (by omega) | assumption) (by intros; first | (exfalso; omega) | exact bd_nI (by omega) | exact bd_le ‹bd (nI j_5) _› (by omega) | assumption)
      refine g_iast hC V 1 rfl (vp_in_nI (by omega) (by omega)) (f' := f_10) (by rw [nI_clamp (by omega)]; exact ef_10.symm) (ws' := [(o, .inr (8, [.int (nI 0), .ref g1, .ref g2, .ref g3, .ref g4, .int (nI tp), .int w6, .int w7, .int w8, .int w9, .int w10, .int w11, .int w12, .int w13, .int w14, .ref g15, .int w16, .ref g17, .int w18, .int w19, .ref g20, .int w21, .ref g22, .ref g23, .ref g24, .int w25, .int w26, .int w27, .ref g28, .ref g29, .int w30, .ref g31, .ref g32, .ref g33])), (g1, .inl (T 0, 282, .inl f_10))]) rfl dX8_rope_43 (fun H locs V => ?_)
      refine lv_iload_n hx hb dX8_rope_44 rfl (lv_at hl 0 rfl) ?_
      exact g_iret (Qr := (q_m_rope_f T n o i to w0 g1 g2 g3 g4 tp w6 w7 w8 w9 w10 w11 w12 w13 w14 g15 w16 g17 w18 w19 g20 w21 g22 g23 g24 w25 w26 w27 g28 g29 w30 g31 g32 g33 fa)) hC V ⟨(Nat.le_of_ble_eq_true rfl), (Nat.le_of_ble_eq_true rfl)⟩ ⟨(nI j_9), f_10, rfl, rfl, hf_10, (ej_9.symm.trans (rp_y (f := fa) hn10 f_2 f_3 f_6 f_7).1), (Eq.trans ef_10 (rp_y (f := fa) hn10 f_2 f_3 f_6 f_7).2)⟩ dX8_rope_45
    · have V : gW D T A s [(o, .inr (8, [.int (nI 0), .ref g1, .ref g2, .ref g3, .ref g4, .int (nI tp), .int w6, .int w7, .int w8, .int w9, .int w10, .int w11, .int w12, .int w13, .int w14, .ref g15, .int w16, .ref g17, .int w18, .int w19, .ref g20, .int w21, .ref g22, .ref g23, .ref g24, .int w25, .int w26, .int w27, .ref g28, .ref g29, .int w30, .ref g31, .ref g32, .ref g33])), (g1, .inl (T 0, 282, .inl fa))] H locs := V
      show W p l e _ s m args below meth c H locs _ _ _ (F0 m 18 ls [.int (nI 0)])
      refine lv_if_ne (tgt := 24) hx hb dX8_rope_18 (by decide) (fun c => absurd (show (nI 0) = 0 by decide +kernel) c) (fun _ => ?_)
      refine lv_bipush (v := (-2)) hx hb dX8_rope_21 (by decide +kernel) ?_
      exact g_iret (Qr := (q_m_rope_f T n o i to w0 g1 g2 g3 g4 tp w6 w7 w8 w9 w10 w11 w12 w13 w14 g15 w16 g17 w18 w19 g20 w21 g22 g23 g24 w25 w26 w27 g28 g29 w30 g31 g32 g33 fa)) hC V ⟨(Nat.le_of_ble_eq_true rfl), (Nat.le_of_ble_eq_true rfl)⟩ ⟨(-2), fa, rfl, rfl, ms0, (rp_2 (f := fa) (i := i) f_8).1, (rp_2 (f := fa) (i := i) f_8).2⟩ dX8_rope_23
  · have V : gW D T A s [(o, .inr (8, [.int (nI 0), .ref g1, .ref g2, .ref g3, .ref g4, .int (nI tp), .int w6, .int w7, .int w8, .int w9, .int w10, .int w11, .int w12, .int w13, .int w14, .ref g15, .int w16, .ref g17, .int w18, .int w19, .ref g20, .int w21, .ref g22, .ref g23, .ref g24, .int w25, .int w26, .int w27, .ref g28, .ref g29, .int w30, .ref g31, .ref g32, .ref g33])), (g1, .inl (T 0, 282, .inl fa))] H locs := V
    show W p l e _ s m args below meth c H locs _ _ _ (F0 m 10 ls [.int (nI 0)])
    refine lv_if_eq (tgt := 21) hx hb dX8_rope_10 (by decide) (fun _ => ?_) (fun c => absurd (show (nI 0) = 0 by decide +kernel) c)
    refine lv_bipush (v := (-2)) hx hb dX8_rope_21 (by decide +kernel) ?_
    exact g_iret (Qr := (q_m_rope_f T n o i to w0 g1 g2 g3 g4 tp w6 w7 w8 w9 w10 w11 w12 w13 w14 g15 w16 g17 w18 w19 g20 w21 g22 g23 g24 w25 w26 w27 g28 g29 w30 g31 g32 g33 fa)) hC V ⟨(Nat.le_of_ble_eq_true rfl), (Nat.le_of_ble_eq_true rfl)⟩ ⟨(-2), fa, rfl, rfl, ms0, (rp_1 (f := fa) (to := to) f_4).1, (rp_1 (f := fa) (to := to) f_4).2⟩ dX8_rope_23

def q_m_arm_f (T : Nat → ClassId) (n : Nat) (o : Nat) (i : Int32) (bl : Int32) (w0 : Int32) (g1 : Nat) (g2 : Nat) (g3 : Nat) (g4 : Nat) (tp : Nat) (w6 : Int32) (w7 : Int32) (w8 : Int32) (w9 : Int32) (w10 : Int32) (w11 : Int32) (w12 : Int32) (w13 : Int32) (w14 : Int32) (g15 : Nat) (w16 : Int32) (g17 : Nat) (w18 : Int32) (w19 : Int32) (g20 : Nat) (w21 : Int32) (g22 : Nat) (g23 : Nat) (g24 : Nat) (w25 : Int32) (w26 : Int32) (w27 : Int32) (g28 : Nat) (g29 : Nat) (w30 : Int32) (g31 : Nat) (g32 : Nat) (g33 : Nat) (fa : Nat → Int32) : Option Value → va_W → Prop := fun rr ww => (∃ (z : Int32) (ga : Nat → Int32), rr = some (.int z) ∧ ww = [(o, .inr (8, [.int (nI 0), .ref g1, .ref g2, .ref g3, .ref g4, .int (nI tp), .int w6, .int w7, .int w8, .int w9, .int w10, .int w11, .int w12, .int w13, .int w14, .ref g15, .int w16, .ref g17, .int w18, .int w19, .ref g20, .int w21, .ref g22, .ref g23, .ref g24, .int w25, .int w26, .int w27, .ref g28, .ref g29, .int w30, .ref g31, .ref g32, .ref g33])), (g1, .inl (T 0, 282, .inl ga))] ∧ MS n fa ga ∧ z = armA n fa i bl ∧ ga = armF n fa i bl)
set_option maxHeartbeats 4000000 in
set_option maxRecDepth 100000 in
theorem m_arm_f (l : Launch) (D : va_G) (T : Nat → ClassId) (n : Nat) (o : Nat) (i : Int32) (bl : Int32) (w0 : Int32) (g1 : Nat) (g2 : Nat) (g3 : Nat) (g4 : Nat) (tp : Nat) (w6 : Int32) (w7 : Int32) (w8 : Int32) (w9 : Int32) (w10 : Int32) (w11 : Int32) (w12 : Int32) (w13 : Int32) (w14 : Int32) (g15 : Nat) (w16 : Int32) (g17 : Nat) (w18 : Int32) (w19 : Int32) (g20 : Nat) (w21 : Int32) (g22 : Nat) (g23 : Nat) (g24 : Nat) (w25 : Int32) (w26 : Int32) (w27 : Int32) (g28 : Nat) (g29 : Nat) (w30 : Int32) (g31 : Nat) (g32 : Nat) (g33 : Nat) (fa : Nat → Int32) (h_a : MI n fa) : Ct l yX8_arm cX8_arm 4 (some .int) 2 0 0 D T [.ref o, .int i, .int bl] [(o, .inr (8, [.int w0, .ref g1, .ref g2, .ref g3, .ref g4, .int (nI tp), .int w6, .int w7, .int w8, .int w9, .int w10, .int w11, .int w12, .int w13, .int w14, .ref g15, .int w16, .ref g17, .int w18, .int w19, .ref g20, .int w21, .ref g22, .ref g23, .ref g24, .int w25, .int w26, .int w27, .ref g28, .ref g29, .int w30, .ref g31, .ref g32, .ref g33])), (g1, .inl (T 0, 282, .inl fa))] (q_m_arm_f T n o i bl w0 g1 g2 g3 g4 tp w6 w7 w8 w9 w10 w11 w12 w13 w14 g15 w16 g17 w18 w19 g20 w21 g22 g23 g24 w25 w26 w27 g28 g29 w30 g31 g32 g33 fa) := by
  refine Ct.of (cc := cX8_arm) (maxL := 4) (ret := (some .int)) (by decide) (Nat.le_of_ble_eq_true rfl) ?_
  intro p e s m args below meth c A ls hC hnm V hl
  obtain ⟨hx, hb, hr, hml, hown, hts, hlocks⟩ := id hC
  generalize hH : s.heap = H at V ⊢
  clear hH
  have hl : lv_has ls 4 [(0, .ref o), (1, .int i), (2, .int bl)] := hl
  generalize hlo : ([] : List Loc) = locs at V ⊢
  clear hlo
  have ms0 := ms_rf h_a
  have hn10 := h_a.1
  refine lv_aload_n hx hb dX8_arm_0 rfl (lv_at hl 0 rfl) ?_
  refine lv_iconst (v := (nI 0)) hx hb dX8_arm_1 (by decide +kernel) ?_
  refine g_put hC V (ci := 8) uwX8 tyX8 tyX8_ok nmX8 0 rfl rfl 0 (by decide) w_912 rfl rfl rfl rfl (Nat.le_of_ble_eq_true rfl) (ws' := [(o, .inr (8, [.int (nI 0), .ref g1, .ref g2, .ref g3, .ref g4, .int (nI tp), .int w6, .int w7, .int w8, .int w9, .int w10, .int w11, .int w12, .int w13, .int w14, .ref g15, .int w16, .ref g17, .int w18, .int w19, .ref g20, .int w21, .ref g22, .ref g23, .ref g24, .int w25, .int w26, .int w27, .ref g28, .ref g29, .int w30, .ref g31, .ref g32, .ref g33])), (g1, .inl (T 0, 282, .inl fa))]) rfl dX8_arm_2 (fun H locs V => ?_)
  refine lv_aload_n hx hb dX8_arm_5 rfl (lv_at hl 0 rfl) ?_
  refine lv_iload_n hx hb dX8_arm_6 rfl (lv_at hl 1 rfl) ?_
  refine g_callV (wr := []) (nA := 1) hC V hl.1 (m_isSmith_f l D T n o i (nI 0) g1 g2 g3 g4 tp w6 w7 w8 w9 w10 w11 w12 w13 w14 g15 w16 g17 w18 w19 g20 w21 g22 g23 g24 w25 w26 w27 g28 g29 w30 g31 g32 g33 fa h_a) w_1083 w_1085 w_s46 w_9 w_1086 (by decide +kernel) rfl ⟨(Nat.le_of_ble_eq_true rfl), (Nat.le_of_ble_eq_true rfl)⟩ 0 (ci := 8) rfl rfl [0, 1] [] rfl rfl rfl rfl (by decide) (Nat.le_of_ble_eq_true rfl) dX8_arm_7 ⟨(Nat.le_of_ble_eq_true rfl), (Nat.le_of_ble_eq_true rfl)⟩ rfl (fun r w1 H locs hQ V => ?_)
  rcases hQ with ⟨j_1, rfl, rfl, f_2, f_3⟩ | ⟨rfl, rfl, f_4⟩
  · have V : gW D T A s [(o, .inr (8, [.int (nI 0), .ref g1, .ref g2, .ref g3, .ref g4, .int (nI tp), .int w6, .int w7, .int w8, .int w9, .int w10, .int w11, .int w12, .int w13, .int w14, .ref g15, .int w16, .ref g17, .int w18, .int w19, .ref g20, .int w21, .ref g22, .ref g23, .ref g24, .int w25, .int w26, .int w27, .ref g28, .ref g29, .int w30, .ref g31, .ref g32, .ref g33])), (g1, .inl (T 0, 282, .inl fa))] H locs := V
    show W p l e _ s m args below meth c H locs _ _ _ (F0 m 10 ls [.int (nI 1)])
    rw [f_2] at hl
    refine lv_if_ne (tgt := 16) hx hb dX8_arm_10 (by decide) (fun _ => ?_) (fun c => absurd (show (nI 1) = 0 from c) (by decide +kernel))
    refine lv_iload_n hx hb dX8_arm_16 rfl (lv_at hl 2 rfl) ?_
    refine lv_i2l (v := bl.toInt64) hx hb dX8_arm_17 rfl ?_
    refine lv_lconst (v := (nI 0).toInt64) hx hb dX8_arm_18 (by decide +kernel) ?_
    refine lv_ldc2 (v := (60)) hx hb hown (hts _ w_1108) dX8_arm_19 ?_
    refine g_vl (y := (nI 60).toInt64) (by decide +kernel) ?_
    refine g_callSU (nA := 3) hC V hl.1 (m_within l D T bl (nI 0) (nI 60)) w_1023 w_1024 w_9 w_1025 (by decide +kernel) rfl ⟨(Nat.le_of_ble_eq_true rfl), (Nat.le_of_ble_eq_true rfl)⟩ [] rfl rfl (Nat.le_of_ble_eq_true rfl) dX8_arm_22 ⟨(Nat.le_of_ble_eq_true rfl), (Nat.le_of_ble_eq_true rfl)⟩ rfl (fun r w1 H locs hQ V => ?_)
    rcases hQ with ⟨rfl, rfl, f_5, f_6⟩ | ⟨rfl, rfl, f_7⟩
    · have V : gW D T A s [(o, .inr (8, [.int (nI 0), .ref g1, .ref g2, .ref g3, .ref g4, .int (nI tp), .int w6, .int w7, .int w8, .int w9, .int w10, .int w11, .int w12, .int w13, .int w14, .ref g15, .int w16, .ref g17, .int w18, .int w19, .ref g20, .int w21, .ref g22, .ref g23, .ref g24, .int w25, .int w26, .int w27, .ref g28, .ref g29, .int w30, .ref g31, .ref g32, .ref g33])), (g1, .inl (T 0, 282, .inl fa))] H locs := V _ [] rfl rfl rfl (by decide +kernel) rfl
      show W p l e _ s m args below meth c H locs _ _ _ (F0 m 25 ls [.int (nI 1)])
      obtain ⟨jb, hjb1, hjb2, ejb⟩ := g_rng (by first | decide | omega) (by first | decide | omega) f_5 f_6
      rw [ejb] at hl
      refine lv_if_ne (tgt := 31) hx hb dX8_arm_25 (by decide) (fun _ => ?_) (fun c => absurd (show (nI 1) = 0 from c) (by decide +kernel))
      refine lv_aload_n hx hb dX8_arm_31 rfl (lv_at hl 0 rfl) ?_
      refine g_get hC V (ci := 8) uwX8 0 rfl rfl 1 (by decide) w_913 rfl rfl dX8_arm_32 ?_
      refine lv_iconst (v := (nI 4)) hx hb dX8_arm_35 (by decide +kernel) ?_
      refine lv_iload_n hx hb dX8_arm_36 rfl (lv_at hl 1 rfl) ?_
      refine lv_iadd hx hb dX8_arm_37 ?_
      refine g_vi (y := (nI (4 + j_1))) (nI_add _ _) ?_
      obtain ⟨j_8, hj_8, ej_8⟩ := bd_ex (mi_blast h_a (i := j_1) (by omega))
      refine g_iald hC V 1 rfl (vp_in_nI (by omega) (by omega)) (v := (nI j_8)) (by rw [nI_clamp (by omega)]; exact ej_8) dX8_arm_38 ?_
      refine lv_istore_n (lv' := [(3, .int (nI j_8)), (0, .ref o), (1, .int (nI j_1)), (2, .int (nI jb))]) hx hb dX8_arm_39 rfl hl (by decide) rfl (fun ls hl => ?_)
      refine lv_aload_n hx hb dX8_arm_40 rfl (lv_at hl 1 rfl) ?_
      refine g_get hC V (ci := 8) uwX8 0 rfl rfl 1 (by decide) w_913 rfl rfl dX8_arm_41 ?_
      refine lv_iconst (v := (nI 4)) hx hb dX8_arm_44 (by decide +kernel) ?_
      refine lv_iload_n hx hb dX8_arm_45 rfl (lv_at hl 2 rfl) ?_
      refine lv_iadd hx hb dX8_arm_46 ?_
      refine g_vi (y := (nI (4 + j_1))) (nI_add _ _) ?_
      refine lv_iload_n hx hb dX8_arm_47 rfl (lv_at hl 3 rfl) ?_
      obtain ⟨f_9, ef_9⟩ : ∃ x, x = upd fa (4 + j_1) (nI jb) := ⟨_, rfl⟩
      have hf_9 : MS n fa f_9 := by rw [ef_9]; exact ms_st (by assumption) (by omega) (by omega) (by intros; first | (exfalso; omega) | exact bd_nI (by omega) | exact bd_le ‹bd (nI jb) _› (by omega) | assumption) (by intros; first | (exfalso; omega) | exact bd_nI (by omega) | exact bd_le ‹bd (nI jb) _› (by omega) | assumption) (by intros; first | (exfalso; omega) | exact bd_nI (by omega) | exact bd_le ‹bd (nI jb) _› (by omega) | assumption) (by intros; first | (exfalso; omega) | exact bd_nI (by omega) | exact bd_le ‹bd (nI jb) _› (by omega) | assumption) (by intros; first | (exfalso; omega) | exact bd_nI (by omega) | exact bd_le ‹bd (nI jb) _› (by omega) | assumption) (by intros; first | (exfalso; omega) | exact bd_nI (by omega) | exact bd_le ‹bd (nI jb) _› (by omega) | assumption) (by intros; first | (exfalso; omega) | exact bd_nI (by omega) | exact bd_le ‹bd (nI jb) _› (by omega) | assumption)
      refine g_iast hC V 1 rfl (vp_in_nI (by omega) (by omega)) (f' := f_9) (by rw [nI_clamp (by omega)]; exact ef_9.symm) (ws' := [(o, .inr (8, [.int (nI 0), .ref g1, .ref g2, .ref g3, .ref g4, .int (nI tp), .int w6, .int w7, .int w8, .int w9, .int w10, .int w11, .int w12, .int w13, .int w14, .ref g15, .int w16, .ref g17, .int w18, .int w19, .ref g20, .int w21, .ref g22, .ref g23, .ref g24, .int w25, .int w26, .int w27, .ref g28, .ref g29, .int w30, .ref g31, .ref g32, .ref g33])), (g1, .inl (T 0, 282, .inl f_9))]) rfl dX8_arm_48 (fun H locs V => ?_)
      refine lv_iload_n hx hb dX8_arm_49 rfl (lv_at hl 0 rfl) ?_
      exact g_iret (Qr := (q_m_arm_f T n o i bl w0 g1 g2 g3 g4 tp w6 w7 w8 w9 w10 w11 w12 w13 w14 g15 w16 g17 w18 w19 g20 w21 g22 g23 g24 w25 w26 w27 g28 g29 w30 g31 g32 g33 fa)) hC V ⟨(Nat.le_of_ble_eq_true rfl), (Nat.le_of_ble_eq_true rfl)⟩ ⟨(nI j_8), f_9, rfl, rfl, hf_9, (ej_8.symm.trans (ar_y (f := fa) hn10 f_2 f_3 f_5 f_6).1), (by rw [ef_9, ← ejb]; exact (ar_y (f := fa) hn10 f_2 f_3 f_5 f_6).2)⟩ dX8_arm_50
    · have V : gW D T A s [(o, .inr (8, [.int (nI 0), .ref g1, .ref g2, .ref g3, .ref g4, .int (nI tp), .int w6, .int w7, .int w8, .int w9, .int w10, .int w11, .int w12, .int w13, .int w14, .ref g15, .int w16, .ref g17, .int w18, .int w19, .ref g20, .int w21, .ref g22, .ref g23, .ref g24, .int w25, .int w26, .int w27, .ref g28, .ref g29, .int w30, .ref g31, .ref g32, .ref g33])), (g1, .inl (T 0, 282, .inl fa))] H locs := V _ [] rfl rfl rfl (by decide +kernel) rfl
      show W p l e _ s m args below meth c H locs _ _ _ (F0 m 25 ls [.int (nI 0)])
      refine lv_if_ne (tgt := 31) hx hb dX8_arm_25 (by decide) (fun c => absurd (show (nI 0) = 0 by decide +kernel) c) (fun _ => ?_)
      refine lv_bipush (v := (-3)) hx hb dX8_arm_28 (by decide +kernel) ?_
      exact g_iret (Qr := (q_m_arm_f T n o i bl w0 g1 g2 g3 g4 tp w6 w7 w8 w9 w10 w11 w12 w13 w14 g15 w16 g17 w18 w19 g20 w21 g22 g23 g24 w25 w26 w27 g28 g29 w30 g31 g32 g33 fa)) hC V ⟨(Nat.le_of_ble_eq_true rfl), (Nat.le_of_ble_eq_true rfl)⟩ ⟨(-3), fa, rfl, rfl, ms0, (ar_2 (f := fa) hn10 f_2 f_3 f_7).1, (ar_2 (f := fa) hn10 f_2 f_3 f_7).2⟩ dX8_arm_30
  · have V : gW D T A s [(o, .inr (8, [.int (nI 0), .ref g1, .ref g2, .ref g3, .ref g4, .int (nI tp), .int w6, .int w7, .int w8, .int w9, .int w10, .int w11, .int w12, .int w13, .int w14, .ref g15, .int w16, .ref g17, .int w18, .int w19, .ref g20, .int w21, .ref g22, .ref g23, .ref g24, .int w25, .int w26, .int w27, .ref g28, .ref g29, .int w30, .ref g31, .ref g32, .ref g33])), (g1, .inl (T 0, 282, .inl fa))] H locs := V
    show W p l e _ s m args below meth c H locs _ _ _ (F0 m 10 ls [.int (nI 0)])
    refine lv_if_ne (tgt := 16) hx hb dX8_arm_10 (by decide) (fun c => absurd (show (nI 0) = 0 by decide +kernel) c) (fun _ => ?_)
    refine lv_bipush (v := (-2)) hx hb dX8_arm_13 (by decide +kernel) ?_
    exact g_iret (Qr := (q_m_arm_f T n o i bl w0 g1 g2 g3 g4 tp w6 w7 w8 w9 w10 w11 w12 w13 w14 g15 w16 g17 w18 w19 g20 w21 g22 g23 g24 w25 w26 w27 g28 g29 w30 g31 g32 g33 fa)) hC V ⟨(Nat.le_of_ble_eq_true rfl), (Nat.le_of_ble_eq_true rfl)⟩ ⟨(-2), fa, rfl, rfl, ms0, (ar_1 (f := fa) (b := bl) f_4).1, (ar_1 (f := fa) (b := bl) f_4).2⟩ dX8_arm_15

def q_m_piece_f (T : Nat → ClassId) (n : Nat) (o : Nat) (i : Int32) (st : Int32) (w0 : Int32) (g1 : Nat) (g2 : Nat) (g3 : Nat) (g4 : Nat) (tp : Nat) (w6 : Int32) (w7 : Int32) (w8 : Int32) (w9 : Int32) (w10 : Int32) (w11 : Int32) (w12 : Int32) (w13 : Int32) (w14 : Int32) (g15 : Nat) (w16 : Int32) (g17 : Nat) (w18 : Int32) (w19 : Int32) (g20 : Nat) (w21 : Int32) (g22 : Nat) (g23 : Nat) (g24 : Nat) (w25 : Int32) (w26 : Int32) (w27 : Int32) (g28 : Nat) (g29 : Nat) (w30 : Int32) (g31 : Nat) (g32 : Nat) (g33 : Nat) (fa : Nat → Int32) : Option Value → va_W → Prop := fun rr ww => (∃ (z : Int32) (ga : Nat → Int32), rr = some (.int z) ∧ ww = [(o, .inr (8, [.int (nI 0), .ref g1, .ref g2, .ref g3, .ref g4, .int (nI tp), .int w6, .int w7, .int w8, .int w9, .int w10, .int w11, .int w12, .int w13, .int w14, .ref g15, .int w16, .ref g17, .int w18, .int w19, .ref g20, .int w21, .ref g22, .ref g23, .ref g24, .int w25, .int w26, .int w27, .ref g28, .ref g29, .int w30, .ref g31, .ref g32, .ref g33])), (g1, .inl (T 0, 282, .inl ga))] ∧ MS n fa ga ∧ z = pieA n fa i st ∧ ga = pieF n fa i st)
set_option maxHeartbeats 4000000 in
set_option maxRecDepth 100000 in
theorem m_piece_f (l : Launch) (D : va_G) (T : Nat → ClassId) (n : Nat) (o : Nat) (i : Int32) (st : Int32) (w0 : Int32) (g1 : Nat) (g2 : Nat) (g3 : Nat) (g4 : Nat) (tp : Nat) (w6 : Int32) (w7 : Int32) (w8 : Int32) (w9 : Int32) (w10 : Int32) (w11 : Int32) (w12 : Int32) (w13 : Int32) (w14 : Int32) (g15 : Nat) (w16 : Int32) (g17 : Nat) (w18 : Int32) (w19 : Int32) (g20 : Nat) (w21 : Int32) (g22 : Nat) (g23 : Nat) (g24 : Nat) (w25 : Int32) (w26 : Int32) (w27 : Int32) (g28 : Nat) (g29 : Nat) (w30 : Int32) (g31 : Nat) (g32 : Nat) (g33 : Nat) (fa : Nat → Int32) (h_a : MI n fa) : Ct l yX8_piece cX8_piece 4 (some .int) 2 0 0 D T [.ref o, .int i, .int st] [(o, .inr (8, [.int w0, .ref g1, .ref g2, .ref g3, .ref g4, .int (nI tp), .int w6, .int w7, .int w8, .int w9, .int w10, .int w11, .int w12, .int w13, .int w14, .ref g15, .int w16, .ref g17, .int w18, .int w19, .ref g20, .int w21, .ref g22, .ref g23, .ref g24, .int w25, .int w26, .int w27, .ref g28, .ref g29, .int w30, .ref g31, .ref g32, .ref g33])), (g1, .inl (T 0, 282, .inl fa))] (q_m_piece_f T n o i st w0 g1 g2 g3 g4 tp w6 w7 w8 w9 w10 w11 w12 w13 w14 g15 w16 g17 w18 w19 g20 w21 g22 g23 g24 w25 w26 w27 g28 g29 w30 g31 g32 g33 fa) := by
  refine Ct.of (cc := cX8_piece) (maxL := 4) (ret := (some .int)) (by decide) (Nat.le_of_ble_eq_true rfl) ?_
  intro p e s m args below meth c A ls hC hnm V hl
  obtain ⟨hx, hb, hr, hml, hown, hts, hlocks⟩ := id hC
  generalize hH : s.heap = H at V ⊢
  clear hH
  have hl : lv_has ls 4 [(0, .ref o), (1, .int i), (2, .int st)] := hl
  generalize hlo : ([] : List Loc) = locs at V ⊢
  clear hlo
  have ms0 := ms_rf h_a
  have hn10 := h_a.1
  refine lv_aload_n hx hb dX8_piece_0 rfl (lv_at hl 0 rfl) ?_
  refine lv_iconst (v := (nI 0)) hx hb dX8_piece_1 (by decide +kernel) ?_
  refine g_put hC V (ci := 8) uwX8 tyX8 tyX8_ok nmX8 0 rfl rfl 0 (by decide) w_912 rfl rfl rfl rfl (Nat.le_of_ble_eq_true rfl) (ws' := [(o, .inr (8, [.int (nI 0), .ref g1, .ref g2, .ref g3, .ref g4, .int (nI tp), .int w6, .int w7, .int w8, .int w9, .int w10, .int w11, .int w12, .int w13, .int w14, .ref g15, .int w16, .ref g17, .int w18, .int w19, .ref g20, .int w21, .ref g22, .ref g23, .ref g24, .int w25, .int w26, .int w27, .ref g28, .ref g29, .int w30, .ref g31, .ref g32, .ref g33])), (g1, .inl (T 0, 282, .inl fa))]) rfl dX8_piece_2 (fun H locs V => ?_)
  refine lv_aload_n hx hb dX8_piece_5 rfl (lv_at hl 0 rfl) ?_
  refine lv_iload_n hx hb dX8_piece_6 rfl (lv_at hl 1 rfl) ?_
  refine g_callV (wr := []) (nA := 1) hC V hl.1 (m_isSmith_f l D T n o i (nI 0) g1 g2 g3 g4 tp w6 w7 w8 w9 w10 w11 w12 w13 w14 g15 w16 g17 w18 w19 g20 w21 g22 g23 g24 w25 w26 w27 g28 g29 w30 g31 g32 g33 fa h_a) w_1083 w_1085 w_s46 w_9 w_1086 (by decide +kernel) rfl ⟨(Nat.le_of_ble_eq_true rfl), (Nat.le_of_ble_eq_true rfl)⟩ 0 (ci := 8) rfl rfl [0, 1] [] rfl rfl rfl rfl (by decide) (Nat.le_of_ble_eq_true rfl) dX8_piece_7 ⟨(Nat.le_of_ble_eq_true rfl), (Nat.le_of_ble_eq_true rfl)⟩ rfl (fun r w1 H locs hQ V => ?_)
  rcases hQ with ⟨j_1, rfl, rfl, f_2, f_3⟩ | ⟨rfl, rfl, f_4⟩
  · have V : gW D T A s [(o, .inr (8, [.int (nI 0), .ref g1, .ref g2, .ref g3, .ref g4, .int (nI tp), .int w6, .int w7, .int w8, .int w9, .int w10, .int w11, .int w12, .int w13, .int w14, .ref g15, .int w16, .ref g17, .int w18, .int w19, .ref g20, .int w21, .ref g22, .ref g23, .ref g24, .int w25, .int w26, .int w27, .ref g28, .ref g29, .int w30, .ref g31, .ref g32, .ref g33])), (g1, .inl (T 0, 282, .inl fa))] H locs := V
    show W p l e _ s m args below meth c H locs _ _ _ (F0 m 10 ls [.int (nI 1)])
    rw [f_2] at hl
    refine lv_if_ne (tgt := 16) hx hb dX8_piece_10 (by decide) (fun _ => ?_) (fun c => absurd (show (nI 1) = 0 from c) (by decide +kernel))
    refine lv_iload_n hx hb dX8_piece_16 rfl (lv_at hl 2 rfl) ?_
    refine lv_i2l (v := st.toInt64) hx hb dX8_piece_17 rfl ?_
    refine lv_lconst (v := (nI 0).toInt64) hx hb dX8_piece_18 (by decide +kernel) ?_
    refine lv_ldc2 (v := (20)) hx hb hown (hts _ w_1113) dX8_piece_19 ?_
    refine g_vl (y := (nI 20).toInt64) (by decide +kernel) ?_
    refine g_callSU (nA := 3) hC V hl.1 (m_within l D T st (nI 0) (nI 20)) w_1023 w_1024 w_9 w_1025 (by decide +kernel) rfl ⟨(Nat.le_of_ble_eq_true rfl), (Nat.le_of_ble_eq_true rfl)⟩ [] rfl rfl (Nat.le_of_ble_eq_true rfl) dX8_piece_22 ⟨(Nat.le_of_ble_eq_true rfl), (Nat.le_of_ble_eq_true rfl)⟩ rfl (fun r w1 H locs hQ V => ?_)
    rcases hQ with ⟨rfl, rfl, f_5, f_6⟩ | ⟨rfl, rfl, f_7⟩
    · have V : gW D T A s [(o, .inr (8, [.int (nI 0), .ref g1, .ref g2, .ref g3, .ref g4, .int (nI tp), .int w6, .int w7, .int w8, .int w9, .int w10, .int w11, .int w12, .int w13, .int w14, .ref g15, .int w16, .ref g17, .int w18, .int w19, .ref g20, .int w21, .ref g22, .ref g23, .ref g24, .int w25, .int w26, .int w27, .ref g28, .ref g29, .int w30, .ref g31, .ref g32, .ref g33])), (g1, .inl (T 0, 282, .inl fa))] H locs := V _ [] rfl rfl rfl (by decide +kernel) rfl
      show W p l e _ s m args below meth c H locs _ _ _ (F0 m 25 ls [.int (nI 1)])
      obtain ⟨jb, hjb1, hjb2, ejb⟩ := g_rng (by first | decide | omega) (by first | decide | omega) f_5 f_6
      rw [ejb] at hl
      refine lv_if_ne (tgt := 31) hx hb dX8_piece_25 (by decide) (fun _ => ?_) (fun c => absurd (show (nI 1) = 0 from c) (by decide +kernel))
      refine lv_aload_n hx hb dX8_piece_31 rfl (lv_at hl 0 rfl) ?_
      refine g_get hC V (ci := 8) uwX8 0 rfl rfl 1 (by decide) w_913 rfl rfl dX8_piece_32 ?_
      refine lv_bipush (v := (nI 64)) hx hb dX8_piece_35 (by decide +kernel) ?_
      refine lv_iload_n hx hb dX8_piece_37 rfl (lv_at hl 1 rfl) ?_
      refine lv_iadd hx hb dX8_piece_38 ?_
      refine g_vi (y := (nI (64 + j_1))) (nI_add _ _) ?_
      obtain ⟨j_8, hj_8, ej_8⟩ := bd_ex (mi_has h_a (i := j_1) (by omega))
      refine g_iald hC V 1 rfl (vp_in_nI (by omega) (by omega)) (v := (nI j_8)) (by rw [nI_clamp (by omega)]; exact ej_8) dX8_piece_39 ?_
      refine lv_istore_n (lv' := [(3, .int (nI j_8)), (0, .ref o), (1, .int (nI j_1)), (2, .int (nI jb))]) hx hb dX8_piece_40 rfl hl (by decide) rfl (fun ls hl => ?_)
      refine lv_aload_n hx hb dX8_piece_41 rfl (lv_at hl 1 rfl) ?_
      refine g_get hC V (ci := 8) uwX8 0 rfl rfl 1 (by decide) w_913 rfl rfl dX8_piece_42 ?_
      refine lv_bipush (v := (nI 54)) hx hb dX8_piece_45 (by decide +kernel) ?_
      refine lv_iload_n hx hb dX8_piece_47 rfl (lv_at hl 2 rfl) ?_
      refine lv_iadd hx hb dX8_piece_48 ?_
      refine g_vi (y := (nI (54 + j_1))) (nI_add _ _) ?_
      refine lv_iload_n hx hb dX8_piece_49 rfl (lv_at hl 3 rfl) ?_
      obtain ⟨f_9, ef_9⟩ : ∃ x, x = upd fa (54 + j_1) (nI jb) := ⟨_, rfl⟩
      have hf_9 : MS n fa f_9 := by rw [ef_9]; exact ms_st (by assumption) (by omega) (by omega) (by intros; first | (exfalso; omega) | exact bd_nI (by omega) | exact bd_le ‹bd (nI jb) _› (by omega) | assumption) (by intros; first | (exfalso; omega) | exact bd_nI (by omega) | exact bd_le ‹bd (nI jb) _› (by omega) | assumption) (by intros; first | (exfalso; omega) | exact bd_nI (by omega) | exact bd_le ‹bd (nI jb) _› (by omega) | assumption) (by intros; first | (exfalso; omega) | exact bd_nI (by omega) | exact bd_le ‹bd (nI jb) _› (by omega) | assumption) (by intros; first | (exfalso; omega) | exact bd_nI (by omega) | exact bd_le ‹bd (nI jb) _› (by omega) | assumption) (by intros; first | (exfalso; omega) | exact bd_nI (by omega) | exact bd_le ‹bd (nI jb) _› (by omega) | assumption) (by intros; first | (exfalso; omega) | exact bd_nI (by omega) | exact bd_le ‹bd (nI jb) _› (by omega) | assumption)
      refine g_iast hC V 1 rfl (vp_in_nI (by omega) (by omega)) (f' := f_9) (by rw [nI_clamp (by omega)]; exact ef_9.symm) (ws' := [(o, .inr (8, [.int (nI 0), .ref g1, .ref g2, .ref g3, .ref g4, .int (nI tp), .int w6, .int w7, .int w8, .int w9, .int w10, .int w11, .int w12, .int w13, .int w14, .ref g15, .int w16, .ref g17, .int w18, .int w19, .ref g20, .int w21, .ref g22, .ref g23, .ref g24, .int w25, .int w26, .int w27, .ref g28, .ref g29, .int w30, .ref g31, .ref g32, .ref g33])), (g1, .inl (T 0, 282, .inl f_9))]) rfl dX8_piece_50 (fun H locs V => ?_)
      refine lv_aload_n hx hb dX8_piece_51 rfl (lv_at hl 1 rfl) ?_
      refine g_get hC V (ci := 8) uwX8 0 rfl rfl 1 (by decide) w_913 rfl rfl dX8_piece_52 ?_
      refine lv_bipush (v := (nI 64)) hx hb dX8_piece_55 (by decide +kernel) ?_
      refine lv_iload_n hx hb dX8_piece_57 rfl (lv_at hl 2 rfl) ?_
      refine lv_iadd hx hb dX8_piece_58 ?_
      refine g_vi (y := (nI (64 + j_1))) (nI_add _ _) ?_
      refine lv_iconst (v := (nI 0)) hx hb dX8_piece_59 (by decide +kernel) ?_
      obtain ⟨f_10, ef_10⟩ : ∃ x, x = upd f_9 (64 + j_1) (nI 0) := ⟨_, rfl⟩
      have hf_10 : MS n fa f_10 := by rw [ef_10]; exact ms_st (by assumption) (by omega) (by omega) (by intros; first | (exfalso; omega) | exact bd_nI (by omega) | exact bd_le ‹bd (nI 0) _› (by omega) | assumption) (by intros; first | (exfalso; omega) | exact bd_nI (by omega) | exact bd_le ‹bd (nI 0) _› (by omega) | assumption) (by intros; first | (exfalso; omega) | exact bd_nI (by omega) | exact bd_le ‹bd (nI 0) _› (by omega) | assumption) (by intros; first | (exfalso; omega) | exact bd_nI (by omega) | exact bd_le ‹bd (nI 0) _› (by omega) | assumption) (by intros; first | (exfalso; omega) | exact bd_nI (by omega) | exact bd_le ‹bd (nI 0) _› (by omega) | assumption) (by intros; first | (exfalso; omega) | exact bd_nI (by omega) | exact bd_le ‹bd (nI 0) _› (by omega) | assumption) (by intros; first | (exfalso; omega) | exact bd_nI (by omega) | exact bd_le ‹bd (nI 0) _› (by omega) | assumption)
      refine g_iast hC V 1 rfl (vp_in_nI (by omega) (by omega)) (f' := f_10) (by rw [nI_clamp (by omega)]; exact ef_10.symm) (ws' := [(o, .inr (8, [.int (nI 0), .ref g1, .ref g2, .ref g3, .ref g4, .int (nI tp), .int w6, .int w7, .int w8, .int w9, .int w10, .int w11, .int w12, .int w13, .int w14, .ref g15, .int w16, .ref g17, .int w18, .int w19, .ref g20, .int w21, .ref g22, .ref g23, .ref g24, .int w25, .int w26, .int w27, .ref g28, .ref g29, .int w30, .ref g31, .ref g32, .ref g33])), (g1, .inl (T 0, 282, .inl f_10))]) rfl dX8_piece_60 (fun H locs V => ?_)
      refine lv_iload_n hx hb dX8_piece_61 rfl (lv_at hl 0 rfl) ?_
      exact g_iret (Qr := (q_m_piece_f T n o i st w0 g1 g2 g3 g4 tp w6 w7 w8 w9 w10 w11 w12 w13 w14 g15 w16 g17 w18 w19 g20 w21 g22 g23 g24 w25 w26 w27 g28 g29 w30 g31 g32 g33 fa)) hC V ⟨(Nat.le_of_ble_eq_true rfl), (Nat.le_of_ble_eq_true rfl)⟩ ⟨(nI j_8), f_10, rfl, rfl, hf_10, (ej_8.symm.trans (pi_y (f := fa) hn10 f_2 f_3 f_5 f_6).1), (by rw [ef_10, ef_9, ← ejb]; exact (pi_y (f := fa) hn10 f_2 f_3 f_5 f_6).2)⟩ dX8_piece_62
    · have V : gW D T A s [(o, .inr (8, [.int (nI 0), .ref g1, .ref g2, .ref g3, .ref g4, .int (nI tp), .int w6, .int w7, .int w8, .int w9, .int w10, .int w11, .int w12, .int w13, .int w14, .ref g15, .int w16, .ref g17, .int w18, .int w19, .ref g20, .int w21, .ref g22, .ref g23, .ref g24, .int w25, .int w26, .int w27, .ref g28, .ref g29, .int w30, .ref g31, .ref g32, .ref g33])), (g1, .inl (T 0, 282, .inl fa))] H locs := V _ [] rfl rfl rfl (by decide +kernel) rfl
      show W p l e _ s m args below meth c H locs _ _ _ (F0 m 25 ls [.int (nI 0)])
      refine lv_if_ne (tgt := 31) hx hb dX8_piece_25 (by decide) (fun c => absurd (show (nI 0) = 0 by decide +kernel) c) (fun _ => ?_)
      refine lv_bipush (v := (-3)) hx hb dX8_piece_28 (by decide +kernel) ?_
      exact g_iret (Qr := (q_m_piece_f T n o i st w0 g1 g2 g3 g4 tp w6 w7 w8 w9 w10 w11 w12 w13 w14 g15 w16 g17 w18 w19 g20 w21 g22 g23 g24 w25 w26 w27 g28 g29 w30 g31 g32 g33 fa)) hC V ⟨(Nat.le_of_ble_eq_true rfl), (Nat.le_of_ble_eq_true rfl)⟩ ⟨(-3), fa, rfl, rfl, ms0, (pi_2 (f := fa) hn10 f_2 f_3 f_7).1, (pi_2 (f := fa) hn10 f_2 f_3 f_7).2⟩ dX8_piece_30
  · have V : gW D T A s [(o, .inr (8, [.int (nI 0), .ref g1, .ref g2, .ref g3, .ref g4, .int (nI tp), .int w6, .int w7, .int w8, .int w9, .int w10, .int w11, .int w12, .int w13, .int w14, .ref g15, .int w16, .ref g17, .int w18, .int w19, .ref g20, .int w21, .ref g22, .ref g23, .ref g24, .int w25, .int w26, .int w27, .ref g28, .ref g29, .int w30, .ref g31, .ref g32, .ref g33])), (g1, .inl (T 0, 282, .inl fa))] H locs := V
    show W p l e _ s m args below meth c H locs _ _ _ (F0 m 10 ls [.int (nI 0)])
    refine lv_if_ne (tgt := 16) hx hb dX8_piece_10 (by decide) (fun c => absurd (show (nI 0) = 0 by decide +kernel) c) (fun _ => ?_)
    refine lv_bipush (v := (-2)) hx hb dX8_piece_13 (by decide +kernel) ?_
    exact g_iret (Qr := (q_m_piece_f T n o i st w0 g1 g2 g3 g4 tp w6 w7 w8 w9 w10 w11 w12 w13 w14 g15 w16 g17 w18 w19 g20 w21 g22 g23 g24 w25 w26 w27 g28 g29 w30 g31 g32 g33 fa)) hC V ⟨(Nat.le_of_ble_eq_true rfl), (Nat.le_of_ble_eq_true rfl)⟩ ⟨(-2), fa, rfl, rfl, ms0, (pi_1 (f := fa) (b := st) f_4).1, (pi_1 (f := fa) (b := st) f_4).2⟩ dX8_piece_15
