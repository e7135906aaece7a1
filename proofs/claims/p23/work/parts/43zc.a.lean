/-! bits of longs and of ints -/
def lbP (x : Int64) (i : Nat) : Prop := lg_cmp (x >>> ((nI i).toInt64 &&& 63) &&& (nI 1).toInt64) (nI 1).toInt64 = 0
theorem lo32 (y : Int32) : (y &&& nI 1) = 0 ↔ y.toBitVec.getLsbD 0 = false := by
  have h : (y &&& nI 1).toBitVec.toNat = y.toBitVec.toNat % 2 := by
    show (y.toBitVec &&& (nI 1).toBitVec).toNat = _
    rw [BitVec.toNat_and, show (nI 1).toBitVec.toNat = 1 by decide +kernel, Nat.and_one_is_mod]
  have hb : y.toBitVec.getLsbD 0 = decide (y.toBitVec.toNat % 2 = 1) := Nat.testBit_zero _
  rw [hb]
  constructor
  · intro e
    have e' : (y &&& nI 1).toBitVec.toNat = 0 := by rw [e]; decide +kernel
    rw [h] at e'
    exact decide_eq_false (by omega)
  · intro e
    have e' : ¬ y.toBitVec.toNat % 2 = 1 := of_decide_eq_false e
    refine Int32.toBitVec_inj.mp (BitVec.eq_of_toNat_eq ?_)
    rw [h, show y.toBitVec.toNat % 2 = 0 by omega]; decide +kernel
theorem lo64 (y : Int64) : lg_cmp (y &&& (nI 1).toInt64) (nI 1).toInt64 = 0 ↔ y.toBitVec.getLsbD 0 = true := by
  have h : (y &&& (nI 1).toInt64).toBitVec.toNat = y.toBitVec.toNat % 2 := by
    show (y.toBitVec &&& (nI 1).toInt64.toBitVec).toNat = _
    rw [BitVec.toNat_and, show (nI 1).toInt64.toBitVec.toNat = 1 by decide +kernel, Nat.and_one_is_mod]
  have hb : y.toBitVec.getLsbD 0 = decide (y.toBitVec.toNat % 2 = 1) := Nat.testBit_zero _
  rw [hb, lg_cmp_eq]
  constructor
  · intro e
    have e' : (y &&& (nI 1).toInt64).toBitVec.toNat = 1 := by rw [e]; decide +kernel
    rw [h] at e'
    exact decide_eq_true e'
  · intro e
    have e' : y.toBitVec.toNat % 2 = 1 := of_decide_eq_true e
    refine Int64.toBitVec_inj.mp (BitVec.eq_of_toNat_eq ?_)
    rw [h, e']; decide +kernel
theorem sh32 {x : Int32} {i : Nat} (hi : i < 13) : (x >>> (nI i &&& 31)).toBitVec.getLsbD 0 = x.toBitVec.getLsbD i := by
  have e2 : (((nI i &&& 31).toBitVec).smod 32).toNat = i := by
    have H : ∀ i : Fin 13, (((nI i.1 &&& 31).toBitVec).smod 32).toNat = i.1 := by decide +kernel
    exact H ⟨i, hi⟩
  show ((x.toBitVec).sshiftRight' ((nI i &&& 31).toBitVec.smod 32)).getLsbD 0 = _
  rw [BitVec.sshiftRight_eq', e2, BitVec.getLsbD_sshiftRight, if_pos (by omega)]
  simp
theorem sh64 {x : Int64} {i : Nat} (hi : i < 13) : (x >>> ((nI i).toInt64 &&& 63)).toBitVec.getLsbD 0 = x.toBitVec.getLsbD i := by
  have e1 : ((((nI i).toInt64 &&& 63).toBitVec).smod 64).toNat = i := by
    have H : ∀ i : Fin 13, ((((nI i.1).toInt64 &&& 63).toBitVec).smod 64).toNat = i.1 := by decide +kernel
    exact H ⟨i, hi⟩
  show ((x.toBitVec).sshiftRight' (((nI i).toInt64 &&& 63).toBitVec.smod 64)).getLsbD 0 = _
  rw [BitVec.sshiftRight_eq', e1, BitVec.getLsbD_sshiftRight, if_pos (by omega)]
  simp
theorem bp_i {x : Int32} {i : Nat} (hi : i < 13) : bitP x i ↔ x.toBitVec.getLsbD i = true := by
  have h := lo32 (x >>> (nI i &&& 31))
  rw [sh32 hi] at h
  show ¬ ((x >>> (nI i &&& 31)) &&& nI 1) = 0 ↔ _
  rw [h]
  cases x.toBitVec.getLsbD i <;> simp
theorem lb_i {x : Int64} {i : Nat} (hi : i < 13) : lbP x i ↔ x.toBitVec.getLsbD i = true := by
  have h := lo64 (x >>> ((nI i).toInt64 &&& 63))
  rw [sh64 hi] at h
  exact h
theorem mk_bit : ∀ (L : Fin 13) (i : Fin 13), i.1 < L.1 → (nI (2 ^ L.1 - 1)).toBitVec.getLsbD i.1 = true := by decide +kernel
theorem lb_bit {x : Int64} {i L : Nat} (hi : i < L) (hL : L ≤ 12) : lbP x i ↔ bitP (x.toInt32 &&& nI (2 ^ L - 1)) i := by
  rw [lb_i (by omega), bp_i (by omega)]
  show _ ↔ (x.toInt32.toBitVec &&& (nI (2 ^ L - 1)).toBitVec).getLsbD i = true
  rw [BitVec.getLsbD_and, mk_bit ⟨L, by omega⟩ ⟨i, by omega⟩ hi, Bool.and_true]
  show _ ↔ (x.toBitVec.signExtend 32).getLsbD i = true
  rw [BitVec.getLsbD_signExtend, if_pos (by omega)]
  have h32 : decide (i < 32) = true := decide_eq_true (by omega)
  rw [h32, Bool.true_and]
/-! what RHYTHMS bring to a fire -/
def bbF (f P : Nat → Int32) (i t : Nat) : Nat → Int32
  | 0 => nI 0
  | k + 1 => bbF f P i t k + (if f (84 + k) = nI i ∧ bitP (P k) t then f (4 + k) else nI 0)
theorem bb_y {f P : Nat → Int32} {i t k : Nat} {x b : Int32} (h : x = b + bbF f P i t k) (h1 : f (84 + k) = nI i) (h2 : bitP (P k) t) : x + f (4 + k) = b + bbF f P i t (k + 1) := by
  show x + f (4 + k) = b + (bbF f P i t k + (if f (84 + k) = nI i ∧ bitP (P k) t then f (4 + k) else nI 0))
  rw [if_pos ⟨h1, h2⟩, h, Int32.add_assoc]
theorem bb_n {f P : Nat → Int32} {i t k : Nat} {x b : Int32} (h : x = b + bbF f P i t k) (h1 : ¬ (f (84 + k) = nI i ∧ bitP (P k) t)) : x + nI 0 = b + bbF f P i t (k + 1) := by
  show x + nI 0 = b + (bbF f P i t k + (if f (84 + k) = nI i ∧ bitP (P k) t then f (4 + k) else nI 0))
  rw [if_neg h1, h, Int32.add_assoc]
theorem bb_o {f P : Nat → Int32} {i t k : Nat} {x b : Int32} (h : x = b + bbF f P i t k) (h1 : ¬ f (84 + k) = nI i) : x = b + bbF f P i t (k + 1) := (add_n0 x).trans (bb_n h (fun q => h1 q.1))
theorem bb_ext {f P Q : Nat → Int32} {i t n : Nat} (h : ∀ k, k < n → (bitP (P k) t ↔ bitP (Q k) t)) : ∀ k, k ≤ n → bbF f P i t k = bbF f Q i t k
  | 0, _ => rfl
  | k + 1, hk => by
    show bbF f P i t k + (if f (84 + k) = nI i ∧ bitP (P k) t then f (4 + k) else nI 0) = bbF f Q i t k + (if f (84 + k) = nI i ∧ bitP (Q k) t then f (4 + k) else nI 0)
    rw [bb_ext h k (by omega)]
    by_cases c : f (84 + k) = nI i ∧ bitP (P k) t
    · rw [if_pos c, if_pos ⟨c.1, (h k (by omega)).mp c.2⟩]
    · rw [if_neg c, if_neg (fun q => c ⟨q.1, (h k (by omega)).mpr q.2⟩)]
/-- what comes and goes in the first T MINUTES; what comes alone -/
def csF (f P : Nat → Int32) (n i : Nat) : Nat → Int32
  | 0 => nI 0
  | t + 1 => csF f P n i t + (-(f (14 + i)) + bbF f P i t n)
def crF (f P : Nat → Int32) (n i : Nat) : Nat → Int32
  | 0 => nI 0
  | t + 1 => crF f P n i t + bbF f P i t n
theorem cs_s {f P : Nat → Int32} {n i t : Nat} {x y : Int32} (h : x = csF f P n i t) (e : y = -(f (14 + i)) + bbF f P i t n) : x + y = csF f P n i (t + 1) := by
  show x + y = csF f P n i t + (-(f (14 + i)) + bbF f P i t n); rw [h, e]
theorem cs_ring (a c r b t : Int32) : -t * c + r + (-c + b) = -(t + nI 1) * c + (r + b) := by
  have h1 : (nI 1) * c = c := by
    rw [show nI 1 = 1 by decide +kernel]; exact Int32.one_mul c
  rw [Int32.neg_add, Int32.sub_eq_add_neg, Int32.add_mul, Int32.neg_mul (nI 1) c, h1, Int32.add_assoc, Int32.add_assoc, ← Int32.add_assoc r (-c) b, Int32.add_comm r (-c), Int32.add_assoc]
theorem cs_cr {f P : Nat → Int32} {n i : Nat} : ∀ t, csF f P n i t = -(nI t) * f (14 + i) + crF f P n i t
  | 0 => by
    show nI 0 = -(nI 0) * f (14 + i) + nI 0
    rw [show -(nI 0) = (0 : Int32) by decide +kernel, Int32.zero_mul]; decide +kernel
  | t + 1 => by
    show csF f P n i t + (-(f (14 + i)) + bbF f P i t n) = -(nI (t + 1)) * f (14 + i) + (crF f P n i t + bbF f P i t n)
    rw [cs_cr t, cs_ring 0, nI_add]
theorem cr_s {f P : Nat → Int32} {n i t k : Nat} {x b : Int32} (h : x = b + crF f P n i t + bbF f P i t k) (hk : k = n) : x = b + crF f P n i (t + 1) := by
  show x = b + (crF f P n i t + bbF f P i t n)
  rw [h, hk, Int32.add_assoc]
/-! EVEN ones -/
def evB (n : Nat) (f P : Nat → Int32) (L : Nat) : Nat → Int32
  | 0 => nI 0
  | k + 1 => evB n f P L k ||| (if csF f P n k L = 0 then (nI 1) <<< ((nI k) &&& 31) else nI 0)
theorem ev_y {n L k : Nat} {f P : Nat → Int32} {x s : Int32} (h : x = evB n f P L k) (es : s = csF f P n k L) (c : s = 0) : x ||| ((nI 1) <<< ((nI k) &&& 31)) = evB n f P L (k + 1) := by
  show x ||| _ = evB n f P L k ||| (if csF f P n k L = 0 then (nI 1) <<< ((nI k) &&& 31) else nI 0)
  rw [if_pos (es.symm.trans c), h]
theorem ev_n {n L k : Nat} {f P : Nat → Int32} {x s : Int32} (h : x = evB n f P L k) (es : s = csF f P n k L) (c : ¬ s = 0) : x ||| nI 0 = evB n f P L (k + 1) := by
  show x ||| _ = evB n f P L k ||| (if csF f P n k L = 0 then (nI 1) <<< ((nI k) &&& 31) else nI 0)
  rw [if_neg (fun q => c (es.trans q)), h]
theorem cs_ext {f P Q : Nat → Int32} {n i L : Nat} (h : ∀ k, k < n → ∀ t, t < L → (bitP (P k) t ↔ bitP (Q k) t)) : ∀ t, t ≤ L → csF f P n i t = csF f Q n i t
  | 0, _ => rfl
  | t + 1, ht => by
    show csF f P n i t + (-(f (14 + i)) + bbF f P i t n) = csF f Q n i t + (-(f (14 + i)) + bbF f Q i t n)
    rw [cs_ext h t (by omega), bb_ext (fun k hk => h k hk t (by omega)) n (Nat.le_refl _)]
theorem ev_ext {f P Q : Nat → Int32} {n L : Nat} (h : ∀ k, k < n → ∀ t, t < L → (bitP (P k) t ↔ bitP (Q k) t)) : ∀ k, evB n f P L k = evB n f Q L k
  | 0 => rfl
  | k + 1 => by
    show evB n f P L k ||| (if csF f P n k L = 0 then (nI 1) <<< ((nI k) &&& 31) else nI 0) = evB n f Q L k ||| (if csF f Q n k L = 0 then (nI 1) <<< ((nI k) &&& 31) else nI 0)
    rw [ev_ext h k, cs_ext h L (Nat.le_refl _)]
/-- why RHYTHMS of a ROW aren't taken; what they are -/
def rhW (n : Nat) (fq fm : Nat → Int32) (row le : Int32) : Int32 := if rsW n fq fm row = nI 0 then (if le < nI 1 ∨ nI 12 < le then -3 else nI 0) else rsW n fq fm row
theorem rh_s {n : Nat} {fq fm : Nat → Int32} {row le z : Int32} (h : z = rsW n fq fm row) (hz : ¬ z = 0) : z = rhW n fq fm row le := by
  unfold rhW; rw [if_neg (show ¬ rsW n fq fm row = nI 0 from fun q => hz (h.trans q))]; exact h
theorem rh_3 {n : Nat} {fq fm : Nat → Int32} {row le : Int32} (h : nI 0 = rsW n fq fm row) (c : le < nI 1 ∨ nI 12 < le) : -3 = rhW n fq fm row le := by
  unfold rhW; rw [if_pos h.symm, if_pos c]
theorem rh_0 {n : Nat} {fq fm : Nat → Int32} {row le : Int32} (h : nI 0 = rsW n fq fm row) (c1 : ¬ le < nI 1) (c2 : ¬ nI 12 < le) : nI 0 = rhW n fq fm row le := by
  unfold rhW; rw [if_pos h.symm, if_neg (fun q => q.elim c1 c2)]
def rhP (fn : Nat → Int64) (k L : Nat) : Nat → Int32 := fun i => (fn (40 * k + i)).toInt32 &&& nI (2 ^ L - 1)
def evA (n : Nat) (f fq fm : Nat → Int32) (fn : Nat → Int64) (row le : Int32) : Int32 := if rhW n fq fm row le = nI 0 then evB n f (rhP fn row.toNatClampNeg le.toNatClampNeg) le.toNatClampNeg n else rhW n fq fm row le
theorem eva_n {n : Nat} {f fq fm : Nat → Int32} {fn : Nat → Int64} {row le z : Int32} (h : z = rhW n fq fm row le) (hz : ¬ z = 0) : z = evA n f fq fm fn row le := by
  unfold evA; rw [if_neg (show ¬ rhW n fq fm row le = nI 0 from fun q => hz (h.trans q))]; exact h
theorem eva_y {n k j L : Nat} {f fq fm P : Nat → Int32} {fn : Nat → Int64} {row le x : Int32} (h : nI 0 = rhW n fq fm row le) (er : row = nI k) (hk : k < 4) (el : le = nI L) (hL : L ≤ 12) (hP : ∀ i, i < n → ∀ t, t < L → (bitP (P i) t ↔ bitP (rhP fn k L i) t)) (hx : x = evB n f P L j) (hj : j = n) : x = evA n f fq fm fn row le := by
  unfold evA; rw [if_pos h.symm, er, nI_clamp (by omega), el, nI_clamp (by omega), hx, hj, ev_ext hP]
theorem wb_s {f P : Nat → Int32} {i m k L : Nat} {g : Nat → Int32} {b v : Int32} (hA : ∀ t, t < k → g t = b + bbF f P i t (m + 1)) (hB : ∀ t, k ≤ t → t < L → g t = b + bbF f P i t m) (e : v = b + bbF f P i k (m + 1)) : (∀ t, t < k + 1 → upd g k v t = b + bbF f P i t (m + 1)) ∧ (∀ t, k + 1 ≤ t → t < L → upd g k v t = b + bbF f P i t m) := by
  refine ⟨fun t ht => ?_, fun t h1 h2 => ?_⟩
  · by_cases q : t = k
    · rw [q, up_same]; exact e
    · rw [up_other q]; exact hA t (by omega)
  · rw [up_other (by omega)]; exact hB t (by omega) h2
theorem rp_b {fn R : Nat → Int64} {k L i t : Nat} (e : R i = fn (40 * k + i)) (ht : t < L) (hL : L ≤ 12) : lbP (R i) t ↔ bitP (rhP fn k L i) t := by rw [e]; exact lb_bit ht hL
theorem es_m {f P : Nat → Int32} {n i t L : Nat} {x : Int32} (h : x = -(nI L) * f (14 + i) + crF f P n i t) (ht : t = L) : x = csF f P n i L := by rw [h, ht, cs_cr]

def q_m_isInL_f (T : Nat → ClassId) (x : Int64) (i : Nat) : Option Value → va_W → Prop := fun rr ww => (rr = some (.int (nI 1)) ∧ ww = [] ∧ lbP x i) ∨ (rr = some (.int (nI 0)) ∧ ww = [] ∧ ¬ lbP x i)
set_option maxHeartbeats 4000000 in
set_option maxRecDepth 100000 in
theorem m_isInL_f (l : Launch) (D : va_G) (T : Nat → ClassId) (x : Int64) (i : Nat) : Ct l yX8_isIn cX8_isIn 3 (some .boolean) 0 0 0 D T [.long x, .int (nI i)] [] (q_m_isInL_f T x i) := by
  refine Ct.of (cc := cX8_isIn) (maxL := 3) (ret := (some .boolean)) (by decide) (Nat.le_of_ble_eq_true rfl) ?_
  intro p e s m args below meth c A ls hC hnm V hl
  obtain ⟨hx, hb, hr, hml, hown, hts, hlocks⟩ := id hC
  generalize hH : s.heap = H at V ⊢
  clear hH
  have hl : lv_has ls 3 [(0, .long x), (2, .int (nI i))] := hl
  generalize hlo : ([] : List Loc) = locs at V ⊢
  clear hlo
  refine lv_lload_n hx hb dX8_isIn_0 rfl (lv_at hl 0 rfl) ?_
  refine lv_iload_n hx hb dX8_isIn_1 rfl (lv_at hl 1 rfl) ?_
  refine lv_lshr hx hb dX8_isIn_2 rfl ?_
  refine lv_lconst (v := (nI 1).toInt64) hx hb dX8_isIn_3 (by decide +kernel) ?_
  refine lv_land hx hb dX8_isIn_4 ?_
  refine lv_lconst (v := (nI 1).toInt64) hx hb dX8_isIn_5 (by decide +kernel) ?_
  refine W.lcmp hx hb dX8_isIn_6 ?_
  refine lv_if_ne (tgt := 14) hx hb dX8_isIn_7 (by decide) (fun c_1 => ?_) (fun c_1 => ?_)
  · skip
    refine lv_iconst (v := (nI 0)) hx hb dX8_isIn_14 (by decide +kernel) ?_
    exact g_zret (Qr := (q_m_isInL_f T x i)) hC V ⟨(Nat.le_of_ble_eq_true rfl), (Nat.le_of_ble_eq_true rfl)⟩ (by first | decide +kernel | exact rfl) (.inr ⟨rfl, rfl, (by assumption)⟩) dX8_isIn_15
  · skip
    refine lv_iconst (v := (nI 1)) hx hb dX8_isIn_10 (by decide +kernel) ?_
    refine lv_goto (tgt := 15) hx hb dX8_isIn_11 (by decide) ?_
    exact g_zret (Qr := (q_m_isInL_f T x i)) hC V ⟨(Nat.le_of_ble_eq_true rfl), (Nat.le_of_ble_eq_true rfl)⟩ (by first | decide +kernel | exact rfl) (.inl ⟨rfl, rfl, (by assumption)⟩) dX8_isIn_15

def q_h_everyTime_f (T : Nat → ClassId) (h0 : Nat) (h1 : Nat) (qx : Int32) (qy : Int32) (ql : Nat) (h2 : Nat) (h3 : Nat) : Option Value → va_W → Prop := fun rr ww => (rr = some (.int (nI (2 ^ ql - 1))) ∧ ww = [(h0, .inr (3, [.ref h1, .int qx, .int qy, .int (nI ql), .ref h2, .ref h3]))])
set_option maxHeartbeats 4000000 in
set_option maxRecDepth 100000 in
theorem h_everyTime_f (l : Launch) (D : va_G) (T : Nat → ClassId) (h0 : Nat) (h1 : Nat) (qx : Int32) (qy : Int32) (ql : Nat) (h2 : Nat) (h3 : Nat) (h_l : 1 ≤ ql ∧ ql ≤ 12) : Ct l yX3_everyTime cX3_everyTime 1 (some .int) 0 0 0 D T [.ref h0] [(h0, .inr (3, [.ref h1, .int qx, .int qy, .int (nI ql), .ref h2, .ref h3]))] (q_h_everyTime_f T h0 h1 qx qy ql h2 h3) := by
  refine Ct.of (cc := cX3_everyTime) (maxL := 1) (ret := (some .int)) (by decide) (Nat.le_of_ble_eq_true rfl) ?_
  intro p e s m args below meth c A ls hC hnm V hl
  obtain ⟨hx, hb, hr, hml, hown, hts, hlocks⟩ := id hC
  generalize hH : s.heap = H at V ⊢
  clear hH
  have hl : lv_has ls 1 [(0, .ref h0)] := hl
  generalize hlo : ([] : List Loc) = locs at V ⊢
  clear hlo
  refine lv_iconst (v := (nI 1)) hx hb dX3_everyTime_0 (by decide +kernel) ?_
  refine lv_aload_n hx hb dX3_everyTime_1 rfl (lv_at hl 0 rfl) ?_
  refine g_get hC V (ci := 3) uwX3 0 rfl rfl 3 (by decide) w_189 rfl rfl dX3_everyTime_2 ?_
  refine lv_ishl hx hb dX3_everyTime_5 ?_
  refine g_vi (y := (nI (2 ^ ql))) (shl_pow (by omega)) ?_
  refine lv_iconst (v := (nI 1)) hx hb dX3_everyTime_6 (by decide +kernel) ?_
  refine lv_isub hx hb dX3_everyTime_7 ?_
  refine g_vi (y := (nI (2 ^ ql - 1))) (nI_sub Nat.one_le_two_pow) ?_
  exact g_iret (Qr := (q_h_everyTime_f T h0 h1 qx qy ql h2 h3)) hC V ⟨(Nat.le_of_ble_eq_true rfl), (Nat.le_of_ble_eq_true rfl)⟩ ⟨rfl, rfl⟩ dX3_everyTime_8

def q_h_takeRow_f (T : Nat → ClassId) (h0 : Nat) (r0 : Nat) (le : Nat) (h1 : Nat) (qx : Int32) (qy : Int32) (ql : Int32) (h2 : Nat) (h3 : Nat) (qp : Nat → Int32) (rh : Int32) (rz : Nat) (r1 : Nat) (rs : Nat) (rf : Nat → Int64) : Option Value → va_W → Prop := fun rr ww => (∃ (g : Nat → Int32), rr = none ∧ ww = [(h0, .inr (3, [.ref h1, .int qx, .int qy, .int (nI le), .ref h2, .ref h3])), (h2, .inl (T 0, 10, .inl g)), (r0, .inr (1, [.int rh, .int (nI rz), .ref r1, .int (nI rs)])), (r1, .inl (T 1, 40, .inr (.inl rf)))] ∧ (∀ i, i < 10 → g i = (rf i).toInt32 &&& nI (2 ^ le - 1)))
set_option maxHeartbeats 4000000 in
set_option maxRecDepth 100000 in
theorem h_takeRow_f (l : Launch) (D : va_G) (T : Nat → ClassId) (h0 : Nat) (r0 : Nat) (le : Nat) (h1 : Nat) (qx : Int32) (qy : Int32) (ql : Int32) (h2 : Nat) (h3 : Nat) (qp : Nat → Int32) (rh : Int32) (rz : Nat) (r1 : Nat) (rs : Nat) (rf : Nat → Int64) (h_l : 1 ≤ le ∧ le ≤ 12) : Ct l yX3_takeRow cX3_takeRow 4 none 1 0 0 D T [.ref h0, .ref r0, .int (nI le)] [(h0, .inr (3, [.ref h1, .int qx, .int qy, .int ql, .ref h2, .ref h3])), (h2, .inl (T 0, 10, .inl qp)), (r0, .inr (1, [.int rh, .int (nI rz), .ref r1, .int (nI rs)])), (r1, .inl (T 1, 40, .inr (.inl rf)))] (q_h_takeRow_f T h0 r0 le h1 qx qy ql h2 h3 qp rh rz r1 rs rf) := by
  refine Ct.of (cc := cX3_takeRow) (maxL := 4) (ret := none) (by decide) (Nat.le_of_ble_eq_true rfl) ?_
  intro p e s m args below meth c A ls hC hnm V hl
  obtain ⟨hx, hb, hr, hml, hown, hts, hlocks⟩ := id hC
  generalize hH : s.heap = H at V ⊢
  clear hH
  have hl : lv_has ls 4 [(0, .ref h0), (1, .ref r0), (2, .int (nI le))] := hl
  generalize hlo : ([] : List Loc) = locs at V ⊢
  clear hlo
  refine lv_aload_n hx hb dX3_takeRow_0 rfl (lv_at hl 0 rfl) ?_
  refine lv_iload_n hx hb dX3_takeRow_1 rfl (lv_at hl 2 rfl) ?_
  refine g_put hC V (ci := 3) uwX3 tyX3 tyX3_ok nmX3 0 rfl rfl 3 (by decide) w_189 rfl rfl rfl rfl (Nat.le_of_ble_eq_true rfl) (ws' := [(h0, .inr (3, [.ref h1, .int qx, .int qy, .int (nI le), .ref h2, .ref h3])), (h2, .inl (T 0, 10, .inl qp)), (r0, .inr (1, [.int rh, .int (nI rz), .ref r1, .int (nI rs)])), (r1, .inl (T 1, 40, .inr (.inl rf)))]) rfl dX3_takeRow_2 (fun H locs V => ?_)
  refine lv_iconst (v := (nI 0)) hx hb dX3_takeRow_5 (by decide +kernel) ?_
  refine lv_istore_n (lv' := [(3, .int (nI 0)), (0, .ref h0), (1, .ref r0), (2, .int (nI le))]) hx hb dX3_takeRow_6 rfl hl (by decide) rfl (fun ls hl => ?_)
  have L_1 : ∀ (fu : Nat) (k7 : Nat) (g : Nat → Int32), k7 ≤ 10 → (∀ i, i < k7 → g i = (rf i).toInt32 &&& nI (2 ^ le - 1)) → 10 - k7 < fu → ∀ (H : Heap) (locs : List Loc) (ls : Array Slot), gW D T A s [(h0, .inr (3, [.ref h1, .int qx, .int qy, .int (nI le), .ref h2, .ref h3])), (h2, .inl (T 0, 10, .inl g)), (r0, .inr (1, [.int rh, .int (nI rz), .ref r1, .int (nI rs)])), (r1, .inl (T 1, 40, .inr (.inl rf)))] H locs → lv_has ls 4 [(3, .int (nI k7)), (0, .ref h0), (1, .ref r0), (2, .int (nI le))] → W p l e (rmD 1 0 0) s m args below meth c H locs 0 0 (MQ below (gQ D A (q_h_takeRow_f T h0 r0 le h1 qx qy ql h2 h3 qp rh rz r1 rs rf)) args s 0 0 A) (F0 m 7 ls []) := by
    intro fu_7
    induction fu_7 with
    | zero => intro k7 g hk7 hg7 hmu; exact absurd hmu (Nat.not_lt_zero _)
    | succ fu_7 ih_7 =>
      intro k7 g hk7 hg7 hmu_7 H locs ls V hl
      refine lv_iload_n hx hb dX3_takeRow_7 rfl (lv_at hl 0 rfl) ?_
      refine lv_bipush (v := (nI 10)) hx hb dX3_takeRow_8 (by decide +kernel) ?_
      refine lv_icmp_ge (tgt := 37) hx hb dX3_takeRow_10 (by decide) (fun c_2 => ?_) (fun c_2 => ?_)
      · skip
        have c_2 := b_le (by omega) (by omega) c_2
        exact g_vret (Qr := (q_h_takeRow_f T h0 r0 le h1 qx qy ql h2 h3 qp rh rz r1 rs rf)) hC V ⟨(Nat.le_of_ble_eq_true rfl), (Nat.le_of_ble_eq_true rfl)⟩ ⟨g, rfl, rfl, (fun i hi => hg7 i (by omega))⟩ dX3_takeRow_37
      · skip
        have c_2 := b_nle (by omega) (by omega) c_2
        refine lv_aload_n hx hb dX3_takeRow_13 rfl (lv_at hl 1 rfl) ?_
        refine g_get hC V (ci := 3) uwX3 0 rfl rfl 4 (by decide) w_190 rfl rfl dX3_takeRow_14 ?_
        refine lv_iload_n hx hb dX3_takeRow_17 rfl (lv_at hl 0 rfl) ?_
        refine lv_aload_n hx hb dX3_takeRow_18 rfl (lv_at hl 2 rfl) ?_
        refine g_get hC V (ci := 1) uwX1 2 rfl rfl 2 (by decide) w_234 rfl rfl dX3_takeRow_19 ?_
        refine lv_iload_n hx hb dX3_takeRow_22 rfl (lv_at hl 0 rfl) ?_
        refine g_lald hC V 3 rfl (vp_in_nI (by omega) (by omega)) (v := (rf k7)) (congrArg _ (nI_clamp (by omega))) dX3_takeRow_23 ?_
        refine lv_l2i hx hb dX3_takeRow_24 rfl ?_
        refine lv_aload_n hx hb dX3_takeRow_25 rfl (lv_at hl 1 rfl) ?_
        refine g_callVU (nA := 0) hC V hl.1 (h_everyTime_f l D T h0 h1 qx qy le h2 h3 (by first | assumption | omega)) w_606 w_608 w_s17 w_6 w_609 (by decide +kernel) rfl ⟨(Nat.le_of_ble_eq_true rfl), (Nat.le_of_ble_eq_true rfl)⟩ 0 (ci := 3) rfl rfl [0] rfl rfl (Nat.le_of_ble_eq_true rfl) dX3_takeRow_26 ⟨(Nat.le_of_ble_eq_true rfl), (Nat.le_of_ble_eq_true rfl)⟩ rfl (fun r w1 H locs hQ V => ?_)
        obtain ⟨rfl, rfl⟩ := hQ
        have V : gW D T A s [(h0, .inr (3, [.ref h1, .int qx, .int qy, .int (nI le), .ref h2, .ref h3])), (h2, .inl (T 0, 10, .inl g)), (r0, .inr (1, [.int rh, .int (nI rz), .ref r1, .int (nI rs)])), (r1, .inl (T 1, 40, .inr (.inl rf)))] H locs := V _ [0] rfl rfl rfl (by decide +kernel) rfl
        show W p l e _ s m args below meth c H locs _ _ _ (F0 m 29 ls [.int (nI (2 ^ le - 1)), .int ((rf k7).toInt32), .int (nI k7), .ref h2])
        refine lv_iand hx hb dX3_takeRow_29 ?_
        refine g_iast hC V 1 rfl (vp_in_nI (by omega) (by omega)) (f' := (upd g k7 (((rf k7).toInt32) &&& (nI (2 ^ le - 1))))) (by rw [nI_clamp (by omega)]) (ws' := [(h0, .inr (3, [.ref h1, .int qx, .int qy, .int (nI le), .ref h2, .ref h3])), (h2, .inl (T 0, 10, .inl (upd g k7 (((rf k7).toInt32) &&& (nI (2 ^ le - 1)))))), (r0, .inr (1, [.int rh, .int (nI rz), .ref r1, .int (nI rs)])), (r1, .inl (T 1, 40, .inr (.inl rf)))]) rfl dX3_takeRow_30 (fun H locs V => ?_)
        refine lv_iinc (v := (nI (k7 + 1))) (lv' := [(3, .int (nI (k7 + 1))), (0, .ref h0), (1, .ref r0), (2, .int (nI le))]) hx hb dX3_takeRow_31 hl (k := 0) rfl (nI_1 _) (by decide) rfl (fun ls hl => ?_)
        refine lv_goto (tgt := 7) hx hb dX3_takeRow_34 (by decide) ?_
        exact ih_7 (k7 + 1) (upd g k7 (((rf k7).toInt32) &&& (nI (2 ^ le - 1)))) (by omega) (up_one (p := fun i x => x = (rf i).toInt32 &&& nI (2 ^ le - 1)) hg7 rfl) (by omega) _ _ _ V (lv_sub hl [0, 1, 2, 3] rfl)
  exact L_1 _ 0 qp (by omega) (fun i h => absurd h (Nat.not_lt_zero _)) (Nat.lt_succ_self _) _ _ _ V (lv_sub hl [0, 1, 2, 3] rfl)

def q_h_weigh_f (T : Nat → ClassId) (fa : Nat → Int32) (h0 : Nat) (a0 : Nat) (j : Nat) (h1 : Nat) (qx : Int32) (qy : Int32) (ql : Nat) (h2 : Nat) (h3 : Nat) (qp : Nat → Int32) (qc : Nat → Int32) (an : Nat) (am : Int32) (al : Int32) (ao : Int32) (au : Int32) (a1 : Nat) (a2 : Nat) (a3 : Nat) (a4 : Nat) (a5 : Nat) (a6 : Nat) (a7 : Nat) (a8 : Nat) (a9 : Nat) (a10 : Nat) (af1 : Nat → Int32) (af2 : Nat → Int32) (af9 : Nat → Int32) : Option Value → va_W → Prop := fun rr ww => (∃ (g : Nat → Int32), rr = none ∧ ww = [(h0, .inr (3, [.ref h1, .int qx, .int qy, .int (nI ql), .ref h2, .ref h3])), (h2, .inl (T 0, 10, .inl qp)), (h3, .inl (T 0, 12, .inl g)), (a0, .inr (5, [.int (nI an), .int am, .int al, .int ao, .int au, .ref a1, .ref a2, .ref a3, .ref a4, .ref a5, .ref a6, .ref a7, .ref a8, .ref a9, .ref a10])), (a1, .inl (T 0, 10, .inl af1)), (a2, .inl (T 0, 10, .inl af2)), (a9, .inl (T 0, 10, .inl af9))] ∧ (∀ t, t < ql → g t = -(fa (14 + j)) + bbF fa qp j t an))
set_option maxHeartbeats 4000000 in
set_option maxRecDepth 100000 in
theorem h_weigh_f (l : Launch) (D : va_G) (T : Nat → ClassId) (fa : Nat → Int32) (h0 : Nat) (a0 : Nat) (j : Nat) (h1 : Nat) (qx : Int32) (qy : Int32) (ql : Nat) (h2 : Nat) (h3 : Nat) (qp : Nat → Int32) (qc : Nat → Int32) (an : Nat) (am : Int32) (al : Int32) (ao : Int32) (au : Int32) (a1 : Nat) (a2 : Nat) (a3 : Nat) (a4 : Nat) (a5 : Nat) (a6 : Nat) (a7 : Nat) (a8 : Nat) (a9 : Nat) (a10 : Nat) (af1 : Nat → Int32) (af2 : Nat → Int32) (af9 : Nat → Int32) (h_n : an ≤ 10) (h_l : 1 ≤ ql ∧ ql ≤ 12) (h_j : j < an) (h_s1 : ∀ i, i < an → af1 i = fa (4 + i)) (h_s2 : ∀ i, i < an → af2 i = fa (14 + i)) (h_s9 : ∀ i, i < an → af9 i = fa (84 + i)) : Ct l yX3_weighChanges cX3_weighChanges 5 none 1 0 0 D T [.ref h0, .ref a0, .int (nI j)] [(h0, .inr (3, [.ref h1, .int qx, .int qy, .int (nI ql), .ref h2, .ref h3])), (h2, .inl (T 0, 10, .inl qp)), (h3, .inl (T 0, 12, .inl qc)), (a0, .inr (5, [.int (nI an), .int am, .int al, .int ao, .int au, .ref a1, .ref a2, .ref a3, .ref a4, .ref a5, .ref a6, .ref a7, .ref a8, .ref a9, .ref a10])), (a1, .inl (T 0, 10, .inl af1)), (a2, .inl (T 0, 10, .inl af2)), (a9, .inl (T 0, 10, .inl af9))] (q_h_weigh_f T fa h0 a0 j h1 qx qy ql h2 h3 qp qc an am al ao au a1 a2 a3 a4 a5 a6 a7 a8 a9 a10 af1 af2 af9) := by
  refine Ct.of (cc := cX3_weighChanges) (maxL := 5) (ret := none) (by decide) (Nat.le_of_ble_eq_true rfl) ?_
  intro p e s m args below meth c A ls hC hnm V hl
  obtain ⟨hx, hb, hr, hml, hown, hts, hlocks⟩ := id hC
  generalize hH : s.heap = H at V ⊢
  clear hH
  have hl : lv_has ls 5 [(0, .ref h0), (1, .ref a0), (2, .int (nI j))] := hl
  generalize hlo : ([] : List Loc) = locs at V ⊢
  clear hlo
  refine lv_iconst (v := (nI 0)) hx hb dX3_weighChanges_0 (by decide +kernel) ?_
  refine lv_istore_n (lv' := [(3, .int (nI 0)), (0, .ref h0), (1, .ref a0), (2, .int (nI j))]) hx hb dX3_weighChanges_1 rfl hl (by decide) rfl (fun ls hl => ?_)
  have L_1 : ∀ (fu : Nat) (k2 : Nat) (ga : Nat → Int32), k2 ≤ ql → (∀ t, t < k2 → ga t = -(fa (14 + j))) → ql - k2 < fu → ∀ (H : Heap) (locs : List Loc) (ls : Array Slot), gW D T A s [(h0, .inr (3, [.ref h1, .int qx, .int qy, .int (nI ql), .ref h2, .ref h3])), (h2, .inl (T 0, 10, .inl qp)), (h3, .inl (T 0, 12, .inl ga)), (a0, .inr (5, [.int (nI an), .int am, .int al, .int ao, .int au, .ref a1, .ref a2, .ref a3, .ref a4, .ref a5, .ref a6, .ref a7, .ref a8, .ref a9, .ref a10])), (a1, .inl (T 0, 10, .inl af1)), (a2, .inl (T 0, 10, .inl af2)), (a9, .inl (T 0, 10, .inl af9))] H locs → lv_has ls 5 [(3, .int (nI k2)), (0, .ref h0), (1, .ref a0), (2, .int (nI j))] → W p l e (rmD 1 0 0) s m args below meth c H locs 0 0 (MQ below (gQ D A (q_h_weigh_f T fa h0 a0 j h1 qx qy ql h2 h3 qp qc an am al ao au a1 a2 a3 a4 a5 a6 a7 a8 a9 a10 af1 af2 af9)) args s 0 0 A) (F0 m 2 ls []) := by
    intro fu_2
    induction fu_2 with
    | zero => intro k2 ga hk2 hg2 hmu; exact absurd hmu (Nat.not_lt_zero _)
    | succ fu_2 ih_2 =>
      intro k2 ga hk2 hg2 hmu_2 H locs ls V hl
      refine lv_iload_n hx hb dX3_weighChanges_2 rfl (lv_at hl 0 rfl) ?_
      refine lv_aload_n hx hb dX3_weighChanges_3 rfl (lv_at hl 1 rfl) ?_
      refine g_get hC V (ci := 3) uwX3 0 rfl rfl 3 (by decide) w_189 rfl rfl dX3_weighChanges_4 ?_
      refine lv_icmp_ge (tgt := 29) hx hb dX3_weighChanges_7 (by decide) (fun c_2 => ?_) (fun c_2 => ?_)
      · skip
        have c_2 := b_le (by omega) (by omega) c_2
        refine lv_iconst (v := (nI 0)) hx hb dX3_weighChanges_29 (by decide +kernel) ?_
        refine lv_istore_n (lv' := [(3, .int (nI 0)), (0, .ref h0), (1, .ref a0), (2, .int (nI j))]) hx hb dX3_weighChanges_30 rfl hl (by decide) rfl (fun ls hl => ?_)
        have L_3 : ∀ (fu : Nat) (k31 : Nat) (gb : Nat → Int32), k31 ≤ an → (∀ t, t < ql → gb t = -(fa (14 + j)) + bbF fa qp j t k31) → an - k31 < fu → ∀ (H : Heap) (locs : List Loc) (ls : Array Slot), gW D T A s [(h0, .inr (3, [.ref h1, .int qx, .int qy, .int (nI ql), .ref h2, .ref h3])), (h2, .inl (T 0, 10, .inl qp)), (h3, .inl (T 0, 12, .inl gb)), (a0, .inr (5, [.int (nI an), .int am, .int al, .int ao, .int au, .ref a1, .ref a2, .ref a3, .ref a4, .ref a5, .ref a6, .ref a7, .ref a8, .ref a9, .ref a10])), (a1, .inl (T 0, 10, .inl af1)), (a2, .inl (T 0, 10, .inl af2)), (a9, .inl (T 0, 10, .inl af9))] H locs → lv_has ls 5 [(3, .int (nI k31)), (0, .ref h0), (1, .ref a0), (2, .int (nI j))] → W p l e (rmD 1 0 0) s m args below meth c H locs 0 0 (MQ below (gQ D A (q_h_weigh_f T fa h0 a0 j h1 qx qy ql h2 h3 qp qc an am al ao au a1 a2 a3 a4 a5 a6 a7 a8 a9 a10 af1 af2 af9)) args s 0 0 A) (F0 m 31 ls []) := by
          intro fu_31
          induction fu_31 with
          | zero => intro k31 gb hk31 hg31 hmu; exact absurd hmu (Nat.not_lt_zero _)
          | succ fu_31 ih_31 =>
            intro k31 gb hk31 hg31 hmu_31 H locs ls V hl
            refine lv_iload_n hx hb dX3_weighChanges_31 rfl (lv_at hl 0 rfl) ?_
            refine lv_aload_n hx hb dX3_weighChanges_32 rfl (lv_at hl 2 rfl) ?_
            refine g_get hC V (ci := 5) uwX5 3 rfl rfl 0 (by decide) w_37 rfl rfl dX3_weighChanges_33 ?_
            refine lv_icmp_ge (tgt := 107) hx hb dX3_weighChanges_36 (by decide) (fun c_4 => ?_) (fun c_4 => ?_)
            · skip
              have c_4 := b_le (by omega) (by omega) c_4
              exact g_vret (Qr := (q_h_weigh_f T fa h0 a0 j h1 qx qy ql h2 h3 qp qc an am al ao au a1 a2 a3 a4 a5 a6 a7 a8 a9 a10 af1 af2 af9)) hC V ⟨(Nat.le_of_ble_eq_true rfl), (Nat.le_of_ble_eq_true rfl)⟩ ⟨gb, rfl, rfl, (fun t ht => by rw [hg31 t ht]; congr 2; omega)⟩ dX3_weighChanges_107
            · skip
              have c_4 := b_nle (by omega) (by omega) c_4
              refine lv_aload_n hx hb dX3_weighChanges_39 rfl (lv_at hl 2 rfl) ?_
              refine g_get hC V (ci := 5) uwX5 3 rfl rfl 13 (by decide) w_85 rfl rfl dX3_weighChanges_40 ?_
              refine lv_iload_n hx hb dX3_weighChanges_43 rfl (lv_at hl 0 rfl) ?_
              refine g_iald hC V 6 rfl (vp_in_nI (by omega) (by omega)) (v := (af9 k31)) (congrArg _ (nI_clamp (by omega))) dX3_weighChanges_44 ?_
              refine lv_iload_n hx hb dX3_weighChanges_45 rfl (lv_at hl 3 rfl) ?_
              refine lv_icmp_ne (tgt := 101) hx hb dX3_weighChanges_46 (by decide) (fun c_5 => ?_) (fun c_5 => ?_)
              · skip
                refine lv_iinc (v := (nI (k31 + 1))) (lv' := [(3, .int (nI (k31 + 1))), (0, .ref h0), (1, .ref a0), (2, .int (nI j))]) hx hb dX3_weighChanges_101 hl (k := 0) rfl (nI_1 _) (by decide) rfl (fun ls hl => ?_)
                refine lv_goto (tgt := 31) hx hb dX3_weighChanges_104 (by decide) ?_
                exact ih_31 (k31 + 1) gb (by omega) (fun t ht => bb_o (hg31 t ht) (fun q => c_5 ((h_s9 _ (by omega)).trans q))) (by omega) _ _ _ V (lv_sub hl [0, 1, 2, 3] rfl)
              · skip
                refine lv_iconst (v := (nI 0)) hx hb dX3_weighChanges_49 (by decide +kernel) ?_
                refine lv_istore (lv' := [(4, .int (nI 0)), (3, .int (nI k31)), (0, .ref h0), (1, .ref a0), (2, .int (nI j))]) hx hb dX3_weighChanges_50 hl (by decide) rfl (fun ls hl => ?_)
                have L_6 : ∀ (fu : Nat) (k52 : Nat) (gc : Nat → Int32), k52 ≤ ql → (∀ t, t < k52 → gc t = -(fa (14 + j)) + bbF fa qp j t (k31 + 1)) → (∀ t, k52 ≤ t → t < ql → gc t = -(fa (14 + j)) + bbF fa qp j t k31) → ql - k52 < fu → ∀ (H : Heap) (locs : List Loc) (ls : Array Slot), gW D T A s [(h0, .inr (3, [.ref h1, .int qx, .int qy, .int (nI ql), .ref h2, .ref h3])), (h2, .inl (T 0, 10, .inl qp)), (h3, .inl (T 0, 12, .inl gc)), (a0, .inr (5, [.int (nI an), .int am, .int al, .int ao, .int au, .ref a1, .ref a2, .ref a3, .ref a4, .ref a5, .ref a6, .ref a7, .ref a8, .ref a9, .ref a10])), (a1, .inl (T 0, 10, .inl af1)), (a2, .inl (T 0, 10, .inl af2)), (a9, .inl (T 0, 10, .inl af9))] H locs → lv_has ls 5 [(4, .int (nI k52)), (3, .int (nI k31)), (0, .ref h0), (1, .ref a0), (2, .int (nI j))] → W p l e (rmD 1 0 0) s m args below meth c H locs 0 0 (MQ below (gQ D A (q_h_weigh_f T fa h0 a0 j h1 qx qy ql h2 h3 qp qc an am al ao au a1 a2 a3 a4 a5 a6 a7 a8 a9 a10 af1 af2 af9)) args s 0 0 A) (F0 m 52 ls []) := by
                  intro fu_52
                  induction fu_52 with
                  | zero => intro k52 gc hk52 hg52a hg52b hmu; exact absurd hmu (Nat.not_lt_zero _)
                  | succ fu_52 ih_52 =>
                    intro k52 gc hk52 hg52a hg52b hmu_52 H locs ls V hl
                    refine lv_iload hx hb dX3_weighChanges_52 (lv_at hl 0 rfl) ?_
                    refine lv_aload_n hx hb dX3_weighChanges_54 rfl (lv_at hl 2 rfl) ?_
                    refine g_get hC V (ci := 3) uwX3 0 rfl rfl 3 (by decide) w_189 rfl rfl dX3_weighChanges_55 ?_
                    refine lv_icmp_ge (tgt := 101) hx hb dX3_weighChanges_58 (by decide) (fun c_7 => ?_) (fun c_7 => ?_)
                    · skip
                      have c_7 := b_le (by omega) (by omega) c_7
                      refine lv_iinc (v := (nI (k31 + 1))) (lv' := [(3, .int (nI (k31 + 1))), (4, .int (nI k52)), (0, .ref h0), (1, .ref a0), (2, .int (nI j))]) hx hb dX3_weighChanges_101 hl (k := 1) rfl (nI_1 _) (by decide) rfl (fun ls hl => ?_)
                      refine lv_goto (tgt := 31) hx hb dX3_weighChanges_104 (by decide) ?_
                      exact ih_31 (k31 + 1) gc (by omega) (fun t ht => hg52a t (by omega)) (by omega) _ _ _ V (lv_sub hl [0, 2, 3, 4] rfl)
                    · skip
                      have c_7 := b_nle (by omega) (by omega) c_7
                      refine lv_aload_n hx hb dX3_weighChanges_61 rfl (lv_at hl 2 rfl) ?_
                      refine g_get hC V (ci := 3) uwX3 0 rfl rfl 5 (by decide) w_191 rfl rfl dX3_weighChanges_62 ?_
                      refine lv_iload hx hb dX3_weighChanges_65 (lv_at hl 0 rfl) ?_
                      refine lv_dup2_11 hx hb dX3_weighChanges_67 rfl rfl ?_
                      refine g_iald hC V 2 rfl (vp_in_nI (by omega) (by omega)) (v := (gc k52)) (congrArg _ (nI_clamp (by omega))) dX3_weighChanges_68 ?_
                      refine lv_aload_n hx hb dX3_weighChanges_69 rfl (lv_at hl 2 rfl) ?_
                      refine g_get hC V (ci := 3) uwX3 0 rfl rfl 4 (by decide) w_190 rfl rfl dX3_weighChanges_70 ?_
                      refine lv_iload_n hx hb dX3_weighChanges_73 rfl (lv_at hl 1 rfl) ?_
                      refine g_iald hC V 1 rfl (vp_in_nI (by omega) (by omega)) (v := (qp k31)) (congrArg _ (nI_clamp (by omega))) dX3_weighChanges_74 ?_
                      refine lv_iload hx hb dX3_weighChanges_75 (lv_at hl 0 rfl) ?_
                      refine g_callSNU (nA := 2) (host := RX7) hC V hl.1 (c_isIn_f l D T (qp k31) k52) w_472 (List.mem_of_getElem? (i := 10) rfl) w_2 w_471 (by decide +kernel) rfl ⟨(Nat.le_of_ble_eq_true rfl), (Nat.le_of_ble_eq_true rfl)⟩ [] rfl rfl (Nat.le_of_ble_eq_true rfl) dX3_weighChanges_77 ⟨(Nat.le_of_ble_eq_true rfl), (Nat.le_of_ble_eq_true rfl)⟩ rfl (fun r w1 H locs hQ V => ?_)
                      rcases hQ with ⟨rfl, rfl, f_8⟩ | ⟨rfl, rfl, f_9⟩
                      · have V : gW D T A s [(h0, .inr (3, [.ref h1, .int qx, .int qy, .int (nI ql), .ref h2, .ref h3])), (h2, .inl (T 0, 10, .inl qp)), (h3, .inl (T 0, 12, .inl gc)), (a0, .inr (5, [.int (nI an), .int am, .int al, .int ao, .int au, .ref a1, .ref a2, .ref a3, .ref a4, .ref a5, .ref a6, .ref a7, .ref a8, .ref a9, .ref a10])), (a1, .inl (T 0, 10, .inl af1)), (a2, .inl (T 0, 10, .inl af2)), (a9, .inl (T 0, 10, .inl af9))] H locs := V _ [] rfl rfl rfl (by decide +kernel) rfl
                        show W p l e _ s m args below meth c H locs _ _ _ (F0 m 80 ls [.int (nI 1), .int (gc k52), .int (nI k52), .ref h3])
                        refine lv_if_eq (tgt := 92) hx hb dX3_weighChanges_80 (by decide) (fun c => absurd (show (nI 1) = 0 from c) (by decide +kernel)) (fun _ => ?_)
                        refine lv_aload_n hx hb dX3_weighChanges_83 rfl (lv_at hl 3 rfl) ?_
                        refine g_get hC V (ci := 5) uwX5 3 rfl rfl 5 (by decide) w_55 rfl rfl dX3_weighChanges_84 ?_
                        refine lv_iload_n hx hb dX3_weighChanges_87 rfl (lv_at hl 1 rfl) ?_
                        refine g_iald hC V 4 rfl (vp_in_nI (by omega) (by omega)) (v := (af1 k31)) (congrArg _ (nI_clamp (by omega))) dX3_weighChanges_88 ?_
                        refine lv_goto (tgt := 93) hx hb dX3_weighChanges_89 (by decide) ?_
                        refine lv_iadd hx hb dX3_weighChanges_93 ?_
                        refine g_iast hC V 2 rfl (vp_in_nI (by omega) (by omega)) (f' := (upd gc k52 ((gc k52) + (af1 k31)))) (by rw [nI_clamp (by omega)]) (ws' := [(h0, .inr (3, [.ref h1, .int qx, .int qy, .int (nI ql), .ref h2, .ref h3])), (h2, .inl (T 0, 10, .inl qp)), (h3, .inl (T 0, 12, .inl (upd gc k52 ((gc k52) + (af1 k31))))), (a0, .inr (5, [.int (nI an), .int am, .int al, .int ao, .int au, .ref a1, .ref a2, .ref a3, .ref a4, .ref a5, .ref a6, .ref a7, .ref a8, .ref a9, .ref a10])), (a1, .inl (T 0, 10, .inl af1)), (a2, .inl (T 0, 10, .inl af2)), (a9, .inl (T 0, 10, .inl af9))]) rfl dX3_weighChanges_94 (fun H locs V => ?_)
                        refine lv_iinc (v := (nI (k52 + 1))) (lv' := [(4, .int (nI (k52 + 1))), (3, .int (nI k31)), (0, .ref h0), (1, .ref a0), (2, .int (nI j))]) hx hb dX3_weighChanges_95 hl (k := 0) rfl (nI_1 _) (by decide) rfl (fun ls hl => ?_)
                        refine lv_goto (tgt := 52) hx hb dX3_weighChanges_98 (by decide) ?_
                        exact ih_52 (k52 + 1) (upd gc k52 ((gc k52) + (af1 k31))) (by omega) (wb_s hg52a hg52b (by rw [h_s1 _ (by omega)]; exact bb_y (hg52b k52 (Nat.le_refl _) (by omega)) ((h_s9 _ (by omega)).symm.trans c_5) f_8)).1 (wb_s hg52a hg52b (by rw [h_s1 _ (by omega)]; exact bb_y (hg52b k52 (Nat.le_refl _) (by omega)) ((h_s9 _ (by omega)).symm.trans c_5) f_8)).2 (by omega) _ _ _ V (lv_sub hl [0, 1, 2, 3, 4] rfl)
                      · have V : gW D T A s [(h0, .inr (3, [.ref h1, .int qx, .int qy, .int (nI ql), .ref h2, .ref h3])), (h2, .inl (T 0, 10, .inl qp)), (h3, .inl (T 0, 12, .inl gc)), (a0, .inr (5, [.int (nI an), .int am, .int al, .int ao, .int au, .ref a1, .ref a2, .ref a3, .ref a4, .ref a5, .ref a6, .ref a7, .ref a8, .ref a9, .ref a10])), (a1, .inl (T 0, 10, .inl af1)), (a2, .inl (T 0, 10, .inl af2)), (a9, .inl (T 0, 10, .inl af9))] H locs := V _ [] rfl rfl rfl (by decide +kernel) rfl
                        show W p l e _ s m args below meth c H locs _ _ _ (F0 m 80 ls [.int (nI 0), .int (gc k52), .int (nI k52), .ref h3])
                        refine lv_if_eq (tgt := 92) hx hb dX3_weighChanges_80 (by decide) (fun _ => ?_) (fun c => absurd (show (nI 0) = 0 by decide +kernel) c)
                        refine lv_iconst (v := (nI 0)) hx hb dX3_weighChanges_92 (by decide +kernel) ?_
                        refine lv_iadd hx hb dX3_weighChanges_93 ?_
                        refine g_iast hC V 2 rfl (vp_in_nI (by omega) (by omega)) (f' := (upd gc k52 ((gc k52) + (nI 0)))) (by rw [nI_clamp (by omega)]) (ws' := [(h0, .inr (3, [.ref h1, .int qx, .int qy, .int (nI ql), .ref h2, .ref h3])), (h2, .inl (T 0, 10, .inl qp)), (h3, .inl (T 0, 12, .inl (upd gc k52 ((gc k52) + (nI 0))))), (a0, .inr (5, [.int (nI an), .int am, .int al, .int ao, .int au, .ref a1, .ref a2, .ref a3, .ref a4, .ref a5, .ref a6, .ref a7, .ref a8, .ref a9, .ref a10])), (a1, .inl (T 0, 10, .inl af1)), (a2, .inl (T 0, 10, .inl af2)), (a9, .inl (T 0, 10, .inl af9))]) rfl dX3_weighChanges_94 (fun H locs V => ?_)
                        refine lv_iinc (v := (nI (k52 + 1))) (lv' := [(4, .int (nI (k52 + 1))), (3, .int (nI k31)), (0, .ref h0), (1, .ref a0), (2, .int (nI j))]) hx hb dX3_weighChanges_95 hl (k := 0) rfl (nI_1 _) (by decide) rfl (fun ls hl => ?_)
                        refine lv_goto (tgt := 52) hx hb dX3_weighChanges_98 (by decide) ?_
                        exact ih_52 (k52 + 1) (upd gc k52 ((gc k52) + (nI 0))) (by omega) (wb_s hg52a hg52b (bb_n (hg52b k52 (Nat.le_refl _) (by omega)) (fun q => f_9 q.2))).1 (wb_s hg52a hg52b (bb_n (hg52b k52 (Nat.le_refl _) (by omega)) (fun q => f_9 q.2))).2 (by omega) _ _ _ V (lv_sub hl [0, 1, 2, 3, 4] rfl)
                exact L_6 _ 0 gb (by omega) (fun t h => absurd h (Nat.not_lt_zero _)) (fun t _ ht => hg31 t ht) (Nat.lt_succ_self _) _ _ _ V (lv_sub hl [0, 1, 2, 3, 4] rfl)
        exact L_3 _ 0 ga (by omega) (fun t ht => (hg2 t (by omega)).trans (add_n0 _)) (Nat.lt_succ_self _) _ _ _ V (lv_sub hl [0, 1, 2, 3] rfl)
      · skip
        have c_2 := b_nle (by omega) (by omega) c_2
        refine lv_aload_n hx hb dX3_weighChanges_10 rfl (lv_at hl 1 rfl) ?_
        refine g_get hC V (ci := 3) uwX3 0 rfl rfl 5 (by decide) w_191 rfl rfl dX3_weighChanges_11 ?_
        refine lv_iload_n hx hb dX3_weighChanges_14 rfl (lv_at hl 0 rfl) ?_
        refine lv_aload_n hx hb dX3_weighChanges_15 rfl (lv_at hl 2 rfl) ?_
        refine g_get hC V (ci := 5) uwX5 3 rfl rfl 6 (by decide) w_61 rfl rfl dX3_weighChanges_16 ?_
        refine lv_iload_n hx hb dX3_weighChanges_19 rfl (lv_at hl 3 rfl) ?_
        refine g_iald hC V 5 rfl (vp_in_nI (by omega) (by omega)) (v := (af2 j)) (congrArg _ (nI_clamp (by omega))) dX3_weighChanges_20 ?_
        refine lv_ineg hx hb dX3_weighChanges_21 ?_
        refine g_iast hC V 2 rfl (vp_in_nI (by omega) (by omega)) (f' := (upd ga k2 (-(af2 j)))) (by rw [nI_clamp (by omega)]) (ws' := [(h0, .inr (3, [.ref h1, .int qx, .int qy, .int (nI ql), .ref h2, .ref h3])), (h2, .inl (T 0, 10, .inl qp)), (h3, .inl (T 0, 12, .inl (upd ga k2 (-(af2 j))))), (a0, .inr (5, [.int (nI an), .int am, .int al, .int ao, .int au, .ref a1, .ref a2, .ref a3, .ref a4, .ref a5, .ref a6, .ref a7, .ref a8, .ref a9, .ref a10])), (a1, .inl (T 0, 10, .inl af1)), (a2, .inl (T 0, 10, .inl af2)), (a9, .inl (T 0, 10, .inl af9))]) rfl dX3_weighChanges_22 (fun H locs V => ?_)
        refine lv_iinc (v := (nI (k2 + 1))) (lv' := [(3, .int (nI (k2 + 1))), (0, .ref h0), (1, .ref a0), (2, .int (nI j))]) hx hb dX3_weighChanges_23 hl (k := 0) rfl (nI_1 _) (by decide) rfl (fun ls hl => ?_)
        refine lv_goto (tgt := 2) hx hb dX3_weighChanges_26 (by decide) ?_
        exact ih_2 (k2 + 1) (upd ga k2 (-(af2 j))) (by omega) (up_one (p := fun t x => x = -(fa (14 + j))) hg2 (by rw [h_s2 j h_j])) (by omega) _ _ _ V (lv_sub hl [0, 1, 2, 3] rfl)
  exact L_1 _ 0 qc (by omega) (fun t h => absurd h (Nat.not_lt_zero _)) (Nat.lt_succ_self _) _ _ _ V (lv_sub hl [0, 1, 2, 3] rfl)

def q_h_evenOnes_f (T : Nat → ClassId) (fa : Nat → Int32) (h0 : Nat) (a0 : Nat) (h1 : Nat) (qx : Int32) (qy : Int32) (ql : Nat) (h2 : Nat) (h3 : Nat) (qp : Nat → Int32) (qc : Nat → Int32) (an : Nat) (am : Int32) (al : Int32) (ao : Int32) (au : Int32) (a1 : Nat) (a2 : Nat) (a3 : Nat) (a4 : Nat) (a5 : Nat) (a6 : Nat) (a7 : Nat) (a8 : Nat) (a9 : Nat) (a10 : Nat) (af1 : Nat → Int32) (af2 : Nat → Int32) (af9 : Nat → Int32) : Option Value → va_W → Prop := fun rr ww => (∃ (z : Int32) (g : Nat → Int32), rr = some (.int z) ∧ ww = [(h0, .inr (3, [.ref h1, .int qx, .int qy, .int (nI ql), .ref h2, .ref h3])), (h2, .inl (T 0, 10, .inl qp)), (h3, .inl (T 0, 12, .inl g)), (a0, .inr (5, [.int (nI an), .int am, .int al, .int ao, .int au, .ref a1, .ref a2, .ref a3, .ref a4, .ref a5, .ref a6, .ref a7, .ref a8, .ref a9, .ref a10])), (a1, .inl (T 0, 10, .inl af1)), (a2, .inl (T 0, 10, .inl af2)), (a9, .inl (T 0, 10, .inl af9))] ∧ z = evB an fa qp ql an)
set_option maxHeartbeats 4000000 in
set_option maxRecDepth 100000 in
theorem h_evenOnes_f (l : Launch) (D : va_G) (T : Nat → ClassId) (fa : Nat → Int32) (h0 : Nat) (a0 : Nat) (h1 : Nat) (qx : Int32) (qy : Int32) (ql : Nat) (h2 : Nat) (h3 : Nat) (qp : Nat → Int32) (qc : Nat → Int32) (an : Nat) (am : Int32) (al : Int32) (ao : Int32) (au : Int32) (a1 : Nat) (a2 : Nat) (a3 : Nat) (a4 : Nat) (a5 : Nat) (a6 : Nat) (a7 : Nat) (a8 : Nat) (a9 : Nat) (a10 : Nat) (af1 : Nat → Int32) (af2 : Nat → Int32) (af9 : Nat → Int32) (h_n : an ≤ 10) (h_l : 1 ≤ ql ∧ ql ≤ 12) (h_s1 : ∀ i, i < an → af1 i = fa (4 + i)) (h_s2 : ∀ i, i < an → af2 i = fa (14 + i)) (h_s9 : ∀ i, i < an → af9 i = fa (84 + i)) : Ct l yX3_evenOnes cX3_evenOnes 6 (some .int) 2 0 0 D T [.ref h0, .ref a0] [(h0, .inr (3, [.ref h1, .int qx, .int qy, .int (nI ql), .ref h2, .ref h3])), (h2, .inl (T 0, 10, .inl qp)), (h3, .inl (T 0, 12, .inl qc)), (a0, .inr (5, [.int (nI an), .int am, .int al, .int ao, .int au, .ref a1, .ref a2, .ref a3, .ref a4, .ref a5, .ref a6, .ref a7, .ref a8, .ref a9, .ref a10])), (a1, .inl (T 0, 10, .inl af1)), (a2, .inl (T 0, 10, .inl af2)), (a9, .inl (T 0, 10, .inl af9))] (q_h_evenOnes_f T fa h0 a0 h1 qx qy ql h2 h3 qp qc an am al ao au a1 a2 a3 a4 a5 a6 a7 a8 a9 a10 af1 af2 af9) := by
  refine Ct.of (cc := cX3_evenOnes) (maxL := 6) (ret := (some .int)) (by decide) (Nat.le_of_ble_eq_true rfl) ?_
  intro p e s m args below meth c A ls hC hnm V hl
  obtain ⟨hx, hb, hr, hml, hown, hts, hlocks⟩ := id hC
  generalize hH : s.heap = H at V ⊢
  clear hH
  have hl : lv_has ls 6 [(0, .ref h0), (1, .ref a0)] := hl
  generalize hlo : ([] : List Loc) = locs at V ⊢
  clear hlo
  refine lv_iconst (v := (nI 0)) hx hb dX3_evenOnes_0 (by decide +kernel) ?_
  refine lv_istore_n (lv' := [(2, .int (nI 0)), (0, .ref h0), (1, .ref a0)]) hx hb dX3_evenOnes_1 rfl hl (by decide) rfl (fun ls hl => ?_)
  refine lv_iconst (v := (nI 0)) hx hb dX3_evenOnes_2 (by decide +kernel) ?_
  refine lv_istore_n (lv' := [(3, .int (nI 0)), (2, .int (nI 0)), (0, .ref h0), (1, .ref a0)]) hx hb dX3_evenOnes_3 rfl hl (by decide) rfl (fun ls hl => ?_)
  have L_1 : ∀ (fu : Nat) (k4 : Nat) (x2 : Int32) (ga : Nat → Int32), k4 ≤ an → x2 = evB an fa qp ql k4 → an - k4 < fu → ∀ (H : Heap) (locs : List Loc) (ls : Array Slot), gW D T A s [(h0, .inr (3, [.ref h1, .int qx, .int qy, .int (nI ql), .ref h2, .ref h3])), (h2, .inl (T 0, 10, .inl qp)), (h3, .inl (T 0, 12, .inl ga)), (a0, .inr (5, [.int (nI an), .int am, .int al, .int ao, .int au, .ref a1, .ref a2, .ref a3, .ref a4, .ref a5, .ref a6, .ref a7, .ref a8, .ref a9, .ref a10])), (a1, .inl (T 0, 10, .inl af1)), (a2, .inl (T 0, 10, .inl af2)), (a9, .inl (T 0, 10, .inl af9))] H locs → lv_has ls 6 [(3, .int (nI k4)), (2, .int x2), (0, .ref h0), (1, .ref a0)] → W p l e (rmD 2 0 0) s m args below meth c H locs 0 0 (MQ below (gQ D A (q_h_evenOnes_f T fa h0 a0 h1 qx qy ql h2 h3 qp qc an am al ao au a1 a2 a3 a4 a5 a6 a7 a8 a9 a10 af1 af2 af9)) args s 0 0 A) (F0 m 4 ls []) := by
    intro fu_4
    induction fu_4 with
    | zero => intro k4 x2 ga hk4 hx2 hmu; exact absurd hmu (Nat.not_lt_zero _)
    | succ fu_4 ih_4 =>
      intro k4 x2 ga hk4 hx2 hmu_4 H locs ls V hl
      refine lv_iload_n hx hb dX3_evenOnes_4 rfl (lv_at hl 0 rfl) ?_
      refine lv_aload_n hx hb dX3_evenOnes_5 rfl (lv_at hl 3 rfl) ?_
      refine g_get hC V (ci := 5) uwX5 3 rfl rfl 0 (by decide) w_37 rfl rfl dX3_evenOnes_6 ?_
      refine lv_icmp_ge (tgt := 72) hx hb dX3_evenOnes_9 (by decide) (fun c_2 => ?_) (fun c_2 => ?_)
      · skip
        have c_2 := b_le (by omega) (by omega) c_2
        refine lv_iload_n hx hb dX3_evenOnes_72 rfl (lv_at hl 1 rfl) ?_
        exact g_iret (Qr := (q_h_evenOnes_f T fa h0 a0 h1 qx qy ql h2 h3 qp qc an am al ao au a1 a2 a3 a4 a5 a6 a7 a8 a9 a10 af1 af2 af9)) hC V ⟨(Nat.le_of_ble_eq_true rfl), (Nat.le_of_ble_eq_true rfl)⟩ ⟨x2, ga, rfl, rfl, (by rw [hx2]; congr 1; omega)⟩ dX3_evenOnes_73
      · skip
        have c_2 := b_nle (by omega) (by omega) c_2
        refine lv_aload_n hx hb dX3_evenOnes_12 rfl (lv_at hl 2 rfl) ?_
        refine lv_aload_n hx hb dX3_evenOnes_13 rfl (lv_at hl 3 rfl) ?_
        refine lv_iload_n hx hb dX3_evenOnes_14 rfl (lv_at hl 0 rfl) ?_
        refine g_callV (wr := []) (nA := 2) hC V hl.1 (h_weigh_f l D T fa h0 a0 k4 h1 qx qy ql h2 h3 qp ga an am al ao au a1 a2 a3 a4 a5 a6 a7 a8 a9 a10 af1 af2 af9 (by first | assumption | omega) (by first | assumption | omega) (by first | assumption | omega) (by first | assumption | omega) (by first | assumption | omega) (by first | assumption | omega)) w_618 w_620 w_s19 w_6 w_621 (by decide +kernel) rfl ⟨(Nat.le_of_ble_eq_true rfl), (Nat.le_of_ble_eq_true rfl)⟩ 0 (ci := 3) rfl rfl [0, 1, 2, 3, 4, 5, 6] [] rfl rfl rfl rfl (by decide) (Nat.le_of_ble_eq_true rfl) dX3_evenOnes_15 ⟨(Nat.le_of_ble_eq_true rfl), (Nat.le_of_ble_eq_true rfl)⟩ rfl (fun r w1 H locs hQ V => ?_)
        obtain ⟨g_3, rfl, rfl, f_4⟩ := hQ
        have V : gW D T A s [(h0, .inr (3, [.ref h1, .int qx, .int qy, .int (nI ql), .ref h2, .ref h3])), (h2, .inl (T 0, 10, .inl qp)), (h3, .inl (T 0, 12, .inl g_3)), (a0, .inr (5, [.int (nI an), .int am, .int al, .int ao, .int au, .ref a1, .ref a2, .ref a3, .ref a4, .ref a5, .ref a6, .ref a7, .ref a8, .ref a9, .ref a10])), (a1, .inl (T 0, 10, .inl af1)), (a2, .inl (T 0, 10, .inl af2)), (a9, .inl (T 0, 10, .inl af9))] H locs := V
        show W p l e _ s m args below meth c H locs _ _ _ (F0 m 18 ls [])
        have hwe := f_4
        refine lv_iconst (v := (nI 0)) hx hb dX3_evenOnes_18 (by decide +kernel) ?_
        refine lv_istore (lv' := [(4, .int (nI 0)), (3, .int (nI k4)), (2, .int x2), (0, .ref h0), (1, .ref a0)]) hx hb dX3_evenOnes_19 hl (by decide) rfl (fun ls hl => ?_)
        refine lv_iconst (v := (nI 0)) hx hb dX3_evenOnes_21 (by decide +kernel) ?_
        refine lv_istore (lv' := [(5, .int (nI 0)), (4, .int (nI 0)), (3, .int (nI k4)), (2, .int x2), (0, .ref h0), (1, .ref a0)]) hx hb dX3_evenOnes_22 hl (by decide) rfl (fun ls hl => ?_)
        have L_5 : ∀ (fu : Nat) (k24 : Nat) (x4 : Int32), k24 ≤ ql → x4 = csF fa qp an k4 k24 → ql - k24 < fu → ∀ (H : Heap) (locs : List Loc) (ls : Array Slot), gW D T A s [(h0, .inr (3, [.ref h1, .int qx, .int qy, .int (nI ql), .ref h2, .ref h3])), (h2, .inl (T 0, 10, .inl qp)), (h3, .inl (T 0, 12, .inl g_3)), (a0, .inr (5, [.int (nI an), .int am, .int al, .int ao, .int au, .ref a1, .ref a2, .ref a3, .ref a4, .ref a5, .ref a6, .ref a7, .ref a8, .ref a9, .ref a10])), (a1, .inl (T 0, 10, .inl af1)), (a2, .inl (T 0, 10, .inl af2)), (a9, .inl (T 0, 10, .inl af9))] H locs → lv_has ls 6 [(5, .int (nI k24)), (4, .int x4), (3, .int (nI k4)), (2, .int x2), (0, .ref h0), (1, .ref a0)] → W p l e (rmD 2 0 0) s m args below meth c H locs 0 0 (MQ below (gQ D A (q_h_evenOnes_f T fa h0 a0 h1 qx qy ql h2 h3 qp qc an am al ao au a1 a2 a3 a4 a5 a6 a7 a8 a9 a10 af1 af2 af9)) args s 0 0 A) (F0 m 24 ls []) := by
          intro fu_24
          induction fu_24 with
          | zero => intro k24 x4 hk24 hx4 hmu; exact absurd hmu (Nat.not_lt_zero _)
          | succ fu_24 ih_24 =>
            intro k24 x4 hk24 hx4 hmu_24 H locs ls V hl
            refine lv_iload hx hb dX3_evenOnes_24 (lv_at hl 0 rfl) ?_
            refine lv_aload_n hx hb dX3_evenOnes_26 rfl (lv_at hl 4 rfl) ?_
            refine g_get hC V (ci := 3) uwX3 0 rfl rfl 3 (by decide) w_189 rfl rfl dX3_evenOnes_27 ?_
            refine lv_icmp_ge (tgt := 51) hx hb dX3_evenOnes_30 (by decide) (fun c_6 => ?_) (fun c_6 => ?_)
            · skip
              have c_6 := b_le (by omega) (by omega) c_6
              refine lv_iload_n hx hb dX3_evenOnes_51 rfl (lv_at hl 3 rfl) ?_
              refine lv_iload hx hb dX3_evenOnes_52 (lv_at hl 1 rfl) ?_
              refine lv_if_ne (tgt := 63) hx hb dX3_evenOnes_54 (by decide) (fun c_7 => ?_) (fun c_7 => ?_)
              · skip
                refine lv_iconst (v := (nI 0)) hx hb dX3_evenOnes_63 (by decide +kernel) ?_
                refine lv_ior hx hb dX3_evenOnes_64 ?_
                refine lv_istore_n (lv' := [(2, .int (x2 ||| (nI 0))), (5, .int (nI k24)), (4, .int x4), (3, .int (nI k4)), (0, .ref h0), (1, .ref a0)]) hx hb dX3_evenOnes_65 rfl hl (by decide) rfl (fun ls hl => ?_)
                refine lv_iinc (v := (nI (k4 + 1))) (lv' := [(3, .int (nI (k4 + 1))), (2, .int (x2 ||| (nI 0))), (5, .int (nI k24)), (4, .int x4), (0, .ref h0), (1, .ref a0)]) hx hb dX3_evenOnes_66 hl (k := 3) rfl (nI_1 _) (by decide) rfl (fun ls hl => ?_)
                refine lv_goto (tgt := 4) hx hb dX3_evenOnes_69 (by decide) ?_
                exact ih_4 (k4 + 1) (x2 ||| (nI 0)) g_3 (by omega) (ev_n hx2 (by rw [hx4]; congr 1; omega) c_7) (by omega) _ _ _ V (lv_sub hl [0, 1, 4, 5] rfl)
              · skip
                refine lv_iconst (v := (nI 1)) hx hb dX3_evenOnes_57 (by decide +kernel) ?_
                refine lv_iload_n hx hb dX3_evenOnes_58 rfl (lv_at hl 2 rfl) ?_
                refine lv_ishl hx hb dX3_evenOnes_59 ?_
                refine lv_goto (tgt := 64) hx hb dX3_evenOnes_60 (by decide) ?_
                refine lv_ior hx hb dX3_evenOnes_64 ?_
                refine lv_istore_n (lv' := [(2, .int (x2 ||| ((nI 1) <<< ((nI k4) &&& 31)))), (5, .int (nI k24)), (4, .int x4), (3, .int (nI k4)), (0, .ref h0), (1, .ref a0)]) hx hb dX3_evenOnes_65 rfl hl (by decide) rfl (fun ls hl => ?_)
                refine lv_iinc (v := (nI (k4 + 1))) (lv' := [(3, .int (nI (k4 + 1))), (2, .int (x2 ||| ((nI 1) <<< ((nI k4) &&& 31)))), (5, .int (nI k24)), (4, .int x4), (0, .ref h0), (1, .ref a0)]) hx hb dX3_evenOnes_66 hl (k := 3) rfl (nI_1 _) (by decide) rfl (fun ls hl => ?_)
                refine lv_goto (tgt := 4) hx hb dX3_evenOnes_69 (by decide) ?_
                exact ih_4 (k4 + 1) (x2 ||| ((nI 1) <<< ((nI k4) &&& 31))) g_3 (by omega) (ev_y hx2 (by rw [hx4]; congr 1; omega) c_7) (by omega) _ _ _ V (lv_sub hl [0, 1, 4, 5] rfl)
            · skip
              have c_6 := b_nle (by omega) (by omega) c_6
              refine lv_iload hx hb dX3_evenOnes_33 (lv_at hl 1 rfl) ?_
              refine lv_aload_n hx hb dX3_evenOnes_35 rfl (lv_at hl 4 rfl) ?_
              refine g_get hC V (ci := 3) uwX3 0 rfl rfl 5 (by decide) w_191 rfl rfl dX3_evenOnes_36 ?_
              refine lv_iload hx hb dX3_evenOnes_39 (lv_at hl 0 rfl) ?_
              refine g_iald hC V 2 rfl (vp_in_nI (by omega) (by omega)) (v := (g_3 k24)) (congrArg _ (nI_clamp (by omega))) dX3_evenOnes_41 ?_
              refine lv_iadd hx hb dX3_evenOnes_42 ?_
              refine lv_istore (lv' := [(4, .int (x4 + (g_3 k24))), (5, .int (nI k24)), (3, .int (nI k4)), (2, .int x2), (0, .ref h0), (1, .ref a0)]) hx hb dX3_evenOnes_43 hl (by decide) rfl (fun ls hl => ?_)
              refine lv_iinc (v := (nI (k24 + 1))) (lv' := [(5, .int (nI (k24 + 1))), (4, .int (x4 + (g_3 k24))), (3, .int (nI k4)), (2, .int x2), (0, .ref h0), (1, .ref a0)]) hx hb dX3_evenOnes_45 hl (k := 1) rfl (nI_1 _) (by decide) rfl (fun ls hl => ?_)
              refine lv_goto (tgt := 24) hx hb dX3_evenOnes_48 (by decide) ?_
              exact ih_24 (k24 + 1) (x4 + (g_3 k24)) (by omega) (cs_s hx4 (hwe k24 (by omega))) (by omega) _ _ _ V (lv_sub hl [0, 1, 2, 3, 4, 5] rfl)
        exact L_5 _ 0 (nI 0) (by omega) rfl (Nat.lt_succ_self _) _ _ _ V (lv_sub hl [0, 1, 2, 3, 4, 5] rfl)
  exact L_1 _ 0 (nI 0) qc (by omega) rfl (Nat.lt_succ_self _) _ _ _ V (lv_sub hl [0, 1, 2, 3] rfl)
