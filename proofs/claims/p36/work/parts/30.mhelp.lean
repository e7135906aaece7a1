/-- what holds of the reference's numbers for a street of n SMITHS -/
def MI (n : Nat) (f : Nat → Int32) : Prop := n ≤ 10 ∧ f 0 = nI n ∧ bd (f 2) 21 ∧ ∀ i, i < n → bd (f (14 + i)) 31 ∧ bd (f (24 + i)) 256 ∧ bd (f (54 + i)) 21 ∧ bd (f (64 + i)) 32 ∧ bd (f (84 + i)) n ∧ bd (f (4 + i)) 61
theorem mi_cool {n i : Nat} {f : Nat → Int32} (h : MI n f) (hi : i < n) : bd (f (14 + i)) 31 := (h.2.2.2 i hi).1
theorem mi_heat {n i : Nat} {f : Nat → Int32} (h : MI n f) (hi : i < n) : bd (f (24 + i)) 256 := (h.2.2.2 i hi).2.1
theorem mi_need {n i : Nat} {f : Nat → Int32} (h : MI n f) (hi : i < n) : bd (f (54 + i)) 21 := (h.2.2.2 i hi).2.2.1
theorem mi_has {n i : Nat} {f : Nat → Int32} (h : MI n f) (hi : i < n) : bd (f (64 + i)) 32 := (h.2.2.2 i hi).2.2.2.1
theorem mi_to {n i : Nat} {f : Nat → Int32} (h : MI n f) (hi : i < n) : bd (f (84 + i)) n := (h.2.2.2 i hi).2.2.2.2.1
theorem mi_blast {n i : Nat} {f : Nat → Int32} (h : MI n f) (hi : i < n) : bd (f (4 + i)) 61 := (h.2.2.2 i hi).2.2.2.2.2
theorem mi_lost {n : Nat} {f : Nat → Int32} (h : MI n f) : bd (f 2) 21 := h.2.2.1
theorem mi_ext {n : Nat} {f g : Nat → Int32} (h : MI n f) (e : ∀ j, j < 94 → g j = f j) : MI n g := by
  obtain ⟨h1, h2, h3, h4⟩ := h
  refine ⟨h1, by rw [e 0 (by decide)]; exact h2, by rw [e 2 (by decide)]; exact h3, fun i hi => ?_⟩
  rw [e (14 + i) (by omega), e (24 + i) (by omega), e (54 + i) (by omega), e (64 + i) (by omega), e (84 + i) (by omega), e (4 + i) (by omega)]
  exact h4 i hi
/-- .. behind some steps, which have left the images alone -/
def MS (n : Nat) (f g : Nat → Int32) : Prop := MI n g ∧ ∀ j, 94 ≤ j → g j = f j
theorem ms_rf {n : Nat} {f : Nat → Int32} (h : MI n f) : MS n f f := ⟨h, fun _ _ => rfl⟩
theorem ms_tr {n : Nat} {f g k : Nat → Int32} (h : MS n f g) (h2 : MS n g k) : MS n f k := ⟨h2.1, fun j hj => (h2.2 j hj).trans (h.2 j hj)⟩
theorem ms_st {n j : Nat} {f g : Nat → Int32} {x : Int32} (h : MS n f g) (hj : j < 94) (h0 : j ≠ 0) (h2 : j = 2 → bd x 21) (h14 : 14 ≤ j → j < 24 → bd x 31) (h24 : 24 ≤ j → j < 34 → bd x 256) (h54 : 54 ≤ j → j < 64 → bd x 21) (h64 : 64 ≤ j → j < 74 → bd x 32) (h84 : 84 ≤ j → bd x n) (h4 : 4 ≤ j → j < 14 → bd x 61) : MS n f (upd g j x) := by
  obtain ⟨⟨m1, m2, m3, m4⟩, m5⟩ := h
  refine ⟨⟨m1, by rw [up_other (by omega)]; exact m2, ?_, fun i hi => ?_⟩, fun q hq => by rw [up_other (by omega)]; exact m5 q hq⟩
  · by_cases e : 2 = j
    · subst e; rw [up_same]; exact h2 rfl
    · rw [up_other e]; exact m3
  · obtain ⟨a1, a2, a3, a4, a5, a6⟩ := m4 i hi
    refine ⟨?_, ?_, ?_, ?_, ?_, ?_⟩
    · by_cases e : 14 + i = j
      · rw [e, up_same]; exact h14 (by omega) (by omega)
      · rw [up_other e]; exact a1
    · by_cases e : 24 + i = j
      · rw [e, up_same]; exact h24 (by omega) (by omega)
      · rw [up_other e]; exact a2
    · by_cases e : 54 + i = j
      · rw [e, up_same]; exact h54 (by omega) (by omega)
      · rw [up_other e]; exact a3
    · by_cases e : 64 + i = j
      · rw [e, up_same]; exact h64 (by omega) (by omega)
      · rw [up_other e]; exact a4
    · by_cases e : 84 + i = j
      · rw [e, up_same]; exact h84 (by omega)
      · rw [up_other e]; exact a5
    · by_cases e : 4 + i = j
      · rw [e, up_same]; exact h4 (by omega) (by omega)
      · rw [up_other e]; exact a6
theorem cv_lt {a b : Int32} : a.toInt64 < b.toInt64 ↔ a < b := by rw [Int64.lt_iff_toInt_lt, Int32.lt_iff_toInt_lt, Int32.toInt_toInt64, Int32.toInt_toInt64]
theorem bd_lt {x y : Int32} {a b : Nat} (hx : bd x a) (ha : a ≤ 1000) (hy : bd y b) (hb : b ≤ 1000) (h : x < y) {j : Nat} (e : x = nI j) (hj : j < 1000) : j + 1 < b := by
  obtain ⟨p, hp, rfl⟩ := hx
  obtain ⟨q, hq, rfl⟩ := hy
  have h1 := b_lt (by omega) (by omega) h
  have h2 := b_eq (by omega) (by omega) e
  omega

def q_m_within (T : Nat → ClassId) (v : Int32) (lo : Int32) (hi : Int32) : Option Value → va_W → Prop := fun rr ww => (rr = some (.int (nI 1)) ∧ ww = [] ∧ ¬ v < lo ∧ ¬ hi < v) ∨ (rr = some (.int (nI 0)) ∧ ww = [] ∧ (v < lo ∨ hi < v))
set_option maxHeartbeats 4000000 in
set_option maxRecDepth 100000 in
theorem m_within (l : Launch) (D : va_G) (T : Nat → ClassId) (v : Int32) (lo : Int32) (hi : Int32) : Ct l yX8_within cX8_within 6 (some .boolean) 0 0 0 D T [.long v.toInt64, .long lo.toInt64, .long hi.toInt64] [] (q_m_within T v lo hi) := by
  refine Ct.of (cc := cX8_within) (maxL := 6) (ret := (some .boolean)) (by decide) (Nat.le_of_ble_eq_true rfl) ?_
  intro p e s m args below meth c A ls hC hnm V hl
  obtain ⟨hx, hb, hr, hml, hown, hts, hlocks⟩ := id hC
  generalize hH : s.heap = H at V ⊢
  clear hH
  have hl : lv_has ls 6 [(0, .long v.toInt64), (2, .long lo.toInt64), (4, .long hi.toInt64)] := hl
  generalize hlo : ([] : List Loc) = locs at V ⊢
  clear hlo
  refine lv_lload_n hx hb dX8_within_0 rfl (lv_at hl 0 rfl) ?_
  refine lv_lload_n hx hb dX8_within_1 rfl (lv_at hl 1 rfl) ?_
  refine W.lcmp hx hb dX8_within_2 ?_
  refine lv_if_lt (tgt := 17) hx hb dX8_within_3 (by decide) (fun c_1 => ?_) (fun c_1 => ?_)
  · skip
    have c_1 := cv_lt.mp ((lg_cmp_lt _ _).mp c_1)
    refine lv_iconst (v := (nI 0)) hx hb dX8_within_17 (by decide +kernel) ?_
    exact g_zret (Qr := (q_m_within T v lo hi)) hC V ⟨(Nat.le_of_ble_eq_true rfl), (Nat.le_of_ble_eq_true rfl)⟩ (by first | decide +kernel | exact rfl) (.inr ⟨rfl, rfl, (by first | exact Or.inl (by assumption) | exact Or.inr (by assumption))⟩) dX8_within_18
  · skip
    have c_1 := fun h => c_1 ((lg_cmp_lt _ _).mpr (cv_lt.mpr h))
    refine lv_lload_n hx hb dX8_within_6 rfl (lv_at hl 0 rfl) ?_
    refine lv_lload hx hb dX8_within_7 (lv_at hl 2 rfl) ?_
    refine W.lcmp hx hb dX8_within_9 ?_
    refine lv_if_gt (tgt := 17) hx hb dX8_within_10 (by decide) (fun c_2 => ?_) (fun c_2 => ?_)
    · skip
      have c_2 := cv_lt.mp ((lg_cmp_gt _ _).mp c_2)
      refine lv_iconst (v := (nI 0)) hx hb dX8_within_17 (by decide +kernel) ?_
      exact g_zret (Qr := (q_m_within T v lo hi)) hC V ⟨(Nat.le_of_ble_eq_true rfl), (Nat.le_of_ble_eq_true rfl)⟩ (by first | decide +kernel | exact rfl) (.inr ⟨rfl, rfl, (by first | exact Or.inl (by assumption) | exact Or.inr (by assumption))⟩) dX8_within_18
    · skip
      have c_2 := fun h => c_2 ((lg_cmp_gt _ _).mpr (cv_lt.mpr h))
      refine lv_iconst (v := (nI 1)) hx hb dX8_within_13 (by decide +kernel) ?_
      refine lv_goto (tgt := 18) hx hb dX8_within_14 (by decide) ?_
      exact g_zret (Qr := (q_m_within T v lo hi)) hC V ⟨(Nat.le_of_ble_eq_true rfl), (Nat.le_of_ble_eq_true rfl)⟩ (by first | decide +kernel | exact rfl) (.inl ⟨rfl, rfl, (by assumption), (by assumption)⟩) dX8_within_18

def q_m_isIn (T : Nat → ClassId) (x : Int64) (i : Int32) : Option Value → va_W → Prop := fun rr ww => (rr = some (.int (nI 1)) ∧ ww = []) ∨ (rr = some (.int (nI 0)) ∧ ww = [])
set_option maxHeartbeats 4000000 in
set_option maxRecDepth 100000 in
theorem m_isIn (l : Launch) (D : va_G) (T : Nat → ClassId) (x : Int64) (i : Int32) : Ct l yX8_isIn cX8_isIn 3 (some .boolean) 0 0 0 D T [.long x, .int i] [] (q_m_isIn T x i) := by
  refine Ct.of (cc := cX8_isIn) (maxL := 3) (ret := (some .boolean)) (by decide) (Nat.le_of_ble_eq_true rfl) ?_
  intro p e s m args below meth c A ls hC hnm V hl
  obtain ⟨hx, hb, hr, hml, hown, hts, hlocks⟩ := id hC
  generalize hH : s.heap = H at V ⊢
  clear hH
  have hl : lv_has ls 3 [(0, .long x), (2, .int i)] := hl
  generalize hlo : ([] : List Loc) = locs at V ⊢
  clear hlo
  refine lv_lload_n hx hb dX8_isIn_0 rfl (lv_at hl 0 rfl) ?_
  refine lv_iload_n hx hb dX8_isIn_1 rfl (lv_at hl 1 rfl) ?_
  refine lv_lshr hx hb dX8_isIn_2 rfl ?_
  refine lv_lconst (v := (nI 1).toInt64) hx hb dX8_isIn_3 (by decide +kernel) ?_
  refine lv_land hx hb dX8_isIn_4 ?_
  refine lv_lconst (v := (nI 1).toInt64) hx hb dX8_isIn_5 (by decide +kernel) ?_
  refine W.lcmp hx hb dX8_isIn_6 ?_
  refine lv_if_ne (tgt := 14) hx hb dX8_isIn_7 (by decide) (fun c_1 => ?_) (fun c_1 => ?_)
  · skip
    refine lv_iconst (v := (nI 0)) hx hb dX8_isIn_14 (by decide +kernel) ?_
    exact g_zret (Qr := (q_m_isIn T x i)) hC V ⟨(Nat.le_of_ble_eq_true rfl), (Nat.le_of_ble_eq_true rfl)⟩ (by first | decide +kernel | exact rfl) (.inr ⟨rfl, rfl⟩) dX8_isIn_15
  · skip
    refine lv_iconst (v := (nI 1)) hx hb dX8_isIn_10 (by decide +kernel) ?_
    refine lv_goto (tgt := 15) hx hb dX8_isIn_11 (by decide) ?_
    exact g_zret (Qr := (q_m_isIn T x i)) hC V ⟨(Nat.le_of_ble_eq_true rfl), (Nat.le_of_ble_eq_true rfl)⟩ (by first | decide +kernel | exact rfl) (.inl ⟨rfl, rfl⟩) dX8_isIn_15

/-- a HEAT within its bounds -/
def ibf (x : Int32) : Int32 := if x < 0 then nI 0 else if nI 200 < x then nI 200 else x
theorem ib_1 {x : Int32} (h1 : 0 ≤ x) (h2 : x ≤ nI 200) : bd x 201 := by
  obtain ⟨j, h3, h4, e⟩ := g_rng (x := x) (a := 0) (b := 200) (by decide) (by decide) (Int32.not_lt.mpr h1) (Int32.not_lt.mpr h2)
  exact ⟨j, by omega, e⟩
theorem ib_2 {x : Int32} (h1 : 0 ≤ x) (h2 : x ≤ nI 200) : x = ibf x := by rw [ibf, if_neg (Int32.not_lt.mpr h1), if_neg (Int32.not_lt.mpr h2)]
theorem ib_3 {x : Int32} (h : ¬ 0 ≤ x) : nI 0 = ibf x := by rw [ibf, if_pos (Int32.not_le.mp h)]
theorem ib_4 {x : Int32} (h1 : 0 ≤ x) (h2 : ¬ x ≤ nI 200) : nI 200 = ibf x := by rw [ibf, if_neg (Int32.not_lt.mpr h1), if_pos (Int32.not_le.mp h2)]
theorem neg_sub {a b : Nat} (h : a < b) (hb : b < 32) : nI a - nI b < 0 := by
  have H : ∀ (b : Fin 32) (a : Fin 32), a.1 < b.1 → nI a.1 - nI b.1 < 0 := by decide +kernel
  exact H ⟨b, hb⟩ ⟨a, by omega⟩ h
theorem ib_up {a q r : Nat} (ha : a < 200) (hq : 1 ≤ q) (hq2 : q ≤ 700) (e : nI r = ibf (nI a + nI q)) (hr : r < 201) : a < r := by
  rw [nI_add] at e
  unfold ibf at e
  rw [if_neg (nI_pos (by omega))] at e
  split at e
  · have := b_eq (by omega) (by omega) e
    omega
  · have := b_eq (by omega) (by omega) e
    omega
theorem ib_dn {a b r : Nat} (ha : 1 ≤ a) (ha2 : a ≤ 255) (hb : 1 ≤ b) (hb2 : b ≤ 31) (e : nI r = ibf (nI a - nI b)) (hr : r < 201) : r < a := by
  unfold ibf at e
  split at e
  · have := b_eq (by omega) (by omega) e
    omega
  · rename_i h
    have hab : b ≤ a := by
      by_cases c : b ≤ a
      · exact c
      · exact absurd (neg_sub (by omega) (by omega)) h
    rw [nI_sub hab] at e
    split at e
    · rename_i h2
      have h3 := b_lt (by omega) (by omega) h2
      have := b_eq (by omega) (by omega) e
      omega
    · have := b_eq (by omega) (by omega) e
      omega

def q_m_inBounds (T : Nat → ClassId) (x : Int32) : Option Value → va_W → Prop := fun rr ww => (∃ (z : Int32), rr = some (.int z) ∧ ww = [] ∧ bd z 201 ∧ z = ibf x)
set_option maxHeartbeats 4000000 in
set_option maxRecDepth 100000 in
theorem m_inBounds (l : Launch) (D : va_G) (T : Nat → ClassId) (x : Int32) : Ct l yX8_inBounds cX8_inBounds 1 (some .int) 0 0 0 D T [.int x] [] (q_m_inBounds T x) := by
  refine Ct.of (cc := cX8_inBounds) (maxL := 1) (ret := (some .int)) (by decide) (Nat.le_of_ble_eq_true rfl) ?_
  intro p e s m args below meth c A ls hC hnm V hl
  obtain ⟨hx, hb, hr, hml, hown, hts, hlocks⟩ := id hC
  generalize hH : s.heap = H at V ⊢
  clear hH
  have hl : lv_has ls 1 [(0, .int x)] := hl
  generalize hlo : ([] : List Loc) = locs at V ⊢
  clear hlo
  refine lv_iload_n hx hb dX8_inBounds_0 rfl (lv_at hl 0 rfl) ?_
  refine lv_if_ge (tgt := 8) hx hb dX8_inBounds_1 (by decide) (fun c_1 => ?_) (fun c_1 => ?_)
  · skip
    refine lv_iload_n hx hb dX8_inBounds_8 rfl (lv_at hl 0 rfl) ?_
    refine lv_sipush (v := (nI 200)) hx hb dX8_inBounds_9 (by decide +kernel) ?_
    refine lv_icmp_le (tgt := 21) hx hb dX8_inBounds_12 (by decide) (fun c_2 => ?_) (fun c_2 => ?_)
    · skip
      refine lv_iload_n hx hb dX8_inBounds_21 rfl (lv_at hl 0 rfl) ?_
      exact g_iret (Qr := (q_m_inBounds T x)) hC V ⟨(Nat.le_of_ble_eq_true rfl), (Nat.le_of_ble_eq_true rfl)⟩ ⟨x, rfl, rfl, (by first | exact bd_nI (by decide) | exact ib_1 (by assumption) (by assumption) | exact ib_2 (by assumption) (by assumption) | exact ib_3 (by assumption) | exact ib_4 (by assumption) (by assumption)), (by first | exact bd_nI (by decide) | exact ib_1 (by assumption) (by assumption) | exact ib_2 (by assumption) (by assumption) | exact ib_3 (by assumption) | exact ib_4 (by assumption) (by assumption))⟩ dX8_inBounds_22
    · skip
      refine lv_sipush (v := (nI 200)) hx hb dX8_inBounds_15 (by decide +kernel) ?_
      refine lv_goto (tgt := 22) hx hb dX8_inBounds_18 (by decide) ?_
      exact g_iret (Qr := (q_m_inBounds T x)) hC V ⟨(Nat.le_of_ble_eq_true rfl), (Nat.le_of_ble_eq_true rfl)⟩ ⟨(nI 200), rfl, rfl, (by first | exact bd_nI (by decide) | exact ib_1 (by assumption) (by assumption) | exact ib_2 (by assumption) (by assumption) | exact ib_3 (by assumption) | exact ib_4 (by assumption) (by assumption)), (by first | exact bd_nI (by decide) | exact ib_1 (by assumption) (by assumption) | exact ib_2 (by assumption) (by assumption) | exact ib_3 (by assumption) | exact ib_4 (by assumption) (by assumption))⟩ dX8_inBounds_22
  · skip
    refine lv_iconst (v := (nI 0)) hx hb dX8_inBounds_4 (by decide +kernel) ?_
    refine lv_goto (tgt := 22) hx hb dX8_inBounds_5 (by decide) ?_
    exact g_iret (Qr := (q_m_inBounds T x)) hC V ⟨(Nat.le_of_ble_eq_true rfl), (Nat.le_of_ble_eq_true rfl)⟩ ⟨(nI 0), rfl, rfl, (by first | exact bd_nI (by decide) | exact ib_1 (by assumption) (by assumption) | exact ib_2 (by assumption) (by assumption) | exact ib_3 (by assumption) | exact ib_4 (by assumption) (by assumption)), (by first | exact bd_nI (by decide) | exact ib_1 (by assumption) (by assumption) | exact ib_2 (by assumption) (by assumption) | exact ib_3 (by assumption) | exact ib_4 (by assumption) (by assumption))⟩ dX8_inBounds_22

def q_m_bitsOf (T : Nat → ClassId) (x : Int64) : Option Value → va_W → Prop := fun rr ww => (∃ (z : Int32), rr = some (.int z) ∧ ww = [])
set_option maxHeartbeats 4000000 in
set_option maxRecDepth 100000 in
theorem m_bitsOf (l : Launch) (D : va_G) (T : Nat → ClassId) (x : Int64) : Ct l yX8_bitsOf cX8_bitsOf 4 (some .int) 1 0 0 D T [.long x] [] (q_m_bitsOf T x) := by
  refine Ct.of (cc := cX8_bitsOf) (maxL := 4) (ret := (some .int)) (by decide) (Nat.le_of_ble_eq_true rfl) ?_
  intro p e s m args below meth c A ls hC hnm V hl
  obtain ⟨hx, hb, hr, hml, hown, hts, hlocks⟩ := id hC
  generalize hH : s.heap = H at V ⊢
  clear hH
  have hl : lv_has ls 4 [(0, .long x)] := hl
  generalize hlo : ([] : List Loc) = locs at V ⊢
  clear hlo
  refine lv_iconst (v := (nI 0)) hx hb dX8_bitsOf_0 (by decide +kernel) ?_
  refine lv_istore_n (lv' := [(2, .int (nI 0)), (0, .long x)]) hx hb dX8_bitsOf_1 rfl hl (by decide) rfl (fun ls hl => ?_)
  refine lv_iconst (v := (nI 0)) hx hb dX8_bitsOf_2 (by decide +kernel) ?_
  refine lv_istore_n (lv' := [(3, .int (nI 0)), (2, .int (nI 0)), (0, .long x)]) hx hb dX8_bitsOf_3 rfl hl (by decide) rfl (fun ls hl => ?_)
  have L_1 : ∀ (fu : Nat) (k4 : Nat) (x4_2 : Int32), k4 ≤ 12 → 12 - k4 < fu → ∀ (H : Heap) (locs : List Loc) (ls : Array Slot), gW D T A s [] H locs → lv_has ls 4 [(3, .int (nI k4)), (2, .int x4_2), (0, .long x)] → W p l e (rmD 1 0 0) s m args below meth c H locs 0 0 (MQ below (gQ D A (q_m_bitsOf T x)) args s 0 0 A) (F0 m 4 ls []) := by
    intro fu_4
    induction fu_4 with
    | zero => intro k4 x4_2 hk4 hmu; exact absurd hmu (Nat.not_lt_zero _)
    | succ fu_4 ih_4 =>
      intro k4 x4_2 hk4 hmu_4 H locs ls V hl
      refine lv_iload_n hx hb dX8_bitsOf_4 rfl (lv_at hl 0 rfl) ?_
      refine lv_bipush (v := (nI 12)) hx hb dX8_bitsOf_5 (by decide +kernel) ?_
      refine lv_icmp_ge (tgt := 32) hx hb dX8_bitsOf_7 (by decide) (fun c_2 => ?_) (fun c_2 => ?_)
      · skip
        have c_2 := b_le (by omega) (by omega) c_2
        refine lv_iload_n hx hb dX8_bitsOf_32 rfl (lv_at hl 1 rfl) ?_
        exact g_iret (Qr := (q_m_bitsOf T x)) hC V ⟨(Nat.le_of_ble_eq_true rfl), (Nat.le_of_ble_eq_true rfl)⟩ ⟨x4_2, rfl, rfl⟩ dX8_bitsOf_33
      · skip
        have c_2 := b_nle (by omega) (by omega) c_2
        refine lv_iload_n hx hb dX8_bitsOf_10 rfl (lv_at hl 1 rfl) ?_
        refine lv_lload_n hx hb dX8_bitsOf_11 rfl (lv_at hl 2 rfl) ?_
        refine lv_iload_n hx hb dX8_bitsOf_12 rfl (lv_at hl 0 rfl) ?_
        refine g_callS (wr := []) (nA := 2) hC V hl.1 (m_isIn l D T x (nI k4)) w_1130 w_1131 w_9 w_1132 (by decide +kernel) rfl ⟨(Nat.le_of_ble_eq_true rfl), (Nat.le_of_ble_eq_true rfl)⟩ [] [] rfl rfl rfl rfl (by decide) (Nat.le_of_ble_eq_true rfl) dX8_bitsOf_13 ⟨(Nat.le_of_ble_eq_true rfl), (Nat.le_of_ble_eq_true rfl)⟩ rfl (fun r w1 H locs hQ V => ?_)
        rcases hQ with ⟨rfl, rfl⟩ | ⟨rfl, rfl⟩
        · have V : gW D T A s [] H locs := V
          show W p l e _ s m args below meth c H locs _ _ _ (F0 m 16 ls [.int (nI 1), .int x4_2])
          refine lv_if_eq (tgt := 23) hx hb dX8_bitsOf_16 (by decide) (fun c => absurd (show (nI 1) = 0 from c) (by decide +kernel)) (fun _ => ?_)
          refine lv_iconst (v := (nI 1)) hx hb dX8_bitsOf_19 (by decide +kernel) ?_
          refine lv_goto (tgt := 24) hx hb dX8_bitsOf_20 (by decide) ?_
          refine lv_iadd hx hb dX8_bitsOf_24 ?_
          refine lv_istore_n (lv' := [(2, .int (x4_2 + (nI 1))), (3, .int (nI k4)), (0, .long x)]) hx hb dX8_bitsOf_25 rfl hl (by decide) rfl (fun ls hl => ?_)
          refine lv_iinc (v := (nI (k4 + 1))) (lv' := [(3, .int (nI (k4 + 1))), (2, .int (x4_2 + (nI 1))), (0, .long x)]) hx hb dX8_bitsOf_26 hl (k := 1) rfl (nI_1 _) (by decide) rfl (fun ls hl => ?_)
          refine lv_goto (tgt := 4) hx hb dX8_bitsOf_29 (by decide) ?_
          exact ih_4 (k4 + 1) (x4_2 + (nI 1)) (by omega) (by omega) _ _ _ V (lv_sub hl [0, 1, 2] rfl)
        · have V : gW D T A s [] H locs := V
          show W p l e _ s m args below meth c H locs _ _ _ (F0 m 16 ls [.int (nI 0), .int x4_2])
          refine lv_if_eq (tgt := 23) hx hb dX8_bitsOf_16 (by decide) (fun _ => ?_) (fun c => absurd (show (nI 0) = 0 by decide +kernel) c)
          refine lv_iconst (v := (nI 0)) hx hb dX8_bitsOf_23 (by decide +kernel) ?_
          refine lv_iadd hx hb dX8_bitsOf_24 ?_
          refine lv_istore_n (lv' := [(2, .int (x4_2 + (nI 0))), (3, .int (nI k4)), (0, .long x)]) hx hb dX8_bitsOf_25 rfl hl (by decide) rfl (fun ls hl => ?_)
          refine lv_iinc (v := (nI (k4 + 1))) (lv' := [(3, .int (nI (k4 + 1))), (2, .int (x4_2 + (nI 0))), (0, .long x)]) hx hb dX8_bitsOf_26 hl (k := 1) rfl (nI_1 _) (by decide) rfl (fun ls hl => ?_)
          refine lv_goto (tgt := 4) hx hb dX8_bitsOf_29 (by decide) ?_
          exact ih_4 (k4 + 1) (x4_2 + (nI 0)) (by omega) (by omega) _ _ _ V (lv_sub hl [0, 1, 2] rfl)
  exact L_1 _ 0 (nI 0) (by omega) (Nat.lt_succ_self _) _ _ _ V (lv_sub hl [0, 1, 2] rfl)

def q_m_isSmith (T : Nat → ClassId) (n : Nat) (o : Nat) (i : Int32) (w0 : Int32) (g1 : Nat) (g2 : Nat) (g3 : Nat) (g4 : Nat) (tp : Nat) (w6 : Int32) (w7 : Int32) (w8 : Int32) (w9 : Int32) (w10 : Int32) (w11 : Int32) (w12 : Int32) (w13 : Int32) (w14 : Int32) (g15 : Nat) (w16 : Int32) (g17 : Nat) (w18 : Int32) (w19 : Int32) (g20 : Nat) (w21 : Int32) (g22 : Nat) (g23 : Nat) (g24 : Nat) (w25 : Int32) (w26 : Int32) (w27 : Int32) (g28 : Nat) (g29 : Nat) (w30 : Int32) (g31 : Nat) (g32 : Nat) (g33 : Nat) (fa : Nat → Int32) : Option Value → va_W → Prop := fun rr ww => (∃ (j : Nat), rr = some (.int (nI 1)) ∧ ww = [(o, .inr (8, [.int w0, .ref g1, .ref g2, .ref g3, .ref g4, .int (nI tp), .int w6, .int w7, .int w8, .int w9, .int w10, .int w11, .int w12, .int w13, .int w14, .ref g15, .int w16, .ref g17, .int w18, .int w19, .ref g20, .int w21, .ref g22, .ref g23, .ref g24, .int w25, .int w26, .int w27, .ref g28, .ref g29, .int w30, .ref g31, .ref g32, .ref g33])), (g1, .inl (T 0, 282, .inl fa))] ∧ i = nI j ∧ j < n) ∨ (rr = some (.int (nI 0)) ∧ ww = [(o, .inr (8, [.int w0, .ref g1, .ref g2, .ref g3, .ref g4, .int (nI tp), .int w6, .int w7, .int w8, .int w9, .int w10, .int w11, .int w12, .int w13, .int w14, .ref g15, .int w16, .ref g17, .int w18, .int w19, .ref g20, .int w21, .ref g22, .ref g23, .ref g24, .int w25, .int w26, .int w27, .ref g28, .ref g29, .int w30, .ref g31, .ref g32, .ref g33])), (g1, .inl (T 0, 282, .inl fa))])
set_option maxHeartbeats 4000000 in
set_option maxRecDepth 100000 in
theorem m_isSmith (l : Launch) (D : va_G) (T : Nat → ClassId) (n : Nat) (o : Nat) (i : Int32) (w0 : Int32) (g1 : Nat) (g2 : Nat) (g3 : Nat) (g4 : Nat) (tp : Nat) (w6 : Int32) (w7 : Int32) (w8 : Int32) (w9 : Int32) (w10 : Int32) (w11 : Int32) (w12 : Int32) (w13 : Int32) (w14 : Int32) (g15 : Nat) (w16 : Int32) (g17 : Nat) (w18 : Int32) (w19 : Int32) (g20 : Nat) (w21 : Int32) (g22 : Nat) (g23 : Nat) (g24 : Nat) (w25 : Int32) (w26 : Int32) (w27 : Int32) (g28 : Nat) (g29 : Nat) (w30 : Int32) (g31 : Nat) (g32 : Nat) (g33 : Nat) (fa : Nat → Int32) (h_a : MI n fa) : Ct l yX8_isSmith cX8_isSmith 2 (some .boolean) 1 0 0 D T [.ref o, .int i] [(o, .inr (8, [.int w0, .ref g1, .ref g2, .ref g3, .ref g4, .int (nI tp), .int w6, .int w7, .int w8, .int w9, .int w10, .int w11, .int w12, .int w13, .int w14, .ref g15, .int w16, .ref g17, .int w18, .int w19, .ref g20, .int w21, .ref g22, .ref g23, .ref g24, .int w25, .int w26, .int w27, .ref g28, .ref g29, .int w30, .ref g31, .ref g32, .ref g33])), (g1, .inl (T 0, 282, .inl fa))] (q_m_isSmith T n o i w0 g1 g2 g3 g4 tp w6 w7 w8 w9 w10 w11 w12 w13 w14 g15 w16 g17 w18 w19 g20 w21 g22 g23 g24 w25 w26 w27 g28 g29 w30 g31 g32 g33 fa) := by
  refine Ct.of (cc := cX8_isSmith) (maxL := 2) (ret := (some .boolean)) (by decide) (Nat.le_of_ble_eq_true rfl) ?_
  intro p e s m args below meth c A ls hC hnm V hl
  obtain ⟨hx, hb, hr, hml, hown, hts, hlocks⟩ := id hC
  generalize hH : s.heap = H at V ⊢
  clear hH
  have hl : lv_has ls 2 [(0, .ref o), (1, .int i)] := hl
  generalize hlo : ([] : List Loc) = locs at V ⊢
  clear hlo
  have ms0 := ms_rf h_a
  have hn10 := h_a.1
  refine lv_iload_n hx hb dX8_isSmith_0 rfl (lv_at hl 1 rfl) ?_
  refine lv_i2l (v := i.toInt64) hx hb dX8_isSmith_1 rfl ?_
  refine lv_lconst (v := (nI 0).toInt64) hx hb dX8_isSmith_2 (by decide +kernel) ?_
  refine lv_aload_n hx hb dX8_isSmith_3 rfl (lv_at hl 0 rfl) ?_
  refine g_get hC V (ci := 8) uwX8 0 rfl rfl 1 (by decide) w_913 rfl rfl dX8_isSmith_4 ?_
  refine lv_iconst (v := (nI 0)) hx hb dX8_isSmith_7 (by decide +kernel) ?_
  refine g_iald hC V 1 rfl (vp_in_nI (by decide) (by decide)) (v := (nI n)) (by rw [nI_clamp (by decide)]; first | rfl | exact h_a.2.1) dX8_isSmith_8 ?_
  refine lv_iconst (v := (nI 1)) hx hb dX8_isSmith_9 (by decide +kernel) ?_
  refine lv_isub hx hb dX8_isSmith_10 ?_
  refine lv_i2l (v := ((nI n) - (nI 1)).toInt64) hx hb dX8_isSmith_11 rfl ?_
  refine g_callSU (nA := 3) hC V hl.1 (m_within l D T i (nI 0) ((nI n) - (nI 1))) w_1023 w_1024 w_9 w_1025 (by decide +kernel) rfl ⟨(Nat.le_of_ble_eq_true rfl), (Nat.le_of_ble_eq_true rfl)⟩ [] rfl rfl (Nat.le_of_ble_eq_true rfl) dX8_isSmith_12 ⟨(Nat.le_of_ble_eq_true rfl), (Nat.le_of_ble_eq_true rfl)⟩ rfl (fun r w1 H locs hQ V => ?_)
  rcases hQ with ⟨rfl, rfl, f_1, f_2⟩ | ⟨rfl, rfl, f_3⟩
  · have V : gW D T A s [(o, .inr (8, [.int w0, .ref g1, .ref g2, .ref g3, .ref g4, .int (nI tp), .int w6, .int w7, .int w8, .int w9, .int w10, .int w11, .int w12, .int w13, .int w14, .ref g15, .int w16, .ref g17, .int w18, .int w19, .ref g20, .int w21, .ref g22, .ref g23, .ref g24, .int w25, .int w26, .int w27, .ref g28, .ref g29, .int w30, .ref g31, .ref g32, .ref g33])), (g1, .inl (T 0, 282, .inl fa))] H locs := V _ [] rfl rfl rfl (by decide +kernel) rfl
    show W p l e _ s m args below meth c H locs _ _ _ (F0 m 15 ls [.int (nI 1)])
    obtain ⟨j, hj, ej⟩ := pred_bd hn10 f_1 f_2
    exact g_zret (Qr := (q_m_isSmith T n o i w0 g1 g2 g3 g4 tp w6 w7 w8 w9 w10 w11 w12 w13 w14 g15 w16 g17 w18 w19 g20 w21 g22 g23 g24 w25 w26 w27 g28 g29 w30 g31 g32 g33 fa)) hC V ⟨(Nat.le_of_ble_eq_true rfl), (Nat.le_of_ble_eq_true rfl)⟩ (by first | decide +kernel | exact rfl) (.inl ⟨j, rfl, rfl, ej, hj⟩) dX8_isSmith_15
  · have V : gW D T A s [(o, .inr (8, [.int w0, .ref g1, .ref g2, .ref g3, .ref g4, .int (nI tp), .int w6, .int w7, .int w8, .int w9, .int w10, .int w11, .int w12, .int w13, .int w14, .ref g15, .int w16, .ref g17, .int w18, .int w19, .ref g20, .int w21, .ref g22, .ref g23, .ref g24, .int w25, .int w26, .int w27, .ref g28, .ref g29, .int w30, .ref g31, .ref g32, .ref g33])), (g1, .inl (T 0, 282, .inl fa))] H locs := V _ [] rfl rfl rfl (by decide +kernel) rfl
    show W p l e _ s m args below meth c H locs _ _ _ (F0 m 15 ls [.int (nI 0)])
    exact g_zret (Qr := (q_m_isSmith T n o i w0 g1 g2 g3 g4 tp w6 w7 w8 w9 w10 w11 w12 w13 w14 g15 w16 g17 w18 w19 g20 w21 g22 g23 g24 w25 w26 w27 g28 g29 w30 g31 g32 g33 fa)) hC V ⟨(Nat.le_of_ble_eq_true rfl), (Nat.le_of_ble_eq_true rfl)⟩ (by first | decide +kernel | exact rfl) (.inr ⟨rfl, rfl⟩) dX8_isSmith_15

def q_m_isDone (T : Nat → ClassId) (o : Nat) (j : Nat) (w0 : Int32) (g1 : Nat) (g2 : Nat) (g3 : Nat) (g4 : Nat) (tp : Nat) (w6 : Int32) (w7 : Int32) (w8 : Int32) (w9 : Int32) (w10 : Int32) (w11 : Int32) (w12 : Int32) (w13 : Int32) (w14 : Int32) (g15 : Nat) (w16 : Int32) (g17 : Nat) (w18 : Int32) (w19 : Int32) (g20 : Nat) (w21 : Int32) (g22 : Nat) (g23 : Nat) (g24 : Nat) (w25 : Int32) (w26 : Int32) (w27 : Int32) (g28 : Nat) (g29 : Nat) (w30 : Int32) (g31 : Nat) (g32 : Nat) (g33 : Nat) (fa : Nat → Int32) : Option Value → va_W → Prop := fun rr ww => (rr = some (.int (nI 1)) ∧ ww = [(o, .inr (8, [.int w0, .ref g1, .ref g2, .ref g3, .ref g4, .int (nI tp), .int w6, .int w7, .int w8, .int w9, .int w10, .int w11, .int w12, .int w13, .int w14, .ref g15, .int w16, .ref g17, .int w18, .int w19, .ref g20, .int w21, .ref g22, .ref g23, .ref g24, .int w25, .int w26, .int w27, .ref g28, .ref g29, .int w30, .ref g31, .ref g32, .ref g33])), (g1, .inl (T 0, 282, .inl fa))] ∧ ¬ fa (64 + j) < fa (54 + j)) ∨ (rr = some (.int (nI 0)) ∧ ww = [(o, .inr (8, [.int w0, .ref g1, .ref g2, .ref g3, .ref g4, .int (nI tp), .int w6, .int w7, .int w8, .int w9, .int w10, .int w11, .int w12, .int w13, .int w14, .ref g15, .int w16, .ref g17, .int w18, .int w19, .ref g20, .int w21, .ref g22, .ref g23, .ref g24, .int w25, .int w26, .int w27, .ref g28, .ref g29, .int w30, .ref g31, .ref g32, .ref g33])), (g1, .inl (T 0, 282, .inl fa))] ∧ fa (64 + j) < fa (54 + j))
set_option maxHeartbeats 4000000 in
set_option maxRecDepth 100000 in
theorem m_isDone (l : Launch) (D : va_G) (T : Nat → ClassId) (o : Nat) (j : Nat) (w0 : Int32) (g1 : Nat) (g2 : Nat) (g3 : Nat) (g4 : Nat) (tp : Nat) (w6 : Int32) (w7 : Int32) (w8 : Int32) (w9 : Int32) (w10 : Int32) (w11 : Int32) (w12 : Int32) (w13 : Int32) (w14 : Int32) (g15 : Nat) (w16 : Int32) (g17 : Nat) (w18 : Int32) (w19 : Int32) (g20 : Nat) (w21 : Int32) (g22 : Nat) (g23 : Nat) (g24 : Nat) (w25 : Int32) (w26 : Int32) (w27 : Int32) (g28 : Nat) (g29 : Nat) (w30 : Int32) (g31 : Nat) (g32 : Nat) (g33 : Nat) (fa : Nat → Int32) (h_j : j < 10) : Ct l yX8_isDone cX8_isDone 2 (some .boolean) 0 0 0 D T [.ref o, .int (nI j)] [(o, .inr (8, [.int w0, .ref g1, .ref g2, .ref g3, .ref g4, .int (nI tp), .int w6, .int w7, .int w8, .int w9, .int w10, .int w11, .int w12, .int w13, .int w14, .ref g15, .int w16, .ref g17, .int w18, .int w19, .ref g20, .int w21, .ref g22, .ref g23, .ref g24, .int w25, .int w26, .int w27, .ref g28, .ref g29, .int w30, .ref g31, .ref g32, .ref g33])), (g1, .inl (T 0, 282, .inl fa))] (q_m_isDone T o j w0 g1 g2 g3 g4 tp w6 w7 w8 w9 w10 w11 w12 w13 w14 g15 w16 g17 w18 w19 g20 w21 g22 g23 g24 w25 w26 w27 g28 g29 w30 g31 g32 g33 fa) := by
  refine Ct.of (cc := cX8_isDone) (maxL := 2) (ret := (some .boolean)) (by decide) (Nat.le_of_ble_eq_true rfl) ?_
  intro p e s m args below meth c A ls hC hnm V hl
  obtain ⟨hx, hb, hr, hml, hown, hts, hlocks⟩ := id hC
  generalize hH : s.heap = H at V ⊢
  clear hH
  have hl : lv_has ls 2 [(0, .ref o), (1, .int (nI j))] := hl
  generalize hlo : ([] : List Loc) = locs at V ⊢
  clear hlo
  refine lv_aload_n hx hb dX8_isDone_0 rfl (lv_at hl 0 rfl) ?_
  refine g_get hC V (ci := 8) uwX8 0 rfl rfl 1 (by decide) w_913 rfl rfl dX8_isDone_1 ?_
  refine lv_bipush (v := (nI 64)) hx hb dX8_isDone_4 (by decide +kernel) ?_
  refine lv_iload_n hx hb dX8_isDone_6 rfl (lv_at hl 1 rfl) ?_
  refine lv_iadd hx hb dX8_isDone_7 ?_
  refine g_vi (y := (nI (64 + j))) (nI_add _ _) ?_
  refine g_iald hC V 1 rfl (vp_in_nI (by omega) (by omega)) (v := (fa (64 + j))) (congrArg _ (nI_clamp (by omega))) dX8_isDone_8 ?_
  refine lv_aload_n hx hb dX8_isDone_9 rfl (lv_at hl 0 rfl) ?_
  refine g_get hC V (ci := 8) uwX8 0 rfl rfl 1 (by decide) w_913 rfl rfl dX8_isDone_10 ?_
  refine lv_bipush (v := (nI 54)) hx hb dX8_isDone_13 (by decide +kernel) ?_
  refine lv_iload_n hx hb dX8_isDone_15 rfl (lv_at hl 1 rfl) ?_
  refine lv_iadd hx hb dX8_isDone_16 ?_
  refine g_vi (y := (nI (54 + j))) (nI_add _ _) ?_
  refine g_iald hC V 1 rfl (vp_in_nI (by omega) (by omega)) (v := (fa (54 + j))) (congrArg _ (nI_clamp (by omega))) dX8_isDone_17 ?_
  refine lv_icmp_lt (tgt := 25) hx hb dX8_isDone_18 (by decide) (fun c_1 => ?_) (fun c_1 => ?_)
  · skip
    refine lv_iconst (v := (nI 0)) hx hb dX8_isDone_25 (by decide +kernel) ?_
    exact g_zret (Qr := (q_m_isDone T o j w0 g1 g2 g3 g4 tp w6 w7 w8 w9 w10 w11 w12 w13 w14 g15 w16 g17 w18 w19 g20 w21 g22 g23 g24 w25 w26 w27 g28 g29 w30 g31 g32 g33 fa)) hC V ⟨(Nat.le_of_ble_eq_true rfl), (Nat.le_of_ble_eq_true rfl)⟩ (by first | decide +kernel | exact rfl) (.inr ⟨rfl, rfl, (by assumption)⟩) dX8_isDone_26
  · skip
    refine lv_iconst (v := (nI 1)) hx hb dX8_isDone_21 (by decide +kernel) ?_
    refine lv_goto (tgt := 26) hx hb dX8_isDone_22 (by decide) ?_
    exact g_zret (Qr := (q_m_isDone T o j w0 g1 g2 g3 g4 tp w6 w7 w8 w9 w10 w11 w12 w13 w14 g15 w16 g17 w18 w19 g20 w21 g22 g23 g24 w25 w26 w27 g28 g29 w30 g31 g32 g33 fa)) hC V ⟨(Nat.le_of_ble_eq_true rfl), (Nat.le_of_ble_eq_true rfl)⟩ (by first | decide +kernel | exact rfl) (.inl ⟨rfl, rfl, (by assumption)⟩) dX8_isDone_26

def q_m_isWarm (T : Nat → ClassId) (o : Nat) (j : Nat) (w0 : Int32) (g1 : Nat) (g2 : Nat) (g3 : Nat) (g4 : Nat) (tp : Nat) (w6 : Int32) (w7 : Int32) (w8 : Int32) (w9 : Int32) (w10 : Int32) (w11 : Int32) (w12 : Int32) (w13 : Int32) (w14 : Int32) (g15 : Nat) (w16 : Int32) (g17 : Nat) (w18 : Int32) (w19 : Int32) (g20 : Nat) (w21 : Int32) (g22 : Nat) (g23 : Nat) (g24 : Nat) (w25 : Int32) (w26 : Int32) (w27 : Int32) (g28 : Nat) (g29 : Nat) (w30 : Int32) (g31 : Nat) (g32 : Nat) (g33 : Nat) (fa : Nat → Int32) : Option Value → va_W → Prop := fun rr ww => (rr = some (.int (nI 1)) ∧ ww = [(o, .inr (8, [.int w0, .ref g1, .ref g2, .ref g3, .ref g4, .int (nI tp), .int w6, .int w7, .int w8, .int w9, .int w10, .int w11, .int w12, .int w13, .int w14, .ref g15, .int w16, .ref g17, .int w18, .int w19, .ref g20, .int w21, .ref g22, .ref g23, .ref g24, .int w25, .int w26, .int w27, .ref g28, .ref g29, .int w30, .ref g31, .ref g32, .ref g33])), (g1, .inl (T 0, 282, .inl fa))]) ∨ (rr = some (.int (nI 0)) ∧ ww = [(o, .inr (8, [.int w0, .ref g1, .ref g2, .ref g3, .ref g4, .int (nI tp), .int w6, .int w7, .int w8, .int w9, .int w10, .int w11, .int w12, .int w13, .int w14, .ref g15, .int w16, .ref g17, .int w18, .int w19, .ref g20, .int w21, .ref g22, .ref g23, .ref g24, .int w25, .int w26, .int w27, .ref g28, .ref g29, .int w30, .ref g31, .ref g32, .ref g33])), (g1, .inl (T 0, 282, .inl fa))])
set_option maxHeartbeats 4000000 in
set_option maxRecDepth 100000 in
theorem m_isWarm (l : Launch) (D : va_G) (T : Nat → ClassId) (o : Nat) (j : Nat) (w0 : Int32) (g1 : Nat) (g2 : Nat) (g3 : Nat) (g4 : Nat) (tp : Nat) (w6 : Int32) (w7 : Int32) (w8 : Int32) (w9 : Int32) (w10 : Int32) (w11 : Int32) (w12 : Int32) (w13 : Int32) (w14 : Int32) (g15 : Nat) (w16 : Int32) (g17 : Nat) (w18 : Int32) (w19 : Int32) (g20 : Nat) (w21 : Int32) (g22 : Nat) (g23 : Nat) (g24 : Nat) (w25 : Int32) (w26 : Int32) (w27 : Int32) (g28 : Nat) (g29 : Nat) (w30 : Int32) (g31 : Nat) (g32 : Nat) (g33 : Nat) (fa : Nat → Int32) (h_j : j < 10) : Ct l yX8_isWarm cX8_isWarm 2 (some .boolean) 0 0 0 D T [.ref o, .int (nI j)] [(o, .inr (8, [.int w0, .ref g1, .ref g2, .ref g3, .ref g4, .int (nI tp), .int w6, .int w7, .int w8, .int w9, .int w10, .int w11, .int w12, .int w13, .int w14, .ref g15, .int w16, .ref g17, .int w18, .int w19, .ref g20, .int w21, .ref g22, .ref g23, .ref g24, .int w25, .int w26, .int w27, .ref g28, .ref g29, .int w30, .ref g31, .ref g32, .ref g33])), (g1, .inl (T 0, 282, .inl fa))] (q_m_isWarm T o j w0 g1 g2 g3 g4 tp w6 w7 w8 w9 w10 w11 w12 w13 w14 g15 w16 g17 w18 w19 g20 w21 g22 g23 g24 w25 w26 w27 g28 g29 w30 g31 g32 g33 fa) := by
  refine Ct.of (cc := cX8_isWarm) (maxL := 2) (ret := (some .boolean)) (by decide) (Nat.le_of_ble_eq_true rfl) ?_
  intro p e s m args below meth c A ls hC hnm V hl
  obtain ⟨hx, hb, hr, hml, hown, hts, hlocks⟩ := id hC
  generalize hH : s.heap = H at V ⊢
  clear hH
  have hl : lv_has ls 2 [(0, .ref o), (1, .int (nI j))] := hl
  generalize hlo : ([] : List Loc) = locs at V ⊢
  clear hlo
  refine lv_aload_n hx hb dX8_isWarm_0 rfl (lv_at hl 0 rfl) ?_
  refine g_get hC V (ci := 8) uwX8 0 rfl rfl 1 (by decide) w_913 rfl rfl dX8_isWarm_1 ?_
  refine lv_bipush (v := (nI 24)) hx hb dX8_isWarm_4 (by decide +kernel) ?_
  refine lv_iload_n hx hb dX8_isWarm_6 rfl (lv_at hl 1 rfl) ?_
  refine lv_iadd hx hb dX8_isWarm_7 ?_
  refine g_vi (y := (nI (24 + j))) (nI_add _ _) ?_
  refine g_iald hC V 1 rfl (vp_in_nI (by omega) (by omega)) (v := (fa (24 + j))) (congrArg _ (nI_clamp (by omega))) dX8_isWarm_8 ?_
  refine lv_aload_n hx hb dX8_isWarm_9 rfl (lv_at hl 0 rfl) ?_
  refine g_get hC V (ci := 8) uwX8 0 rfl rfl 1 (by decide) w_913 rfl rfl dX8_isWarm_10 ?_
  refine lv_bipush (v := (nI 34)) hx hb dX8_isWarm_13 (by decide +kernel) ?_
  refine lv_iload_n hx hb dX8_isWarm_15 rfl (lv_at hl 1 rfl) ?_
  refine lv_iadd hx hb dX8_isWarm_16 ?_
  refine g_vi (y := (nI (34 + j))) (nI_add _ _) ?_
  refine g_iald hC V 1 rfl (vp_in_nI (by omega) (by omega)) (v := (fa (34 + j))) (congrArg _ (nI_clamp (by omega))) dX8_isWarm_17 ?_
  refine lv_icmp_lt (tgt := 46) hx hb dX8_isWarm_18 (by decide) (fun c_1 => ?_) (fun c_1 => ?_)
  · skip
    refine lv_iconst (v := (nI 0)) hx hb dX8_isWarm_46 (by decide +kernel) ?_
    exact g_zret (Qr := (q_m_isWarm T o j w0 g1 g2 g3 g4 tp w6 w7 w8 w9 w10 w11 w12 w13 w14 g15 w16 g17 w18 w19 g20 w21 g22 g23 g24 w25 w26 w27 g28 g29 w30 g31 g32 g33 fa)) hC V ⟨(Nat.le_of_ble_eq_true rfl), (Nat.le_of_ble_eq_true rfl)⟩ (by first | decide +kernel | exact rfl) (.inr ⟨rfl, rfl⟩) dX8_isWarm_47
  · skip
    refine lv_aload_n hx hb dX8_isWarm_21 rfl (lv_at hl 0 rfl) ?_
    refine g_get hC V (ci := 8) uwX8 0 rfl rfl 1 (by decide) w_913 rfl rfl dX8_isWarm_22 ?_
    refine lv_bipush (v := (nI 24)) hx hb dX8_isWarm_25 (by decide +kernel) ?_
    refine lv_iload_n hx hb dX8_isWarm_27 rfl (lv_at hl 1 rfl) ?_
    refine lv_iadd hx hb dX8_isWarm_28 ?_
    refine g_vi (y := (nI (24 + j))) (nI_add _ _) ?_
    refine g_iald hC V 1 rfl (vp_in_nI (by omega) (by omega)) (v := (fa (24 + j))) (congrArg _ (nI_clamp (by omega))) dX8_isWarm_29 ?_
    refine lv_aload_n hx hb dX8_isWarm_30 rfl (lv_at hl 0 rfl) ?_
    refine g_get hC V (ci := 8) uwX8 0 rfl rfl 1 (by decide) w_913 rfl rfl dX8_isWarm_31 ?_
    refine lv_bipush (v := (nI 44)) hx hb dX8_isWarm_34 (by decide +kernel) ?_
    refine lv_iload_n hx hb dX8_isWarm_36 rfl (lv_at hl 1 rfl) ?_
    refine lv_iadd hx hb dX8_isWarm_37 ?_
    refine g_vi (y := (nI (44 + j))) (nI_add _ _) ?_
    refine g_iald hC V 1 rfl (vp_in_nI (by omega) (by omega)) (v := (fa (44 + j))) (congrArg _ (nI_clamp (by omega))) dX8_isWarm_38 ?_
    refine lv_icmp_gt (tgt := 46) hx hb dX8_isWarm_39 (by decide) (fun c_2 => ?_) (fun c_2 => ?_)
    · skip
      refine lv_iconst (v := (nI 0)) hx hb dX8_isWarm_46 (by decide +kernel) ?_
      exact g_zret (Qr := (q_m_isWarm T o j w0 g1 g2 g3 g4 tp w6 w7 w8 w9 w10 w11 w12 w13 w14 g15 w16 g17 w18 w19 g20 w21 g22 g23 g24 w25 w26 w27 g28 g29 w30 g31 g32 g33 fa)) hC V ⟨(Nat.le_of_ble_eq_true rfl), (Nat.le_of_ble_eq_true rfl)⟩ (by first | decide +kernel | exact rfl) (.inr ⟨rfl, rfl⟩) dX8_isWarm_47
    · skip
      refine lv_iconst (v := (nI 1)) hx hb dX8_isWarm_42 (by decide +kernel) ?_
      refine lv_goto (tgt := 47) hx hb dX8_isWarm_43 (by decide) ?_
      exact g_zret (Qr := (q_m_isWarm T o j w0 g1 g2 g3 g4 tp w6 w7 w8 w9 w10 w11 w12 w13 w14 g15 w16 g17 w18 w19 g20 w21 g22 g23 g24 w25 w26 w27 g28 g29 w30 g31 g32 g33 fa)) hC V ⟨(Nat.le_of_ble_eq_true rfl), (Nat.le_of_ble_eq_true rfl)⟩ (by first | decide +kernel | exact rfl) (.inl ⟨rfl, rfl⟩) dX8_isWarm_47

def q_m_heatThen (T : Nat → ClassId) (n : Nat) (o : Nat) (j : Nat) (pl : Int32) (mr : Int32) (w0 : Int32) (g1 : Nat) (g2 : Nat) (g3 : Nat) (g4 : Nat) (tp : Nat) (w6 : Int32) (w7 : Int32) (w8 : Int32) (w9 : Int32) (w10 : Int32) (w11 : Int32) (w12 : Int32) (w13 : Int32) (w14 : Int32) (g15 : Nat) (w16 : Int32) (g17 : Nat) (w18 : Int32) (w19 : Int32) (g20 : Nat) (w21 : Int32) (g22 : Nat) (g23 : Nat) (g24 : Nat) (w25 : Int32) (w26 : Int32) (w27 : Int32) (g28 : Nat) (g29 : Nat) (w30 : Int32) (g31 : Nat) (g32 : Nat) (g33 : Nat) (fa : Nat → Int32) : Option Value → va_W → Prop := fun rr ww => (∃ (z : Int32), rr = some (.int z) ∧ ww = [(o, .inr (8, [.int w0, .ref g1, .ref g2, .ref g3, .ref g4, .int (nI tp), .int w6, .int w7, .int w8, .int w9, .int w10, .int w11, .int w12, .int w13, .int w14, .ref g15, .int w16, .ref g17, .int w18, .int w19, .ref g20, .int w21, .ref g22, .ref g23, .ref g24, .int w25, .int w26, .int w27, .ref g28, .ref g29, .int w30, .ref g31, .ref g32, .ref g33])), (g1, .inl (T 0, 282, .inl fa))] ∧ bd z 201)
set_option maxHeartbeats 4000000 in
set_option maxRecDepth 100000 in
theorem m_heatThen (l : Launch) (D : va_G) (T : Nat → ClassId) (n : Nat) (o : Nat) (j : Nat) (pl : Int32) (mr : Int32) (w0 : Int32) (g1 : Nat) (g2 : Nat) (g3 : Nat) (g4 : Nat) (tp : Nat) (w6 : Int32) (w7 : Int32) (w8 : Int32) (w9 : Int32) (w10 : Int32) (w11 : Int32) (w12 : Int32) (w13 : Int32) (w14 : Int32) (g15 : Nat) (w16 : Int32) (g17 : Nat) (w18 : Int32) (w19 : Int32) (g20 : Nat) (w21 : Int32) (g22 : Nat) (g23 : Nat) (g24 : Nat) (w25 : Int32) (w26 : Int32) (w27 : Int32) (g28 : Nat) (g29 : Nat) (w30 : Int32) (g31 : Nat) (g32 : Nat) (g33 : Nat) (fa : Nat → Int32) (h_a : MI n fa) (h_j : j < n) : Ct l yX8_heatThen cX8_heatThen 6 (some .int) 1 0 0 D T [.ref o, .int (nI j), .int pl, .int mr] [(o, .inr (8, [.int w0, .ref g1, .ref g2, .ref g3, .ref g4, .int (nI tp), .int w6, .int w7, .int w8, .int w9, .int w10, .int w11, .int w12, .int w13, .int w14, .ref g15, .int w16, .ref g17, .int w18, .int w19, .ref g20, .int w21, .ref g22, .ref g23, .ref g24, .int w25, .int w26, .int w27, .ref g28, .ref g29, .int w30, .ref g31, .ref g32, .ref g33])), (g1, .inl (T 0, 282, .inl fa))] (q_m_heatThen T n o j pl mr w0 g1 g2 g3 g4 tp w6 w7 w8 w9 w10 w11 w12 w13 w14 g15 w16 g17 w18 w19 g20 w21 g22 g23 g24 w25 w26 w27 g28 g29 w30 g31 g32 g33 fa) := by
  refine Ct.of (cc := cX8_heatThen) (maxL := 6) (ret := (some .int)) (by decide) (Nat.le_of_ble_eq_true rfl) ?_
  intro p e s m args below meth c A ls hC hnm V hl
  obtain ⟨hx, hb, hr, hml, hown, hts, hlocks⟩ := id hC
  generalize hH : s.heap = H at V ⊢
  clear hH
  have hl : lv_has ls 6 [(0, .ref o), (1, .int (nI j)), (2, .int pl), (3, .int mr)] := hl
  generalize hlo : ([] : List Loc) = locs at V ⊢
  clear hlo
  have ms0 := ms_rf h_a
  have hn10 := h_a.1
  refine lv_aload_n hx hb dX8_heatThen_0 rfl (lv_at hl 0 rfl) ?_
  refine g_get hC V (ci := 8) uwX8 0 rfl rfl 1 (by decide) w_913 rfl rfl dX8_heatThen_1 ?_
  refine lv_bipush (v := (nI 24)) hx hb dX8_heatThen_4 (by decide +kernel) ?_
  refine lv_iload_n hx hb dX8_heatThen_6 rfl (lv_at hl 1 rfl) ?_
  refine lv_iadd hx hb dX8_heatThen_7 ?_
  refine g_vi (y := (nI (24 + j))) (nI_add _ _) ?_
  obtain ⟨j_1, hj_1, ej_1⟩ := bd_ex (mi_heat h_a (i := j) (by omega))
  refine g_iald hC V 1 rfl (vp_in_nI (by omega) (by omega)) (v := (nI j_1)) (by rw [nI_clamp (by omega)]; exact ej_1) dX8_heatThen_8 ?_
  refine lv_iload_n hx hb dX8_heatThen_9 rfl (lv_at hl 3 rfl) ?_
  refine lv_iadd hx hb dX8_heatThen_10 ?_
  refine lv_aload_n hx hb dX8_heatThen_11 rfl (lv_at hl 0 rfl) ?_
  refine g_get hC V (ci := 8) uwX8 0 rfl rfl 1 (by decide) w_913 rfl rfl dX8_heatThen_12 ?_
  refine lv_bipush (v := (nI 14)) hx hb dX8_heatThen_15 (by decide +kernel) ?_
  refine lv_iload_n hx hb dX8_heatThen_17 rfl (lv_at hl 1 rfl) ?_
  refine lv_iadd hx hb dX8_heatThen_18 ?_
  refine g_vi (y := (nI (14 + j))) (nI_add _ _) ?_
  obtain ⟨j_2, hj_2, ej_2⟩ := bd_ex (mi_cool h_a (i := j) (by omega))
  refine g_iald hC V 1 rfl (vp_in_nI (by omega) (by omega)) (v := (nI j_2)) (by rw [nI_clamp (by omega)]; exact ej_2) dX8_heatThen_19 ?_
  refine lv_isub hx hb dX8_heatThen_20 ?_
  refine lv_istore (lv' := [(4, .int (((nI j_1) + mr) - (nI j_2))), (0, .ref o), (1, .int (nI j)), (2, .int pl), (3, .int mr)]) hx hb dX8_heatThen_21 hl (by decide) rfl (fun ls hl => ?_)
  refine lv_iconst (v := (nI 0)) hx hb dX8_heatThen_23 (by decide +kernel) ?_
  refine lv_istore (lv' := [(5, .int (nI 0)), (4, .int (((nI j_1) + mr) - (nI j_2))), (0, .ref o), (1, .int (nI j)), (2, .int pl), (3, .int mr)]) hx hb dX8_heatThen_24 hl (by decide) rfl (fun ls hl => ?_)
  have L_3 : ∀ (fu : Nat) (k26 : Nat) (x26_4 : Int32), k26 ≤ n → n - k26 < fu → ∀ (H : Heap) (locs : List Loc) (ls : Array Slot), gW D T A s [(o, .inr (8, [.int w0, .ref g1, .ref g2, .ref g3, .ref g4, .int (nI tp), .int w6, .int w7, .int w8, .int w9, .int w10, .int w11, .int w12, .int w13, .int w14, .ref g15, .int w16, .ref g17, .int w18, .int w19, .ref g20, .int w21, .ref g22, .ref g23, .ref g24, .int w25, .int w26, .int w27, .ref g28, .ref g29, .int w30, .ref g31, .ref g32, .ref g33])), (g1, .inl (T 0, 282, .inl fa))] H locs → lv_has ls 6 [(5, .int (nI k26)), (4, .int x26_4), (0, .ref o), (1, .int (nI j)), (2, .int pl), (3, .int mr)] → W p l e (rmD 1 0 0) s m args below meth c H locs 0 0 (MQ below (gQ D A (q_m_heatThen T n o j pl mr w0 g1 g2 g3 g4 tp w6 w7 w8 w9 w10 w11 w12 w13 w14 g15 w16 g17 w18 w19 g20 w21 g22 g23 g24 w25 w26 w27 g28 g29 w30 g31 g32 g33 fa)) args s 0 0 A) (F0 m 26 ls []) := by
    intro fu_26
    induction fu_26 with
    | zero => intro k26 x26_4 hk26 hmu; exact absurd hmu (Nat.not_lt_zero _)
    | succ fu_26 ih_26 =>
      intro k26 x26_4 hk26 hmu_26 H locs ls V hl
      refine lv_iload hx hb dX8_heatThen_26 (lv_at hl 0 rfl) ?_
      refine lv_aload_n hx hb dX8_heatThen_28 rfl (lv_at hl 2 rfl) ?_
      refine g_get hC V (ci := 8) uwX8 0 rfl rfl 1 (by decide) w_913 rfl rfl dX8_heatThen_29 ?_
      refine lv_iconst (v := (nI 0)) hx hb dX8_heatThen_32 (by decide +kernel) ?_
      refine g_iald hC V 1 rfl (vp_in_nI (by decide) (by decide)) (v := (nI n)) (by rw [nI_clamp (by decide)]; first | rfl | exact h_a.2.1) dX8_heatThen_33 ?_
      refine lv_icmp_ge (tgt := 85) hx hb dX8_heatThen_34 (by decide) (fun c_4 => ?_) (fun c_4 => ?_)
      · skip
        have c_4 := b_le (by omega) (by omega) c_4
        refine lv_iload hx hb dX8_heatThen_85 (lv_at hl 1 rfl) ?_
        refine g_callSU (nA := 1) hC V hl.1 (m_inBounds l D T x26_4) w_1133 w_1134 w_9 w_1135 (by decide +kernel) rfl ⟨(Nat.le_of_ble_eq_true rfl), (Nat.le_of_ble_eq_true rfl)⟩ [] rfl rfl (Nat.le_of_ble_eq_true rfl) dX8_heatThen_87 ⟨(Nat.le_of_ble_eq_true rfl), (Nat.le_of_ble_eq_true rfl)⟩ rfl (fun r w1 H locs hQ V => ?_)
        obtain ⟨z_5, rfl, rfl, f_6, f_7⟩ := hQ
        have V : gW D T A s [(o, .inr (8, [.int w0, .ref g1, .ref g2, .ref g3, .ref g4, .int (nI tp), .int w6, .int w7, .int w8, .int w9, .int w10, .int w11, .int w12, .int w13, .int w14, .ref g15, .int w16, .ref g17, .int w18, .int w19, .ref g20, .int w21, .ref g22, .ref g23, .ref g24, .int w25, .int w26, .int w27, .ref g28, .ref g29, .int w30, .ref g31, .ref g32, .ref g33])), (g1, .inl (T 0, 282, .inl fa))] H locs := V _ [] rfl rfl rfl (by decide +kernel) rfl
        show W p l e _ s m args below meth c H locs _ _ _ (F0 m 90 ls [.int z_5])
        exact g_iret (Qr := (q_m_heatThen T n o j pl mr w0 g1 g2 g3 g4 tp w6 w7 w8 w9 w10 w11 w12 w13 w14 g15 w16 g17 w18 w19 g20 w21 g22 g23 g24 w25 w26 w27 g28 g29 w30 g31 g32 g33 fa)) hC V ⟨(Nat.le_of_ble_eq_true rfl), (Nat.le_of_ble_eq_true rfl)⟩ ⟨z_5, rfl, rfl, (by first | assumption | omega)⟩ dX8_heatThen_90
      · skip
        have c_4 := b_nle (by omega) (by omega) c_4
        refine lv_iload hx hb dX8_heatThen_37 (lv_at hl 1 rfl) ?_
        refine lv_iload_n hx hb dX8_heatThen_39 rfl (lv_at hl 4 rfl) ?_
        refine lv_i2l (v := pl.toInt64) hx hb dX8_heatThen_40 rfl ?_
        refine lv_iload hx hb dX8_heatThen_41 (lv_at hl 0 rfl) ?_
        refine g_callSU (nA := 2) hC V hl.1 (m_isIn l D T pl.toInt64 (nI k26)) w_1130 w_1131 w_9 w_1132 (by decide +kernel) rfl ⟨(Nat.le_of_ble_eq_true rfl), (Nat.le_of_ble_eq_true rfl)⟩ [] rfl rfl (Nat.le_of_ble_eq_true rfl) dX8_heatThen_43 ⟨(Nat.le_of_ble_eq_true rfl), (Nat.le_of_ble_eq_true rfl)⟩ rfl (fun r w1 H locs hQ V => ?_)
        rcases hQ with ⟨rfl, rfl⟩ | ⟨rfl, rfl⟩
        · have V : gW D T A s [(o, .inr (8, [.int w0, .ref g1, .ref g2, .ref g3, .ref g4, .int (nI tp), .int w6, .int w7, .int w8, .int w9, .int w10, .int w11, .int w12, .int w13, .int w14, .ref g15, .int w16, .ref g17, .int w18, .int w19, .ref g20, .int w21, .ref g22, .ref g23, .ref g24, .int w25, .int w26, .int w27, .ref g28, .ref g29, .int w30, .ref g31, .ref g32, .ref g33])), (g1, .inl (T 0, 282, .inl fa))] H locs := V _ [] rfl rfl rfl (by decide +kernel) rfl
          show W p l e _ s m args below meth c H locs _ _ _ (F0 m 46 ls [.int (nI 1), .int x26_4])
          refine lv_if_eq (tgt := 75) hx hb dX8_heatThen_46 (by decide) (fun c => absurd (show (nI 1) = 0 from c) (by decide +kernel)) (fun _ => ?_)
          refine lv_aload_n hx hb dX8_heatThen_49 rfl (lv_at hl 2 rfl) ?_
          refine g_get hC V (ci := 8) uwX8 0 rfl rfl 1 (by decide) w_913 rfl rfl dX8_heatThen_50 ?_
          refine lv_bipush (v := (nI 84)) hx hb dX8_heatThen_53 (by decide +kernel) ?_
          refine lv_iload hx hb dX8_heatThen_55 (lv_at hl 0 rfl) ?_
          refine lv_iadd hx hb dX8_heatThen_57 ?_
          refine g_vi (y := (nI (84 + k26))) (nI_add _ _) ?_
          obtain ⟨j_8, hj_8, ej_8⟩ := bd_ex (mi_to h_a (i := k26) (by omega))
          refine g_iald hC V 1 rfl (vp_in_nI (by omega) (by omega)) (v := (nI j_8)) (by rw [nI_clamp (by omega)]; exact ej_8) dX8_heatThen_58 ?_
          refine lv_iload_n hx hb dX8_heatThen_59 rfl (lv_at hl 3 rfl) ?_
          refine lv_icmp_ne (tgt := 75) hx hb dX8_heatThen_60 (by decide) (fun c_9 => ?_) (fun c_9 => ?_)
          · skip
            have c_9 := b_ne (by omega) (by omega) c_9
            refine lv_iconst (v := (nI 0)) hx hb dX8_heatThen_75 (by decide +kernel) ?_
            refine lv_iadd hx hb dX8_heatThen_76 ?_
            refine lv_istore (lv' := [(4, .int (x26_4 + (nI 0))), (5, .int (nI k26)), (0, .ref o), (1, .int (nI j)), (2, .int pl), (3, .int mr)]) hx hb dX8_heatThen_77 hl (by decide) rfl (fun ls hl => ?_)
            refine lv_iinc (v := (nI (k26 + 1))) (lv' := [(5, .int (nI (k26 + 1))), (4, .int (x26_4 + (nI 0))), (0, .ref o), (1, .int (nI j)), (2, .int pl), (3, .int mr)]) hx hb dX8_heatThen_79 hl (k := 1) rfl (nI_1 _) (by decide) rfl (fun ls hl => ?_)
            refine lv_goto (tgt := 26) hx hb dX8_heatThen_82 (by decide) ?_
            exact ih_26 (k26 + 1) (x26_4 + (nI 0)) (by omega) (by omega) _ _ _ V (lv_sub hl [0, 1, 2, 3, 4, 5] rfl)
          · skip
            have c_9 := b_eq (by omega) (by omega) c_9
            refine lv_aload_n hx hb dX8_heatThen_63 rfl (lv_at hl 2 rfl) ?_
            refine g_get hC V (ci := 8) uwX8 0 rfl rfl 1 (by decide) w_913 rfl rfl dX8_heatThen_64 ?_
            refine lv_iconst (v := (nI 4)) hx hb dX8_heatThen_67 (by decide +kernel) ?_
            refine lv_iload hx hb dX8_heatThen_68 (lv_at hl 0 rfl) ?_
            refine lv_iadd hx hb dX8_heatThen_70 ?_
            refine g_vi (y := (nI (4 + k26))) (nI_add _ _) ?_
            obtain ⟨j_10, hj_10, ej_10⟩ := bd_ex (mi_blast h_a (i := k26) (by omega))
            refine g_iald hC V 1 rfl (vp_in_nI (by omega) (by omega)) (v := (nI j_10)) (by rw [nI_clamp (by omega)]; exact ej_10) dX8_heatThen_71 ?_
            refine lv_goto (tgt := 76) hx hb dX8_heatThen_72 (by decide) ?_
            refine lv_iadd hx hb dX8_heatThen_76 ?_
            refine lv_istore (lv' := [(4, .int (x26_4 + (nI j_10))), (5, .int (nI k26)), (0, .ref o), (1, .int (nI j)), (2, .int pl), (3, .int mr)]) hx hb dX8_heatThen_77 hl (by decide) rfl (fun ls hl => ?_)
            refine lv_iinc (v := (nI (k26 + 1))) (lv' := [(5, .int (nI (k26 + 1))), (4, .int (x26_4 + (nI j_10))), (0, .ref o), (1, .int (nI j)), (2, .int pl), (3, .int mr)]) hx hb dX8_heatThen_79 hl (k := 1) rfl (nI_1 _) (by decide) rfl (fun ls hl => ?_)
            refine lv_goto (tgt := 26) hx hb dX8_heatThen_82 (by decide) ?_
            exact ih_26 (k26 + 1) (x26_4 + (nI j_10)) (by omega) (by omega) _ _ _ V (lv_sub hl [0, 1, 2, 3, 4, 5] rfl)
        · have V : gW D T A s [(o, .inr (8, [.int w0, .ref g1, .ref g2, .ref g3, .ref g4, .int (nI tp), .int w6, .int w7, .int w8, .int w9, .int w10, .int w11, .int w12, .int w13, .int w14, .ref g15, .int w16, .ref g17, .int w18, .int w19, .ref g20, .int w21, .ref g22, .ref g23, .ref g24, .int w25, .int w26, .int w27, .ref g28, .ref g29, .int w30, .ref g31, .ref g32, .ref g33])), (g1, .inl (T 0, 282, .inl fa))] H locs := V _ [] rfl rfl rfl (by decide +kernel) rfl
          show W p l e _ s m args below meth c H locs _ _ _ (F0 m 46 ls [.int (nI 0), .int x26_4])
          refine lv_if_eq (tgt := 75) hx hb dX8_heatThen_46 (by decide) (fun _ => ?_) (fun c => absurd (show (nI 0) = 0 by decide +kernel) c)
          refine lv_iconst (v := (nI 0)) hx hb dX8_heatThen_75 (by decide +kernel) ?_
          refine lv_iadd hx hb dX8_heatThen_76 ?_
          refine lv_istore (lv' := [(4, .int (x26_4 + (nI 0))), (5, .int (nI k26)), (0, .ref o), (1, .int (nI j)), (2, .int pl), (3, .int mr)]) hx hb dX8_heatThen_77 hl (by decide) rfl (fun ls hl => ?_)
          refine lv_iinc (v := (nI (k26 + 1))) (lv' := [(5, .int (nI (k26 + 1))), (4, .int (x26_4 + (nI 0))), (0, .ref o), (1, .int (nI j)), (2, .int pl), (3, .int mr)]) hx hb dX8_heatThen_79 hl (k := 1) rfl (nI_1 _) (by decide) rfl (fun ls hl => ?_)
          refine lv_goto (tgt := 26) hx hb dX8_heatThen_82 (by decide) ?_
          exact ih_26 (k26 + 1) (x26_4 + (nI 0)) (by omega) (by omega) _ _ _ V (lv_sub hl [0, 1, 2, 3, 4, 5] rfl)
  exact L_3 _ 0 (((nI j_1) + mr) - (nI j_2)) (by omega) (Nat.lt_succ_self _) _ _ _ V (lv_sub hl [0, 1, 2, 3, 4, 5] rfl)

def q_m_goes (T : Nat → ClassId) (n : Nat) (o : Nat) (pl : Int32) (sk : Int32) (fi : Int32) (mr : Int32) (w0 : Int32) (g1 : Nat) (g2 : Nat) (g3 : Nat) (g4 : Nat) (tp : Nat) (w6 : Int32) (w7 : Int32) (w8 : Int32) (w9 : Int32) (w10 : Int32) (w11 : Int32) (w12 : Int32) (w13 : Int32) (w14 : Int32) (g15 : Nat) (w16 : Int32) (g17 : Nat) (w18 : Int32) (w19 : Int32) (g20 : Nat) (w21 : Int32) (g22 : Nat) (g23 : Nat) (g24 : Nat) (w25 : Int32) (w26 : Int32) (w27 : Int32) (g28 : Nat) (g29 : Nat) (w30 : Int32) (g31 : Nat) (g32 : Nat) (g33 : Nat) (fa : Nat → Int32) (fh : Nat → Int32) : Option Value → va_W → Prop := fun rr ww => (∃ (z : Int32) (bm : Int32) (ga : Nat → Int32) (gh : Nat → Int32), rr = some (.int z) ∧ ww = [(o, .inr (8, [.int w0, .ref g1, .ref g2, .ref g3, .ref g4, .int (nI tp), .int w6, .int w7, .int w8, .int w9, .int w10, .int w11, .int w12, .int w13, .int w14, .ref g15, .int bm, .ref g17, .int w18, .int w19, .ref g20, .int w21, .ref g22, .ref g23, .ref g24, .int w25, .int w26, .int w27, .ref g28, .ref g29, .int w30, .ref g31, .ref g32, .ref g33])), (g1, .inl (T 0, 282, .inl ga)), (g15, .inl (T 0, 10, .inl gh))] ∧ MS n fa ga)
set_option maxHeartbeats 4000000 in
set_option maxRecDepth 100000 in
theorem m_goes (l : Launch) (D : va_G) (T : Nat → ClassId) (n : Nat) (o : Nat) (pl : Int32) (sk : Int32) (fi : Int32) (mr : Int32) (w0 : Int32) (g1 : Nat) (g2 : Nat) (g3 : Nat) (g4 : Nat) (tp : Nat) (w6 : Int32) (w7 : Int32) (w8 : Int32) (w9 : Int32) (w10 : Int32) (w11 : Int32) (w12 : Int32) (w13 : Int32) (w14 : Int32) (g15 : Nat) (w16 : Int32) (g17 : Nat) (w18 : Int32) (w19 : Int32) (g20 : Nat) (w21 : Int32) (g22 : Nat) (g23 : Nat) (g24 : Nat) (w25 : Int32) (w26 : Int32) (w27 : Int32) (g28 : Nat) (g29 : Nat) (w30 : Int32) (g31 : Nat) (g32 : Nat) (g33 : Nat) (fa : Nat → Int32) (fh : Nat → Int32) (h_a : MI n fa) : Ct l yX8_goes cX8_goes 7 (some .int) 2 0 0 D T [.ref o, .int pl, .int sk, .int fi, .int mr] [(o, .inr (8, [.int w0, .ref g1, .ref g2, .ref g3, .ref g4, .int (nI tp), .int w6, .int w7, .int w8, .int w9, .int w10, .int w11, .int w12, .int w13, .int w14, .ref g15, .int w16, .ref g17, .int w18, .int w19, .ref g20, .int w21, .ref g22, .ref g23, .ref g24, .int w25, .int w26, .int w27, .ref g28, .ref g29, .int w30, .ref g31, .ref g32, .ref g33])), (g1, .inl (T 0, 282, .inl fa)), (g15, .inl (T 0, 10, .inl fh))] (q_m_goes T n o pl sk fi mr w0 g1 g2 g3 g4 tp w6 w7 w8 w9 w10 w11 w12 w13 w14 g15 w16 g17 w18 w19 g20 w21 g22 g23 g24 w25 w26 w27 g28 g29 w30 g31 g32 g33 fa fh) := by
  refine Ct.of (cc := cX8_goes) (maxL := 7) (ret := (some .int)) (by decide) (Nat.le_of_ble_eq_true rfl) ?_
  intro p e s m args below meth c A ls hC hnm V hl
  obtain ⟨hx, hb, hr, hml, hown, hts, hlocks⟩ := id hC
  generalize hH : s.heap = H at V ⊢
  clear hH
  have hl : lv_has ls 7 [(0, .ref o), (1, .int pl), (2, .int sk), (3, .int fi), (4, .int mr)] := hl
  generalize hlo : ([] : List Loc) = locs at V ⊢
  clear hlo
  have ms0 := ms_rf h_a
  have hn10 := h_a.1
  refine lv_iconst (v := (nI 0)) hx hb dX8_goes_0 (by decide +kernel) ?_
  refine lv_istore (lv' := [(5, .int (nI 0)), (0, .ref o), (1, .int pl), (2, .int sk), (3, .int fi), (4, .int mr)]) hx hb dX8_goes_1 hl (by decide) rfl (fun ls hl => ?_)
  refine lv_iconst (v := (nI 0)) hx hb dX8_goes_3 (by decide +kernel) ?_
  refine lv_istore (lv' := [(6, .int (nI 0)), (5, .int (nI 0)), (0, .ref o), (1, .int pl), (2, .int sk), (3, .int fi), (4, .int mr)]) hx hb dX8_goes_4 hl (by decide) rfl (fun ls hl => ?_)
  have L_1 : ∀ (fu : Nat) (k6 : Nat) (x6_5 : Int32) (th6 : Nat → Int32) (f6 : Nat → Int32), k6 ≤ n → MS n fa f6 → (∀ i, i < k6 → bd (th6 i) 201) → n - k6 < fu → ∀ (H : Heap) (locs : List Loc) (ls : Array Slot), gW D T A s [(o, .inr (8, [.int w0, .ref g1, .ref g2, .ref g3, .ref g4, .int (nI tp), .int w6, .int w7, .int w8, .int w9, .int w10, .int w11, .int w12, .int w13, .int w14, .ref g15, .int w16, .ref g17, .int w18, .int w19, .ref g20, .int w21, .ref g22, .ref g23, .ref g24, .int w25, .int w26, .int w27, .ref g28, .ref g29, .int w30, .ref g31, .ref g32, .ref g33])), (g1, .inl (T 0, 282, .inl f6)), (g15, .inl (T 0, 10, .inl th6))] H locs → lv_has ls 7 [(6, .int (nI k6)), (5, .int x6_5), (0, .ref o), (1, .int pl), (2, .int sk), (3, .int fi), (4, .int mr)] → W p l e (rmD 2 0 0) s m args below meth c H locs 0 0 (MQ below (gQ D A (q_m_goes T n o pl sk fi mr w0 g1 g2 g3 g4 tp w6 w7 w8 w9 w10 w11 w12 w13 w14 g15 w16 g17 w18 w19 g20 w21 g22 g23 g24 w25 w26 w27 g28 g29 w30 g31 g32 g33 fa fh)) args s 0 0 A) (F0 m 6 ls []) := by
    intro fu_6
    induction fu_6 with
    | zero => intro k6 x6_5 th6 f6 hk6 hf6 hth6 hmu; exact absurd hmu (Nat.not_lt_zero _)
    | succ fu_6 ih_6 =>
      intro k6 x6_5 th6 f6 hk6 hf6 hth6 hmu_6 H locs ls V hl
      refine lv_iload hx hb dX8_goes_6 (lv_at hl 0 rfl) ?_
      refine lv_aload_n hx hb dX8_goes_8 rfl (lv_at hl 2 rfl) ?_
      refine g_get hC V (ci := 8) uwX8 0 rfl rfl 1 (by decide) w_913 rfl rfl dX8_goes_9 ?_
      refine lv_iconst (v := (nI 0)) hx hb dX8_goes_12 (by decide +kernel) ?_
      refine g_iald hC V 1 rfl (vp_in_nI (by decide) (by decide)) (v := (nI n)) (by rw [nI_clamp (by decide)]; first | rfl | exact h_a.2.1 | exact hf6.1.2.1 | exact hf100.1.2.1) dX8_goes_13 ?_
      refine lv_icmp_ge (tgt := 97) hx hb dX8_goes_14 (by decide) (fun c_2 => ?_) (fun c_2 => ?_)
      · skip
        have c_2 := b_le (by omega) (by omega) c_2
        have hth : ∀ i, i < n → bd (th6 i) 201 := fun i h => hth6 i (by omega)
        refine lv_iconst (v := (nI 0)) hx hb dX8_goes_97 (by decide +kernel) ?_
        refine lv_istore (lv' := [(6, .int (nI 0)), (5, .int x6_5), (0, .ref o), (1, .int pl), (2, .int sk), (3, .int fi), (4, .int mr)]) hx hb dX8_goes_98 hl (by decide) rfl (fun ls hl => ?_)
        have L_3 : ∀ (fu : Nat) (k100 : Nat) (bv : Int32) (f100 : Nat → Int32), k100 ≤ n → MS n fa f100 → n - k100 < fu → ∀ (H : Heap) (locs : List Loc) (ls : Array Slot), gW D T A s [(o, .inr (8, [.int w0, .ref g1, .ref g2, .ref g3, .ref g4, .int (nI tp), .int w6, .int w7, .int w8, .int w9, .int w10, .int w11, .int w12, .int w13, .int w14, .ref g15, .int bv, .ref g17, .int w18, .int w19, .ref g20, .int w21, .ref g22, .ref g23, .ref g24, .int w25, .int w26, .int w27, .ref g28, .ref g29, .int w30, .ref g31, .ref g32, .ref g33])), (g1, .inl (T 0, 282, .inl f100)), (g15, .inl (T 0, 10, .inl th6))] H locs → lv_has ls 7 [(6, .int (nI k100)), (5, .int x6_5), (0, .ref o), (1, .int pl), (2, .int sk), (3, .int fi), (4, .int mr)] → W p l e (rmD 2 0 0) s m args below meth c H locs 0 0 (MQ below (gQ D A (q_m_goes T n o pl sk fi mr w0 g1 g2 g3 g4 tp w6 w7 w8 w9 w10 w11 w12 w13 w14 g15 w16 g17 w18 w19 g20 w21 g22 g23 g24 w25 w26 w27 g28 g29 w30 g31 g32 g33 fa fh)) args s 0 0 A) (F0 m 100 ls []) := by
          intro fu_100
          induction fu_100 with
          | zero => intro k100 bv f100 hk100 hf100 hmu; exact absurd hmu (Nat.not_lt_zero _)
          | succ fu_100 ih_100 =>
            intro k100 bv f100 hk100 hf100 hmu_100 H locs ls V hl
            refine lv_iload hx hb dX8_goes_100 (lv_at hl 0 rfl) ?_
            refine lv_aload_n hx hb dX8_goes_102 rfl (lv_at hl 2 rfl) ?_
            refine g_get hC V (ci := 8) uwX8 0 rfl rfl 1 (by decide) w_913 rfl rfl dX8_goes_103 ?_
            refine lv_iconst (v := (nI 0)) hx hb dX8_goes_106 (by decide +kernel) ?_
            refine g_iald hC V 1 rfl (vp_in_nI (by decide) (by decide)) (v := (nI n)) (by rw [nI_clamp (by decide)]; first | rfl | exact h_a.2.1 | exact hf6.1.2.1 | exact hf100.1.2.1) dX8_goes_107 ?_
            refine lv_icmp_ge (tgt := 253) hx hb dX8_goes_108 (by decide) (fun c_4 => ?_) (fun c_4 => ?_)
            · skip
              have c_4 := b_le (by omega) (by omega) c_4
              refine lv_aload_n hx hb dX8_goes_253 rfl (lv_at hl 2 rfl) ?_
              refine g_get hC V (ci := 8) uwX8 0 rfl rfl 1 (by decide) w_913 rfl rfl dX8_goes_254 ?_
              refine lv_iconst (v := (nI 1)) hx hb dX8_goes_257 (by decide +kernel) ?_
              refine lv_dup2_11 hx hb dX8_goes_258 rfl rfl ?_
              refine g_iald hC V 1 rfl (vp_in_nI (by decide) (by decide)) (v := (f100 1)) (congrArg _ (nI_clamp (by decide))) dX8_goes_259 ?_
              refine lv_iconst (v := (nI 1)) hx hb dX8_goes_260 (by decide +kernel) ?_
              refine lv_iadd hx hb dX8_goes_261 ?_
              obtain ⟨f_5, ef_5⟩ : ∃ x, x = upd f100 1 ((f100 1) + (nI 1)) := ⟨_, rfl⟩
              have hf_5 : MS n fa f_5 := by rw [ef_5]; exact ms_st (by assumption) (by omega) (by omega) (by intros; first | (exfalso; omega) | assumption) (by intros; first | (exfalso; omega) | assumption) (by intros; first | (exfalso; omega) | assumption) (by intros; first | (exfalso; omega) | assumption) (by intros; first | (exfalso; omega) | assumption) (by intros; first | (exfalso; omega) | assumption) (by intros; first | (exfalso; omega) | assumption)
              refine g_iast hC V 1 rfl (vp_in_nI (by decide) (by decide)) (f' := f_5) (by rw [nI_clamp (by omega)]; exact ef_5.symm) (ws' := [(o, .inr (8, [.int w0, .ref g1, .ref g2, .ref g3, .ref g4, .int (nI tp), .int w6, .int w7, .int w8, .int w9, .int w10, .int w11, .int w12, .int w13, .int w14, .ref g15, .int bv, .ref g17, .int w18, .int w19, .ref g20, .int w21, .ref g22, .ref g23, .ref g24, .int w25, .int w26, .int w27, .ref g28, .ref g29, .int w30, .ref g31, .ref g32, .ref g33])), (g1, .inl (T 0, 282, .inl f_5)), (g15, .inl (T 0, 10, .inl th6))]) rfl dX8_goes_262 (fun H locs V => ?_)
              refine lv_iload hx hb dX8_goes_263 (lv_at hl 1 rfl) ?_
              exact g_iret (Qr := (q_m_goes T n o pl sk fi mr w0 g1 g2 g3 g4 tp w6 w7 w8 w9 w10 w11 w12 w13 w14 g15 w16 g17 w18 w19 g20 w21 g22 g23 g24 w25 w26 w27 g28 g29 w30 g31 g32 g33 fa fh)) hC V ⟨(Nat.le_of_ble_eq_true rfl), (Nat.le_of_ble_eq_true rfl)⟩ ⟨x6_5, bv, f_5, th6, rfl, rfl, (by first | assumption | omega)⟩ dX8_goes_265
            · skip
              have c_4 := b_nle (by omega) (by omega) c_4
              refine lv_aload_n hx hb dX8_goes_111 rfl (lv_at hl 2 rfl) ?_
              refine g_get hC V (ci := 8) uwX8 0 rfl rfl 1 (by decide) w_913 rfl rfl dX8_goes_112 ?_
              refine lv_bipush (v := (nI 24)) hx hb dX8_goes_115 (by decide +kernel) ?_
              refine lv_iload hx hb dX8_goes_117 (lv_at hl 0 rfl) ?_
              refine lv_iadd hx hb dX8_goes_119 ?_
              refine g_vi (y := (nI (24 + k100))) (nI_add _ _) ?_
              refine lv_aload_n hx hb dX8_goes_120 rfl (lv_at hl 2 rfl) ?_
              refine g_get hC V (ci := 8) uwX8 0 rfl rfl 15 (by decide) w_927 rfl rfl dX8_goes_121 ?_
              refine lv_iload hx hb dX8_goes_124 (lv_at hl 0 rfl) ?_
              obtain ⟨j_6, hj_6, ej_6⟩ := bd_ex (hth k100 (by omega))
              refine g_iald hC V 2 rfl (vp_in_nI (by omega) (by omega)) (v := (nI j_6)) (by rw [nI_clamp (by omega)]; exact ej_6) dX8_goes_126 ?_
              obtain ⟨f_7, ef_7⟩ : ∃ x, x = upd f100 (24 + k100) (nI j_6) := ⟨_, rfl⟩
              have hf_7 : MS n fa f_7 := by rw [ef_7]; exact ms_st (by assumption) (by omega) (by omega) (by intros; first | (exfalso; omega) | exact bd_nI (by omega) | exact bd_le ‹bd (nI j_6) _› (by omega) | assumption) (by intros; first | (exfalso; omega) | exact bd_nI (by omega) | exact bd_le ‹bd (nI j_6) _› (by omega) | assumption) (by intros; first | (exfalso; omega) | exact bd_nI (by omega) | exact bd_le ‹bd (nI j_6) _› (by omega) | assumption) (by intros; first | (exfalso; omega) | exact bd_nI (by omega) | exact bd_le ‹bd (nI j_6) _› (by omega) | assumption) (by intros; first | (exfalso; omega) | exact bd_nI (by omega) | exact bd_le ‹bd (nI j_6) _› (by omega) | assumption) (by intros; first | (exfalso; omega) | exact bd_nI (by omega) | exact bd_le ‹bd (nI j_6) _› (by omega) | assumption) (by intros; first | (exfalso; omega) | exact bd_nI (by omega) | exact bd_le ‹bd (nI j_6) _› (by omega) | assumption)
              refine g_iast hC V 1 rfl (vp_in_nI (by omega) (by omega)) (f' := f_7) (by rw [nI_clamp (by omega)]; exact ef_7.symm) (ws' := [(o, .inr (8, [.int w0, .ref g1, .ref g2, .ref g3, .ref g4, .int (nI tp), .int w6, .int w7, .int w8, .int w9, .int w10, .int w11, .int w12, .int w13, .int w14, .ref g15, .int bv, .ref g17, .int w18, .int w19, .ref g20, .int w21, .ref g22, .ref g23, .ref g24, .int w25, .int w26, .int w27, .ref g28, .ref g29, .int w30, .ref g31, .ref g32, .ref g33])), (g1, .inl (T 0, 282, .inl f_7)), (g15, .inl (T 0, 10, .inl th6))]) rfl dX8_goes_127 (fun H locs V => ?_)
              refine lv_aload_n hx hb dX8_goes_128 rfl (lv_at hl 2 rfl) ?_
              refine lv_iload hx hb dX8_goes_129 (lv_at hl 0 rfl) ?_
              refine g_callVU (nA := 1) hC V hl.1 (m_isDone l D T o k100 w0 g1 g2 g3 g4 tp w6 w7 w8 w9 w10 w11 w12 w13 w14 g15 bv g17 w18 w19 g20 w21 g22 g23 g24 w25 w26 w27 g28 g29 w30 g31 g32 g33 f_7 (by first | assumption | omega)) w_1088 w_1090 w_s47 w_9 w_1091 (by decide +kernel) rfl ⟨(Nat.le_of_ble_eq_true rfl), (Nat.le_of_ble_eq_true rfl)⟩ 0 (ci := 8) rfl rfl [0, 1] rfl rfl (Nat.le_of_ble_eq_true rfl) dX8_goes_131 ⟨(Nat.le_of_ble_eq_true rfl), (Nat.le_of_ble_eq_true rfl)⟩ rfl (fun r w1 H locs hQ V => ?_)
              rcases hQ with ⟨rfl, rfl, f_8⟩ | ⟨rfl, rfl, f_9⟩
              · have V : gW D T A s [(o, .inr (8, [.int w0, .ref g1, .ref g2, .ref g3, .ref g4, .int (nI tp), .int w6, .int w7, .int w8, .int w9, .int w10, .int w11, .int w12, .int w13, .int w14, .ref g15, .int bv, .ref g17, .int w18, .int w19, .ref g20, .int w21, .ref g22, .ref g23, .ref g24, .int w25, .int w26, .int w27, .ref g28, .ref g29, .int w30, .ref g31, .ref g32, .ref g33])), (g1, .inl (T 0, 282, .inl f_7)), (g15, .inl (T 0, 10, .inl th6))] H locs := V _ [0, 0] rfl rfl rfl (by decide +kernel) rfl
                show W p l e _ s m args below meth c H locs _ _ _ (F0 m 134 ls [.int (nI 1)])
                refine lv_if_ne (tgt := 247) hx hb dX8_goes_134 (by decide) (fun _ => ?_) (fun c => absurd (show (nI 1) = 0 from c) (by decide +kernel))
                refine lv_iinc (v := (nI (k100 + 1))) (lv' := [(6, .int (nI (k100 + 1))), (5, .int x6_5), (0, .ref o), (1, .int pl), (2, .int sk), (3, .int fi), (4, .int mr)]) hx hb dX8_goes_247 hl (k := 0) rfl (nI_1 _) (by decide) rfl (fun ls hl => ?_)
                refine lv_goto (tgt := 100) hx hb dX8_goes_250 (by decide) ?_
                exact ih_100 (k100 + 1) bv f_7 (by omega) (by assumption) (by omega) _ _ _ V (lv_sub hl [0, 1, 2, 3, 4, 5, 6] rfl)
              · have V : gW D T A s [(o, .inr (8, [.int w0, .ref g1, .ref g2, .ref g3, .ref g4, .int (nI tp), .int w6, .int w7, .int w8, .int w9, .int w10, .int w11, .int w12, .int w13, .int w14, .ref g15, .int bv, .ref g17, .int w18, .int w19, .ref g20, .int w21, .ref g22, .ref g23, .ref g24, .int w25, .int w26, .int w27, .ref g28, .ref g29, .int w30, .ref g31, .ref g32, .ref g33])), (g1, .inl (T 0, 282, .inl f_7)), (g15, .inl (T 0, 10, .inl th6))] H locs := V _ [0, 0] rfl rfl rfl (by decide +kernel) rfl
                show W p l e _ s m args below meth c H locs _ _ _ (F0 m 134 ls [.int (nI 0)])
                refine lv_if_ne (tgt := 247) hx hb dX8_goes_134 (by decide) (fun c => absurd (show (nI 0) = 0 by decide +kernel) c) (fun _ => ?_)
                refine lv_aload_n hx hb dX8_goes_137 rfl (lv_at hl 2 rfl) ?_
                refine g_get hC V (ci := 8) uwX8 0 rfl rfl 1 (by decide) w_913 rfl rfl dX8_goes_138 ?_
                refine lv_bipush (v := (nI 64)) hx hb dX8_goes_141 (by decide +kernel) ?_
                refine lv_iload hx hb dX8_goes_143 (lv_at hl 0 rfl) ?_
                refine lv_iadd hx hb dX8_goes_145 ?_
                refine g_vi (y := (nI (64 + k100))) (nI_add _ _) ?_
                obtain ⟨j_10, hj_10, ej_10⟩ := bd_ex (mi_has hf_7.1 (i := k100) (by omega))
                refine g_iald hC V 1 rfl (vp_in_nI (by omega) (by omega)) (v := (nI j_10)) (by rw [nI_clamp (by omega)]; exact ej_10) dX8_goes_146 ?_
                refine lv_if_eq (tgt := 247) hx hb dX8_goes_147 (by decide) (fun c_11 => ?_) (fun c_11 => ?_)
                · skip
                  rw [show (0 : Int32) = nI 0 from rfl] at c_11
                  have c_11 := b_eq (by omega) (by omega) c_11
                  refine lv_iinc (v := (nI (k100 + 1))) (lv' := [(6, .int (nI (k100 + 1))), (5, .int x6_5), (0, .ref o), (1, .int pl), (2, .int sk), (3, .int fi), (4, .int mr)]) hx hb dX8_goes_247 hl (k := 0) rfl (nI_1 _) (by decide) rfl (fun ls hl => ?_)
                  refine lv_goto (tgt := 100) hx hb dX8_goes_250 (by decide) ?_
                  exact ih_100 (k100 + 1) bv f_7 (by omega) (by assumption) (by omega) _ _ _ V (lv_sub hl [0, 1, 2, 3, 4, 5, 6] rfl)
                · skip
                  rw [show (0 : Int32) = nI 0 from rfl] at c_11
                  have c_11 := b_ne (by omega) (by omega) c_11
                  refine lv_aload_n hx hb dX8_goes_150 rfl (lv_at hl 2 rfl) ?_
                  refine g_get hC V (ci := 8) uwX8 0 rfl rfl 15 (by decide) w_927 rfl rfl dX8_goes_151 ?_
                  refine lv_iload hx hb dX8_goes_154 (lv_at hl 0 rfl) ?_
                  refine g_iald hC V 2 rfl (vp_in_nI (by omega) (by omega)) (v := (nI j_6)) (by rw [nI_clamp (by omega)]; exact ej_6) dX8_goes_156 ?_
                  refine lv_aload_n hx hb dX8_goes_157 rfl (lv_at hl 2 rfl) ?_
                  refine g_get hC V (ci := 8) uwX8 0 rfl rfl 1 (by decide) w_913 rfl rfl dX8_goes_158 ?_
                  refine lv_bipush (v := (nI 44)) hx hb dX8_goes_161 (by decide +kernel) ?_
                  refine lv_iload hx hb dX8_goes_163 (lv_at hl 0 rfl) ?_
                  refine lv_iadd hx hb dX8_goes_165 ?_
                  refine g_vi (y := (nI (44 + k100))) (nI_add _ _) ?_
                  refine g_iald hC V 1 rfl (vp_in_nI (by omega) (by omega)) (v := (f_7 (44 + k100))) (congrArg _ (nI_clamp (by omega))) dX8_goes_166 ?_
                  refine lv_icmp_gt (tgt := 173) hx hb dX8_goes_167 (by decide) (fun c_12 => ?_) (fun c_12 => ?_)
                  · skip
                    refine lv_aload_n hx hb dX8_goes_173 rfl (lv_at hl 2 rfl) ?_
                    refine g_get hC V (ci := 8) uwX8 0 rfl rfl 1 (by decide) w_913 rfl rfl dX8_goes_174 ?_
                    refine lv_bipush (v := (nI 64)) hx hb dX8_goes_177 (by decide +kernel) ?_
                    refine lv_iload hx hb dX8_goes_179 (lv_at hl 0 rfl) ?_
                    refine lv_iadd hx hb dX8_goes_181 ?_
                    refine g_vi (y := (nI (64 + k100))) (nI_add _ _) ?_
                    refine lv_aload_n hx hb dX8_goes_182 rfl (lv_at hl 2 rfl) ?_
                    refine g_get hC V (ci := 8) uwX8 0 rfl rfl 1 (by decide) w_913 rfl rfl dX8_goes_183 ?_
                    refine lv_bipush (v := (nI 64)) hx hb dX8_goes_186 (by decide +kernel) ?_
                    refine lv_iload hx hb dX8_goes_188 (lv_at hl 0 rfl) ?_
                    refine lv_iadd hx hb dX8_goes_190 ?_
                    refine g_vi (y := (nI (64 + k100))) (nI_add _ _) ?_
                    refine g_iald hC V 1 rfl (vp_in_nI (by omega) (by omega)) (v := (nI j_10)) (by rw [nI_clamp (by omega)]; exact ej_10) dX8_goes_191 ?_
                    refine lv_aload_n hx hb dX8_goes_192 rfl (lv_at hl 2 rfl) ?_
                    refine g_get hC V (ci := 8) uwX8 0 rfl rfl 1 (by decide) w_913 rfl rfl dX8_goes_193 ?_
                    refine lv_iconst (v := (nI 2)) hx hb dX8_goes_196 (by decide +kernel) ?_
                    obtain ⟨j_13, hj_13, ej_13⟩ := bd_ex (mi_lost hf_7.1)
                    refine g_iald hC V 1 rfl (vp_in_nI (by decide) (by decide)) (v := (nI j_13)) (by rw [nI_clamp (by omega)]; exact ej_13) dX8_goes_197 ?_
                    refine lv_icmp_le (tgt := 221) hx hb dX8_goes_198 (by decide) (fun c_14 => ?_) (fun c_14 => ?_)
                    · skip
                      have c_14 := b_le (by omega) (by omega) c_14
                      refine lv_iconst (v := (nI 0)) hx hb dX8_goes_221 (by decide +kernel) ?_
                      obtain ⟨f_15, ef_15⟩ : ∃ x, x = upd f_7 (64 + k100) (nI 0) := ⟨_, rfl⟩
                      have hf_15 : MS n fa f_15 := by rw [ef_15]; exact ms_st (by assumption) (by omega) (by omega) (by intros; first | (exfalso; omega) | exact bd_nI (by omega) | exact bd_le ‹bd (nI 0) _› (by omega) | assumption) (by intros; first | (exfalso; omega) | exact bd_nI (by omega) | exact bd_le ‹bd (nI 0) _› (by omega) | assumption) (by intros; first | (exfalso; omega) | exact bd_nI (by omega) | exact bd_le ‹bd (nI 0) _› (by omega) | assumption) (by intros; first | (exfalso; omega) | exact bd_nI (by omega) | exact bd_le ‹bd (nI 0) _› (by omega) | assumption) (by intros; first | (exfalso; omega) | exact bd_nI (by omega) | exact bd_le ‹bd (nI 0) _› (by omega) | assumption) (by intros; first | (exfalso; omega) | exact bd_nI (by omega) | exact bd_le ‹bd (nI 0) _› (by omega) | assumption) (by intros; first | (exfalso; omega) | exact bd_nI (by omega) | exact bd_le ‹bd (nI 0) _› (by omega) | assumption)
                      refine g_iast hC V 1 rfl (vp_in_nI (by omega) (by omega)) (f' := f_15) (by rw [nI_clamp (by omega)]; exact ef_15.symm) (ws' := [(o, .inr (8, [.int w0, .ref g1, .ref g2, .ref g3, .ref g4, .int (nI tp), .int w6, .int w7, .int w8, .int w9, .int w10, .int w11, .int w12, .int w13, .int w14, .ref g15, .int bv, .ref g17, .int w18, .int w19, .ref g20, .int w21, .ref g22, .ref g23, .ref g24, .int w25, .int w26, .int w27, .ref g28, .ref g29, .int w30, .ref g31, .ref g32, .ref g33])), (g1, .inl (T 0, 282, .inl f_15)), (g15, .inl (T 0, 10, .inl th6))]) rfl dX8_goes_222 (fun H locs V => ?_)
                      refine lv_aload_n hx hb dX8_goes_223 rfl (lv_at hl 2 rfl) ?_
                      refine g_get hC V (ci := 8) uwX8 0 rfl rfl 1 (by decide) w_913 rfl rfl dX8_goes_224 ?_
                      refine lv_bipush (v := (nI 74)) hx hb dX8_goes_227 (by decide +kernel) ?_
                      refine lv_iload hx hb dX8_goes_229 (lv_at hl 0 rfl) ?_
                      refine lv_iadd hx hb dX8_goes_231 ?_
                      refine g_vi (y := (nI (74 + k100))) (nI_add _ _) ?_
                      refine lv_dup2_11 hx hb dX8_goes_232 rfl rfl ?_
                      refine g_iald hC V 1 rfl (vp_in_nI (by omega) (by omega)) (v := (f_15 (74 + k100))) (congrArg _ (nI_clamp (by omega))) dX8_goes_233 ?_
                      refine lv_iconst (v := (nI 1)) hx hb dX8_goes_234 (by decide +kernel) ?_
                      refine lv_iadd hx hb dX8_goes_235 ?_
                      obtain ⟨f_16, ef_16⟩ : ∃ x, x = upd f_15 (74 + k100) ((f_15 (74 + k100)) + (nI 1)) := ⟨_, rfl⟩
                      have hf_16 : MS n fa f_16 := by rw [ef_16]; exact ms_st (by assumption) (by omega) (by omega) (by intros; first | (exfalso; omega) | assumption) (by intros; first | (exfalso; omega) | assumption) (by intros; first | (exfalso; omega) | assumption) (by intros; first | (exfalso; omega) | assumption) (by intros; first | (exfalso; omega) | assumption) (by intros; first | (exfalso; omega) | assumption) (by intros; first | (exfalso; omega) | assumption)
                      refine g_iast hC V 1 rfl (vp_in_nI (by omega) (by omega)) (f' := f_16) (by rw [nI_clamp (by omega)]; exact ef_16.symm) (ws' := [(o, .inr (8, [.int w0, .ref g1, .ref g2, .ref g3, .ref g4, .int (nI tp), .int w6, .int w7, .int w8, .int w9, .int w10, .int w11, .int w12, .int w13, .int w14, .ref g15, .int bv, .ref g17, .int w18, .int w19, .ref g20, .int w21, .ref g22, .ref g23, .ref g24, .int w25, .int w26, .int w27, .ref g28, .ref g29, .int w30, .ref g31, .ref g32, .ref g33])), (g1, .inl (T 0, 282, .inl f_16)), (g15, .inl (T 0, 10, .inl th6))]) rfl dX8_goes_236 (fun H locs V => ?_)
                      refine lv_aload_n hx hb dX8_goes_237 rfl (lv_at hl 2 rfl) ?_
                      refine lv_dup hx hb dX8_goes_238 rfl ?_
                      refine g_get hC V (ci := 8) uwX8 0 rfl rfl 16 (by decide) w_928 rfl rfl dX8_goes_239 ?_
                      refine lv_iconst (v := (nI 1)) hx hb dX8_goes_242 (by decide +kernel) ?_
                      refine lv_iadd hx hb dX8_goes_243 ?_
                      refine g_put hC V (ci := 8) uwX8 tyX8 tyX8_ok nmX8 0 rfl rfl 16 (by decide) w_928 rfl rfl rfl rfl (Nat.le_of_ble_eq_true rfl) (ws' := [(o, .inr (8, [.int w0, .ref g1, .ref g2, .ref g3, .ref g4, .int (nI tp), .int w6, .int w7, .int w8, .int w9, .int w10, .int w11, .int w12, .int w13, .int w14, .ref g15, .int (bv + (nI 1)), .ref g17, .int w18, .int w19, .ref g20, .int w21, .ref g22, .ref g23, .ref g24, .int w25, .int w26, .int w27, .ref g28, .ref g29, .int w30, .ref g31, .ref g32, .ref g33])), (g1, .inl (T 0, 282, .inl f_16)), (g15, .inl (T 0, 10, .inl th6))]) rfl dX8_goes_244 (fun H locs V => ?_)
                      refine lv_iinc (v := (nI (k100 + 1))) (lv' := [(6, .int (nI (k100 + 1))), (5, .int x6_5), (0, .ref o), (1, .int pl), (2, .int sk), (3, .int fi), (4, .int mr)]) hx hb dX8_goes_247 hl (k := 0) rfl (nI_1 _) (by decide) rfl (fun ls hl => ?_)
                      refine lv_goto (tgt := 100) hx hb dX8_goes_250 (by decide) ?_
                      exact ih_100 (k100 + 1) (bv + (nI 1)) f_16 (by omega) (by assumption) (by omega) _ _ _ V (lv_sub hl [0, 1, 2, 3, 4, 5, 6] rfl)
                    · skip
                      have c_14 := b_nle (by omega) (by omega) c_14
                      refine lv_aload_n hx hb dX8_goes_201 rfl (lv_at hl 2 rfl) ?_
                      refine g_get hC V (ci := 8) uwX8 0 rfl rfl 1 (by decide) w_913 rfl rfl dX8_goes_202 ?_
                      refine lv_bipush (v := (nI 64)) hx hb dX8_goes_205 (by decide +kernel) ?_
                      refine lv_iload hx hb dX8_goes_207 (lv_at hl 0 rfl) ?_
                      refine lv_iadd hx hb dX8_goes_209 ?_
                      refine g_vi (y := (nI (64 + k100))) (nI_add _ _) ?_
                      refine g_iald hC V 1 rfl (vp_in_nI (by omega) (by omega)) (v := (nI j_10)) (by rw [nI_clamp (by omega)]; exact ej_10) dX8_goes_210 ?_
                      refine lv_aload_n hx hb dX8_goes_211 rfl (lv_at hl 2 rfl) ?_
                      refine g_get hC V (ci := 8) uwX8 0 rfl rfl 1 (by decide) w_913 rfl rfl dX8_goes_212 ?_
                      refine lv_iconst (v := (nI 2)) hx hb dX8_goes_215 (by decide +kernel) ?_
                      refine g_iald hC V 1 rfl (vp_in_nI (by decide) (by decide)) (v := (nI j_13)) (by rw [nI_clamp (by omega)]; exact ej_13) dX8_goes_216 ?_
                      refine lv_isub hx hb dX8_goes_217 ?_
                      refine g_vi (y := (nI (j_10 - j_13))) (nI_sub (by omega)) ?_
                      refine lv_goto (tgt := 222) hx hb dX8_goes_218 (by decide) ?_
                      obtain ⟨f_17, ef_17⟩ : ∃ x, x = upd f_7 (64 + k100) (nI (j_10 - j_13)) := ⟨_, rfl⟩
                      have hf_17 : MS n fa f_17 := by rw [ef_17]; exact ms_st (by assumption) (by omega) (by omega) (by intros; first | (exfalso; omega) | exact bd_nI (by omega) | exact bd_le ‹bd (nI (j_10 - j_13)) _› (by omega) | assumption) (by intros; first | (exfalso; omega) | exact bd_nI (by omega) | exact bd_le ‹bd (nI (j_10 - j_13)) _› (by omega) | assumption) (by intros; first | (exfalso; omega) | exact bd_nI (by omega) | exact bd_le ‹bd (nI (j_10 - j_13)) _› (by omega) | assumption) (by intros; first | (exfalso; omega) | exact bd_nI (by omega) | exact bd_le ‹bd (nI (j_10 - j_13)) _› (by omega) | assumption) (by intros; first | (exfalso; omega) | exact bd_nI (by omega) | exact bd_le ‹bd (nI (j_10 - j_13)) _› (by omega) | assumption) (by intros; first | (exfalso; omega) | exact bd_nI (by omega) | exact bd_le ‹bd (nI (j_10 - j_13)) _› (by omega) | assumption) (by intros; first | (exfalso; omega) | exact bd_nI (by omega) | exact bd_le ‹bd (nI (j_10 - j_13)) _› (by omega) | assumption)
                      refine g_iast hC V 1 rfl (vp_in_nI (by omega) (by omega)) (f' := f_17) (by rw [nI_clamp (by omega)]; exact ef_17.symm) (ws' := [(o, .inr (8, [.int w0, .ref g1, .ref g2, .ref g3, .ref g4, .int (nI tp), .int w6, .int w7, .int w8, .int w9, .int w10, .int w11, .int w12, .int w13, .int w14, .ref g15, .int bv, .ref g17, .int w18, .int w19, .ref g20, .int w21, .ref g22, .ref g23, .ref g24, .int w25, .int w26, .int w27, .ref g28, .ref g29, .int w30, .ref g31, .ref g32, .ref g33])), (g1, .inl (T 0, 282, .inl f_17)), (g15, .inl (T 0, 10, .inl th6))]) rfl dX8_goes_222 (fun H locs V => ?_)
                      refine lv_aload_n hx hb dX8_goes_223 rfl (lv_at hl 2 rfl) ?_
                      refine g_get hC V (ci := 8) uwX8 0 rfl rfl 1 (by decide) w_913 rfl rfl dX8_goes_224 ?_
                      refine lv_bipush (v := (nI 74)) hx hb dX8_goes_227 (by decide +kernel) ?_
                      refine lv_iload hx hb dX8_goes_229 (lv_at hl 0 rfl) ?_
                      refine lv_iadd hx hb dX8_goes_231 ?_
                      refine g_vi (y := (nI (74 + k100))) (nI_add _ _) ?_
                      refine lv_dup2_11 hx hb dX8_goes_232 rfl rfl ?_
                      refine g_iald hC V 1 rfl (vp_in_nI (by omega) (by omega)) (v := (f_17 (74 + k100))) (congrArg _ (nI_clamp (by omega))) dX8_goes_233 ?_
                      refine lv_iconst (v := (nI 1)) hx hb dX8_goes_234 (by decide +kernel) ?_
                      refine lv_iadd hx hb dX8_goes_235 ?_
                      obtain ⟨f_18, ef_18⟩ : ∃ x, x = upd f_17 (74 + k100) ((f_17 (74 + k100)) + (nI 1)) := ⟨_, rfl⟩
                      have hf_18 : MS n fa f_18 := by rw [ef_18]; exact ms_st (by assumption) (by omega) (by omega) (by intros; first | (exfalso; omega) | assumption) (by intros; first | (exfalso; omega) | assumption) (by intros; first | (exfalso; omega) | assumption) (by intros; first | (exfalso; omega) | assumption) (by intros; first | (exfalso; omega) | assumption) (by intros; first | (exfalso; omega) | assumption) (by intros; first | (exfalso; omega) | assumption)
                      refine g_iast hC V 1 rfl (vp_in_nI (by omega) (by omega)) (f' := f_18) (by rw [nI_clamp (by omega)]; exact ef_18.symm) (ws' := [(o, .inr (8, [.int w0, .ref g1, .ref g2, .ref g3, .ref g4, .int (nI tp), .int w6, .int w7, .int w8, .int w9, .int w10, .int w11, .int w12, .int w13, .int w14, .ref g15, .int bv, .ref g17, .int w18, .int w19, .ref g20, .int w21, .ref g22, .ref g23, .ref g24, .int w25, .int w26, .int w27, .ref g28, .ref g29, .int w30, .ref g31, .ref g32, .ref g33])), (g1, .inl (T 0, 282, .inl f_18)), (g15, .inl (T 0, 10, .inl th6))]) rfl dX8_goes_236 (fun H locs V => ?_)
                      refine lv_aload_n hx hb dX8_goes_237 rfl (lv_at hl 2 rfl) ?_
                      refine lv_dup hx hb dX8_goes_238 rfl ?_
                      refine g_get hC V (ci := 8) uwX8 0 rfl rfl 16 (by decide) w_928 rfl rfl dX8_goes_239 ?_
                      refine lv_iconst (v := (nI 1)) hx hb dX8_goes_242 (by decide +kernel) ?_
                      refine lv_iadd hx hb dX8_goes_243 ?_
                      refine g_put hC V (ci := 8) uwX8 tyX8 tyX8_ok nmX8 0 rfl rfl 16 (by decide) w_928 rfl rfl rfl rfl (Nat.le_of_ble_eq_true rfl) (ws' := [(o, .inr (8, [.int w0, .ref g1, .ref g2, .ref g3, .ref g4, .int (nI tp), .int w6, .int w7, .int w8, .int w9, .int w10, .int w11, .int w12, .int w13, .int w14, .ref g15, .int (bv + (nI 1)), .ref g17, .int w18, .int w19, .ref g20, .int w21, .ref g22, .ref g23, .ref g24, .int w25, .int w26, .int w27, .ref g28, .ref g29, .int w30, .ref g31, .ref g32, .ref g33])), (g1, .inl (T 0, 282, .inl f_18)), (g15, .inl (T 0, 10, .inl th6))]) rfl dX8_goes_244 (fun H locs V => ?_)
                      refine lv_iinc (v := (nI (k100 + 1))) (lv' := [(6, .int (nI (k100 + 1))), (5, .int x6_5), (0, .ref o), (1, .int pl), (2, .int sk), (3, .int fi), (4, .int mr)]) hx hb dX8_goes_247 hl (k := 0) rfl (nI_1 _) (by decide) rfl (fun ls hl => ?_)
                      refine lv_goto (tgt := 100) hx hb dX8_goes_250 (by decide) ?_
                      exact ih_100 (k100 + 1) (bv + (nI 1)) f_18 (by omega) (by assumption) (by omega) _ _ _ V (lv_sub hl [0, 1, 2, 3, 4, 5, 6] rfl)
                  · skip
                    refine lv_goto (tgt := 247) hx hb dX8_goes_170 (by decide) ?_
                    refine lv_iinc (v := (nI (k100 + 1))) (lv' := [(6, .int (nI (k100 + 1))), (5, .int x6_5), (0, .ref o), (1, .int pl), (2, .int sk), (3, .int fi), (4, .int mr)]) hx hb dX8_goes_247 hl (k := 0) rfl (nI_1 _) (by decide) rfl (fun ls hl => ?_)
                    refine lv_goto (tgt := 100) hx hb dX8_goes_250 (by decide) ?_
                    exact ih_100 (k100 + 1) bv f_7 (by omega) (by assumption) (by omega) _ _ _ V (lv_sub hl [0, 1, 2, 3, 4, 5, 6] rfl)
        exact L_3 _ 0 w16 f6 (by omega) (by assumption) (Nat.lt_succ_self _) _ _ _ V (lv_sub hl [0, 1, 2, 3, 4, 5, 6] rfl)
      · skip
        have c_2 := b_nle (by omega) (by omega) c_2
        refine lv_aload_n hx hb dX8_goes_17 rfl (lv_at hl 2 rfl) ?_
        refine g_get hC V (ci := 8) uwX8 0 rfl rfl 15 (by decide) w_927 rfl rfl dX8_goes_18 ?_
        refine lv_iload hx hb dX8_goes_21 (lv_at hl 0 rfl) ?_
        refine lv_aload_n hx hb dX8_goes_23 rfl (lv_at hl 2 rfl) ?_
        refine lv_iload hx hb dX8_goes_24 (lv_at hl 0 rfl) ?_
        refine lv_iload_n hx hb dX8_goes_26 rfl (lv_at hl 3 rfl) ?_
        refine lv_iload hx hb dX8_goes_27 (lv_at hl 0 rfl) ?_
        refine lv_iload_n hx hb dX8_goes_29 rfl (lv_at hl 5 rfl) ?_
        refine lv_icmp_ne (tgt := 38) hx hb dX8_goes_30 (by decide) (fun c_19 => ?_) (fun c_19 => ?_)
        · skip
          refine lv_iconst (v := (nI 0)) hx hb dX8_goes_38 (by decide +kernel) ?_
          refine g_callVU (nA := 3) hC V hl.1 (m_heatThen l D T n o k6 pl (nI 0) w0 g1 g2 g3 g4 tp w6 w7 w8 w9 w10 w11 w12 w13 w14 g15 w16 g17 w18 w19 g20 w21 g22 g23 g24 w25 w26 w27 g28 g29 w30 g31 g32 g33 f6 hf6.1 (by first | assumption | omega)) w_1126 w_1128 w_s51 w_9 w_1129 (by decide +kernel) rfl ⟨(Nat.le_of_ble_eq_true rfl), (Nat.le_of_ble_eq_true rfl)⟩ 0 (ci := 8) rfl rfl [0, 1] rfl rfl (Nat.le_of_ble_eq_true rfl) dX8_goes_39 ⟨(Nat.le_of_ble_eq_true rfl), (Nat.le_of_ble_eq_true rfl)⟩ rfl (fun r w1 H locs hQ V => ?_)
          obtain ⟨z_20, rfl, rfl, f_21⟩ := hQ
          have V : gW D T A s [(o, .inr (8, [.int w0, .ref g1, .ref g2, .ref g3, .ref g4, .int (nI tp), .int w6, .int w7, .int w8, .int w9, .int w10, .int w11, .int w12, .int w13, .int w14, .ref g15, .int w16, .ref g17, .int w18, .int w19, .ref g20, .int w21, .ref g22, .ref g23, .ref g24, .int w25, .int w26, .int w27, .ref g28, .ref g29, .int w30, .ref g31, .ref g32, .ref g33])), (g1, .inl (T 0, 282, .inl f6)), (g15, .inl (T 0, 10, .inl th6))] H locs := V _ [0, 0] rfl rfl rfl (by decide +kernel) rfl
          show W p l e _ s m args below meth c H locs _ _ _ (F0 m 42 ls [.int z_20, .int (nI k6), .ref g15])
          refine g_iast hC V 2 rfl (vp_in_nI (by omega) (by omega)) (f' := (upd th6 k6 z_20)) (by rw [nI_clamp (by omega)]) (ws' := [(o, .inr (8, [.int w0, .ref g1, .ref g2, .ref g3, .ref g4, .int (nI tp), .int w6, .int w7, .int w8, .int w9, .int w10, .int w11, .int w12, .int w13, .int w14, .ref g15, .int w16, .ref g17, .int w18, .int w19, .ref g20, .int w21, .ref g22, .ref g23, .ref g24, .int w25, .int w26, .int w27, .ref g28, .ref g29, .int w30, .ref g31, .ref g32, .ref g33])), (g1, .inl (T 0, 282, .inl f6)), (g15, .inl (T 0, 10, .inl (upd th6 k6 z_20)))]) rfl dX8_goes_42 (fun H locs V => ?_)
          refine lv_iload_n hx hb dX8_goes_43 rfl (lv_at hl 4 rfl) ?_
          refine lv_i2l (v := sk.toInt64) hx hb dX8_goes_44 rfl ?_
          refine lv_iload hx hb dX8_goes_45 (lv_at hl 0 rfl) ?_
          refine g_callSU (nA := 2) hC V hl.1 (m_isIn l D T sk.toInt64 (nI k6)) w_1130 w_1131 w_9 w_1132 (by decide +kernel) rfl ⟨(Nat.le_of_ble_eq_true rfl), (Nat.le_of_ble_eq_true rfl)⟩ [] rfl rfl (Nat.le_of_ble_eq_true rfl) dX8_goes_47 ⟨(Nat.le_of_ble_eq_true rfl), (Nat.le_of_ble_eq_true rfl)⟩ rfl (fun r w1 H locs hQ V => ?_)
          rcases hQ with ⟨rfl, rfl⟩ | ⟨rfl, rfl⟩
          · have V : gW D T A s [(o, .inr (8, [.int w0, .ref g1, .ref g2, .ref g3, .ref g4, .int (nI tp), .int w6, .int w7, .int w8, .int w9, .int w10, .int w11, .int w12, .int w13, .int w14, .ref g15, .int w16, .ref g17, .int w18, .int w19, .ref g20, .int w21, .ref g22, .ref g23, .ref g24, .int w25, .int w26, .int w27, .ref g28, .ref g29, .int w30, .ref g31, .ref g32, .ref g33])), (g1, .inl (T 0, 282, .inl f6)), (g15, .inl (T 0, 10, .inl (upd th6 k6 z_20)))] H locs := V _ [] rfl rfl rfl (by decide +kernel) rfl
            show W p l e _ s m args below meth c H locs _ _ _ (F0 m 50 ls [.int (nI 1)])
            refine lv_if_eq (tgt := 91) hx hb dX8_goes_50 (by decide) (fun c => absurd (show (nI 1) = 0 from c) (by decide +kernel)) (fun _ => ?_)
            refine lv_aload_n hx hb dX8_goes_53 rfl (lv_at hl 2 rfl) ?_
            refine lv_iload hx hb dX8_goes_54 (lv_at hl 0 rfl) ?_
            refine g_callVU (nA := 1) hC V hl.1 (m_isDone l D T o k6 w0 g1 g2 g3 g4 tp w6 w7 w8 w9 w10 w11 w12 w13 w14 g15 w16 g17 w18 w19 g20 w21 g22 g23 g24 w25 w26 w27 g28 g29 w30 g31 g32 g33 f6 (by first | assumption | omega)) w_1088 w_1090 w_s47 w_9 w_1091 (by decide +kernel) rfl ⟨(Nat.le_of_ble_eq_true rfl), (Nat.le_of_ble_eq_true rfl)⟩ 0 (ci := 8) rfl rfl [0, 1] rfl rfl (Nat.le_of_ble_eq_true rfl) dX8_goes_56 ⟨(Nat.le_of_ble_eq_true rfl), (Nat.le_of_ble_eq_true rfl)⟩ rfl (fun r w1 H locs hQ V => ?_)
            rcases hQ with ⟨rfl, rfl, f_22⟩ | ⟨rfl, rfl, f_23⟩
            · have V : gW D T A s [(o, .inr (8, [.int w0, .ref g1, .ref g2, .ref g3, .ref g4, .int (nI tp), .int w6, .int w7, .int w8, .int w9, .int w10, .int w11, .int w12, .int w13, .int w14, .ref g15, .int w16, .ref g17, .int w18, .int w19, .ref g20, .int w21, .ref g22, .ref g23, .ref g24, .int w25, .int w26, .int w27, .ref g28, .ref g29, .int w30, .ref g31, .ref g32, .ref g33])), (g1, .inl (T 0, 282, .inl f6)), (g15, .inl (T 0, 10, .inl (upd th6 k6 z_20)))] H locs := V _ [0, 0] rfl rfl rfl (by decide +kernel) rfl
              show W p l e _ s m args below meth c H locs _ _ _ (F0 m 59 ls [.int (nI 1)])
              refine lv_if_ne (tgt := 91) hx hb dX8_goes_59 (by decide) (fun _ => ?_) (fun c => absurd (show (nI 1) = 0 from c) (by decide +kernel))
              refine lv_iinc (v := (nI (k6 + 1))) (lv' := [(6, .int (nI (k6 + 1))), (5, .int x6_5), (0, .ref o), (1, .int pl), (2, .int sk), (3, .int fi), (4, .int mr)]) hx hb dX8_goes_91 hl (k := 0) rfl (nI_1 _) (by decide) rfl (fun ls hl => ?_)
              refine lv_goto (tgt := 6) hx hb dX8_goes_94 (by decide) ?_
              exact ih_6 (k6 + 1) x6_5 (upd th6 k6 z_20) f6 (by omega) (by assumption) (up_one (p := fun _ x => bd x 201) hth6 (by assumption)) (by omega) _ _ _ V (lv_sub hl [0, 1, 2, 3, 4, 5, 6] rfl)
            · have V : gW D T A s [(o, .inr (8, [.int w0, .ref g1, .ref g2, .ref g3, .ref g4, .int (nI tp), .int w6, .int w7, .int w8, .int w9, .int w10, .int w11, .int w12, .int w13, .int w14, .ref g15, .int w16, .ref g17, .int w18, .int w19, .ref g20, .int w21, .ref g22, .ref g23, .ref g24, .int w25, .int w26, .int w27, .ref g28, .ref g29, .int w30, .ref g31, .ref g32, .ref g33])), (g1, .inl (T 0, 282, .inl f6)), (g15, .inl (T 0, 10, .inl (upd th6 k6 z_20)))] H locs := V _ [0, 0] rfl rfl rfl (by decide +kernel) rfl
              show W p l e _ s m args below meth c H locs _ _ _ (F0 m 59 ls [.int (nI 0)])
              refine lv_if_ne (tgt := 91) hx hb dX8_goes_59 (by decide) (fun c => absurd (show (nI 0) = 0 by decide +kernel) c) (fun _ => ?_)
              refine lv_aload_n hx hb dX8_goes_62 rfl (lv_at hl 2 rfl) ?_
              refine lv_iload hx hb dX8_goes_63 (lv_at hl 0 rfl) ?_
              refine g_callVU (nA := 1) hC V hl.1 (m_isWarm l D T o k6 w0 g1 g2 g3 g4 tp w6 w7 w8 w9 w10 w11 w12 w13 w14 g15 w16 g17 w18 w19 g20 w21 g22 g23 g24 w25 w26 w27 g28 g29 w30 g31 g32 g33 f6 (by first | assumption | omega)) w_1136 w_1138 w_s52 w_9 w_1139 (by decide +kernel) rfl ⟨(Nat.le_of_ble_eq_true rfl), (Nat.le_of_ble_eq_true rfl)⟩ 0 (ci := 8) rfl rfl [0, 1] rfl rfl (Nat.le_of_ble_eq_true rfl) dX8_goes_65 ⟨(Nat.le_of_ble_eq_true rfl), (Nat.le_of_ble_eq_true rfl)⟩ rfl (fun r w1 H locs hQ V => ?_)
              rcases hQ with ⟨rfl, rfl⟩ | ⟨rfl, rfl⟩
              · have V : gW D T A s [(o, .inr (8, [.int w0, .ref g1, .ref g2, .ref g3, .ref g4, .int (nI tp), .int w6, .int w7, .int w8, .int w9, .int w10, .int w11, .int w12, .int w13, .int w14, .ref g15, .int w16, .ref g17, .int w18, .int w19, .ref g20, .int w21, .ref g22, .ref g23, .ref g24, .int w25, .int w26, .int w27, .ref g28, .ref g29, .int w30, .ref g31, .ref g32, .ref g33])), (g1, .inl (T 0, 282, .inl f6)), (g15, .inl (T 0, 10, .inl (upd th6 k6 z_20)))] H locs := V _ [0, 0] rfl rfl rfl (by decide +kernel) rfl
                show W p l e _ s m args below meth c H locs _ _ _ (F0 m 68 ls [.int (nI 1)])
                refine lv_if_ne (tgt := 74) hx hb dX8_goes_68 (by decide) (fun _ => ?_) (fun c => absurd (show (nI 1) = 0 from c) (by decide +kernel))
                refine lv_aload_n hx hb dX8_goes_74 rfl (lv_at hl 2 rfl) ?_
                refine g_get hC V (ci := 8) uwX8 0 rfl rfl 1 (by decide) w_913 rfl rfl dX8_goes_75 ?_
                refine lv_bipush (v := (nI 64)) hx hb dX8_goes_78 (by decide +kernel) ?_
                refine lv_iload hx hb dX8_goes_80 (lv_at hl 0 rfl) ?_
                refine lv_iadd hx hb dX8_goes_82 ?_
                refine g_vi (y := (nI (64 + k6))) (nI_add _ _) ?_
                refine lv_dup2_11 hx hb dX8_goes_83 rfl rfl ?_
                obtain ⟨j_24, hj_24, ej_24⟩ := bd_ex (mi_has hf6.1 (i := k6) (by omega))
                refine g_iald hC V 1 rfl (vp_in_nI (by omega) (by omega)) (v := (nI j_24)) (by rw [nI_clamp (by omega)]; exact ej_24) dX8_goes_84 ?_
                refine lv_iconst (v := (nI 1)) hx hb dX8_goes_85 (by decide +kernel) ?_
                refine lv_iadd hx hb dX8_goes_86 ?_
                refine g_vi (y := (nI (j_24 + 1))) (nI_add _ _) ?_
                have hlt := bd_lt (mi_has hf6.1 (i := k6) (by omega)) (by decide) (mi_need hf6.1 (i := k6) (by omega)) (by decide) (by assumption) ej_24 (by omega)
                obtain ⟨f_25, ef_25⟩ : ∃ x, x = upd f6 (64 + k6) (nI (j_24 + 1)) := ⟨_, rfl⟩
                have hf_25 : MS n fa f_25 := by rw [ef_25]; exact ms_st (by assumption) (by omega) (by omega) (by intros; first | (exfalso; omega) | exact bd_nI (by omega) | exact bd_le ‹bd (nI (j_24 + 1)) _› (by omega) | assumption) (by intros; first | (exfalso; omega) | exact bd_nI (by omega) | exact bd_le ‹bd (nI (j_24 + 1)) _› (by omega) | assumption) (by intros; first | (exfalso; omega) | exact bd_nI (by omega) | exact bd_le ‹bd (nI (j_24 + 1)) _› (by omega) | assumption) (by intros; first | (exfalso; omega) | exact bd_nI (by omega) | exact bd_le ‹bd (nI (j_24 + 1)) _› (by omega) | assumption) (by intros; first | (exfalso; omega) | exact bd_nI (by omega) | exact bd_le ‹bd (nI (j_24 + 1)) _› (by omega) | assumption) (by intros; first | (exfalso; omega) | exact bd_nI (by omega) | exact bd_le ‹bd (nI (j_24 + 1)) _› (by omega) | assumption) (by intros; first | (exfalso; omega) | exact bd_nI (by omega) | exact bd_le ‹bd (nI (j_24 + 1)) _› (by omega) | assumption)
                refine g_iast hC V 1 rfl (vp_in_nI (by omega) (by omega)) (f' := f_25) (by rw [nI_clamp (by omega)]; exact ef_25.symm) (ws' := [(o, .inr (8, [.int w0, .ref g1, .ref g2, .ref g3, .ref g4, .int (nI tp), .int w6, .int w7, .int w8, .int w9, .int w10, .int w11, .int w12, .int w13, .int w14, .ref g15, .int w16, .ref g17, .int w18, .int w19, .ref g20, .int w21, .ref g22, .ref g23, .ref g24, .int w25, .int w26, .int w27, .ref g28, .ref g29, .int w30, .ref g31, .ref g32, .ref g33])), (g1, .inl (T 0, 282, .inl f_25)), (g15, .inl (T 0, 10, .inl (upd th6 k6 z_20)))]) rfl dX8_goes_87 (fun H locs V => ?_)
                refine lv_iinc (v := (x6_5 + 1)) (lv' := [(5, .int (x6_5 + 1)), (6, .int (nI k6)), (0, .ref o), (1, .int pl), (2, .int sk), (3, .int fi), (4, .int mr)]) hx hb dX8_goes_88 hl (k := 1) rfl rfl (by decide) rfl (fun ls hl => ?_)
                refine lv_iinc (v := (nI (k6 + 1))) (lv' := [(6, .int (nI (k6 + 1))), (5, .int (x6_5 + 1)), (0, .ref o), (1, .int pl), (2, .int sk), (3, .int fi), (4, .int mr)]) hx hb dX8_goes_91 hl (k := 1) rfl (nI_1 _) (by decide) rfl (fun ls hl => ?_)
                refine lv_goto (tgt := 6) hx hb dX8_goes_94 (by decide) ?_
                exact ih_6 (k6 + 1) (x6_5 + 1) (upd th6 k6 z_20) f_25 (by omega) (by assumption) (up_one (p := fun _ x => bd x 201) hth6 (by assumption)) (by omega) _ _ _ V (lv_sub hl [0, 1, 2, 3, 4, 5, 6] rfl)
              · have V : gW D T A s [(o, .inr (8, [.int w0, .ref g1, .ref g2, .ref g3, .ref g4, .int (nI tp), .int w6, .int w7, .int w8, .int w9, .int w10, .int w11, .int w12, .int w13, .int w14, .ref g15, .int w16, .ref g17, .int w18, .int w19, .ref g20, .int w21, .ref g22, .ref g23, .ref g24, .int w25, .int w26, .int w27, .ref g28, .ref g29, .int w30, .ref g31, .ref g32, .ref g33])), (g1, .inl (T 0, 282, .inl f6)), (g15, .inl (T 0, 10, .inl (upd th6 k6 z_20)))] H locs := V _ [0, 0] rfl rfl rfl (by decide +kernel) rfl
                show W p l e _ s m args below meth c H locs _ _ _ (F0 m 68 ls [.int (nI 0)])
                refine lv_if_ne (tgt := 74) hx hb dX8_goes_68 (by decide) (fun c => absurd (show (nI 0) = 0 by decide +kernel) c) (fun _ => ?_)
                refine lv_goto (tgt := 91) hx hb dX8_goes_71 (by decide) ?_
                refine lv_iinc (v := (nI (k6 + 1))) (lv' := [(6, .int (nI (k6 + 1))), (5, .int x6_5), (0, .ref o), (1, .int pl), (2, .int sk), (3, .int fi), (4, .int mr)]) hx hb dX8_goes_91 hl (k := 0) rfl (nI_1 _) (by decide) rfl (fun ls hl => ?_)
                refine lv_goto (tgt := 6) hx hb dX8_goes_94 (by decide) ?_
                exact ih_6 (k6 + 1) x6_5 (upd th6 k6 z_20) f6 (by omega) (by assumption) (up_one (p := fun _ x => bd x 201) hth6 (by assumption)) (by omega) _ _ _ V (lv_sub hl [0, 1, 2, 3, 4, 5, 6] rfl)
          · have V : gW D T A s [(o, .inr (8, [.int w0, .ref g1, .ref g2, .ref g3, .ref g4, .int (nI tp), .int w6, .int w7, .int w8, .int w9, .int w10, .int w11, .int w12, .int w13, .int w14, .ref g15, .int w16, .ref g17, .int w18, .int w19, .ref g20, .int w21, .ref g22, .ref g23, .ref g24, .int w25, .int w26, .int w27, .ref g28, .ref g29, .int w30, .ref g31, .ref g32, .ref g33])), (g1, .inl (T 0, 282, .inl f6)), (g15, .inl (T 0, 10, .inl (upd th6 k6 z_20)))] H locs := V _ [] rfl rfl rfl (by decide +kernel) rfl
            show W p l e _ s m args below meth c H locs _ _ _ (F0 m 50 ls [.int (nI 0)])
            refine lv_if_eq (tgt := 91) hx hb dX8_goes_50 (by decide) (fun _ => ?_) (fun c => absurd (show (nI 0) = 0 by decide +kernel) c)
            refine lv_iinc (v := (nI (k6 + 1))) (lv' := [(6, .int (nI (k6 + 1))), (5, .int x6_5), (0, .ref o), (1, .int pl), (2, .int sk), (3, .int fi), (4, .int mr)]) hx hb dX8_goes_91 hl (k := 0) rfl (nI_1 _) (by decide) rfl (fun ls hl => ?_)
            refine lv_goto (tgt := 6) hx hb dX8_goes_94 (by decide) ?_
            exact ih_6 (k6 + 1) x6_5 (upd th6 k6 z_20) f6 (by omega) (by assumption) (up_one (p := fun _ x => bd x 201) hth6 (by assumption)) (by omega) _ _ _ V (lv_sub hl [0, 1, 2, 3, 4, 5, 6] rfl)
        · skip
          refine lv_iload hx hb dX8_goes_33 (lv_at hl 6 rfl) ?_
          refine lv_goto (tgt := 39) hx hb dX8_goes_35 (by decide) ?_
          refine g_callVU (nA := 3) hC V hl.1 (m_heatThen l D T n o k6 pl mr w0 g1 g2 g3 g4 tp w6 w7 w8 w9 w10 w11 w12 w13 w14 g15 w16 g17 w18 w19 g20 w21 g22 g23 g24 w25 w26 w27 g28 g29 w30 g31 g32 g33 f6 hf6.1 (by first | assumption | omega)) w_1126 w_1128 w_s51 w_9 w_1129 (by decide +kernel) rfl ⟨(Nat.le_of_ble_eq_true rfl), (Nat.le_of_ble_eq_true rfl)⟩ 0 (ci := 8) rfl rfl [0, 1] rfl rfl (Nat.le_of_ble_eq_true rfl) dX8_goes_39 ⟨(Nat.le_of_ble_eq_true rfl), (Nat.le_of_ble_eq_true rfl)⟩ rfl (fun r w1 H locs hQ V => ?_)
          obtain ⟨z_26, rfl, rfl, f_27⟩ := hQ
          have V : gW D T A s [(o, .inr (8, [.int w0, .ref g1, .ref g2, .ref g3, .ref g4, .int (nI tp), .int w6, .int w7, .int w8, .int w9, .int w10, .int w11, .int w12, .int w13, .int w14, .ref g15, .int w16, .ref g17, .int w18, .int w19, .ref g20, .int w21, .ref g22, .ref g23, .ref g24, .int w25, .int w26, .int w27, .ref g28, .ref g29, .int w30, .ref g31, .ref g32, .ref g33])), (g1, .inl (T 0, 282, .inl f6)), (g15, .inl (T 0, 10, .inl th6))] H locs := V _ [0, 0] rfl rfl rfl (by decide +kernel) rfl
          show W p l e _ s m args below meth c H locs _ _ _ (F0 m 42 ls [.int z_26, .int (nI k6), .ref g15])
          refine g_iast hC V 2 rfl (vp_in_nI (by omega) (by omega)) (f' := (upd th6 k6 z_26)) (by rw [nI_clamp (by omega)]) (ws' := [(o, .inr (8, [.int w0, .ref g1, .ref g2, .ref g3, .ref g4, .int (nI tp), .int w6, .int w7, .int w8, .int w9, .int w10, .int w11, .int w12, .int w13, .int w14, .ref g15, .int w16, .ref g17, .int w18, .int w19, .ref g20, .int w21, .ref g22, .ref g23, .ref g24, .int w25, .int w26, .int w27, .ref g28, .ref g29, .int w30, .ref g31, .ref g32, .ref g33])), (g1, .inl (T 0, 282, .inl f6)), (g15, .inl (T 0, 10, .inl (upd th6 k6 z_26)))]) rfl dX8_goes_42 (fun H locs V => ?_)
          refine lv_iload_n hx hb dX8_goes_43 rfl (lv_at hl 4 rfl) ?_
          refine lv_i2l (v := sk.toInt64) hx hb dX8_goes_44 rfl ?_
          refine lv_iload hx hb dX8_goes_45 (lv_at hl 0 rfl) ?_
          refine g_callSU (nA := 2) hC V hl.1 (m_isIn l D T sk.toInt64 (nI k6)) w_1130 w_1131 w_9 w_1132 (by decide +kernel) rfl ⟨(Nat.le_of_ble_eq_true rfl), (Nat.le_of_ble_eq_true rfl)⟩ [] rfl rfl (Nat.le_of_ble_eq_true rfl) dX8_goes_47 ⟨(Nat.le_of_ble_eq_true rfl), (Nat.le_of_ble_eq_true rfl)⟩ rfl (fun r w1 H locs hQ V => ?_)
          rcases hQ with ⟨rfl, rfl⟩ | ⟨rfl, rfl⟩
          · have V : gW D T A s [(o, .inr (8, [.int w0, .ref g1, .ref g2, .ref g3, .ref g4, .int (nI tp), .int w6, .int w7, .int w8, .int w9, .int w10, .int w11, .int w12, .int w13, .int w14, .ref g15, .int w16, .ref g17, .int w18, .int w19, .ref g20, .int w21, .ref g22, .ref g23, .ref g24, .int w25, .int w26, .int w27, .ref g28, .ref g29, .int w30, .ref g31, .ref g32, .ref g33])), (g1, .inl (T 0, 282, .inl f6)), (g15, .inl (T 0, 10, .inl (upd th6 k6 z_26)))] H locs := V _ [] rfl rfl rfl (by decide +kernel) rfl
            show W p l e _ s m args below meth c H locs _ _ _ (F0 m 50 ls [.int (nI 1)])
            refine lv_if_eq (tgt := 91) hx hb dX8_goes_50 (by decide) (fun c => absurd (show (nI 1) = 0 from c) (by decide +kernel)) (fun _ => ?_)
            refine lv_aload_n hx hb dX8_goes_53 rfl (lv_at hl 2 rfl) ?_
            refine lv_iload hx hb dX8_goes_54 (lv_at hl 0 rfl) ?_
            refine g_callVU (nA := 1) hC V hl.1 (m_isDone l D T o k6 w0 g1 g2 g3 g4 tp w6 w7 w8 w9 w10 w11 w12 w13 w14 g15 w16 g17 w18 w19 g20 w21 g22 g23 g24 w25 w26 w27 g28 g29 w30 g31 g32 g33 f6 (by first | assumption | omega)) w_1088 w_1090 w_s47 w_9 w_1091 (by decide +kernel) rfl ⟨(Nat.le_of_ble_eq_true rfl), (Nat.le_of_ble_eq_true rfl)⟩ 0 (ci := 8) rfl rfl [0, 1] rfl rfl (Nat.le_of_ble_eq_true rfl) dX8_goes_56 ⟨(Nat.le_of_ble_eq_true rfl), (Nat.le_of_ble_eq_true rfl)⟩ rfl (fun r w1 H locs hQ V => ?_)
            rcases hQ with ⟨rfl, rfl, f_28⟩ | ⟨rfl, rfl, f_29⟩
            · have V : gW D T A s [(o, .inr (8, [.int w0, .ref g1, .ref g2, .ref g3, .ref g4, .int (nI tp), .int w6, .int w7, .int w8, .int w9, .int w10, .int w11, .int w12, .int w13, .int w14, .ref g15, .int w16, .ref g17, .int w18, .int w19, .ref g20, .int w21, .ref g22, .ref g23, .ref g24, .int w25, .int w26, .int w27, .ref g28, .ref g29, .int w30, .ref g31, .ref g32, .ref g33])), (g1, .inl (T 0, 282, .inl f6)), (g15, .inl (T 0, 10, .inl (upd th6 k6 z_26)))] H locs := V _ [0, 0] rfl rfl rfl (by decide +kernel) rfl
              show W p l e _ s m args below meth c H locs _ _ _ (F0 m 59 ls [.int (nI 1)])
              refine lv_if_ne (tgt := 91) hx hb dX8_goes_59 (by decide) (fun _ => ?_) (fun c => absurd (show (nI 1) = 0 from c) (by decide +kernel))
              refine lv_iinc (v := (nI (k6 + 1))) (lv' := [(6, .int (nI (k6 + 1))), (5, .int x6_5), (0, .ref o), (1, .int pl), (2, .int sk), (3, .int fi), (4, .int mr)]) hx hb dX8_goes_91 hl (k := 0) rfl (nI_1 _) (by decide) rfl (fun ls hl => ?_)
              refine lv_goto (tgt := 6) hx hb dX8_goes_94 (by decide) ?_
              exact ih_6 (k6 + 1) x6_5 (upd th6 k6 z_26) f6 (by omega) (by assumption) (up_one (p := fun _ x => bd x 201) hth6 (by assumption)) (by omega) _ _ _ V (lv_sub hl [0, 1, 2, 3, 4, 5, 6] rfl)
            · have V : gW D T A s [(o, .inr (8, [.int w0, .ref g1, .ref g2, .ref g3, .ref g4, .int (nI tp), .int w6, .int w7, .int w8, .int w9, .int w10, .int w11, .int w12, .int w13, .int w14, .ref g15, .int w16, .ref g17, .int w18, .int w19, .ref g20, .int w21, .ref g22, .ref g23, .ref g24, .int w25, .int w26, .int w27, .ref g28, .ref g29, .int w30, .ref g31, .ref g32, .ref g33])), (g1, .inl (T 0, 282, .inl f6)), (g15, .inl (T 0, 10, .inl (upd th6 k6 z_26)))] H locs := V _ [0, 0] rfl rfl rfl (by decide +kernel) rfl
              show W p l e _ s m args below meth c H locs _ _ _ (F0 m 59 ls [.int (nI 0)])
              refine lv_if_ne (tgt := 91) hx hb dX8_goes_59 (by decide) (fun c => absurd (show (nI 0) = 0 by decide +kernel) c) (fun _ => ?_)
              refine lv_aload_n hx hb dX8_goes_62 rfl (lv_at hl 2 rfl) ?_
              refine lv_iload hx hb dX8_goes_63 (lv_at hl 0 rfl) ?_
              refine g_callVU (nA := 1) hC V hl.1 (m_isWarm l D T o k6 w0 g1 g2 g3 g4 tp w6 w7 w8 w9 w10 w11 w12 w13 w14 g15 w16 g17 w18 w19 g20 w21 g22 g23 g24 w25 w26 w27 g28 g29 w30 g31 g32 g33 f6 (by first | assumption | omega)) w_1136 w_1138 w_s52 w_9 w_1139 (by decide +kernel) rfl ⟨(Nat.le_of_ble_eq_true rfl), (Nat.le_of_ble_eq_true rfl)⟩ 0 (ci := 8) rfl rfl [0, 1] rfl rfl (Nat.le_of_ble_eq_true rfl) dX8_goes_65 ⟨(Nat.le_of_ble_eq_true rfl), (Nat.le_of_ble_eq_true rfl)⟩ rfl (fun r w1 H locs hQ V => ?_)
              rcases hQ with ⟨rfl, rfl⟩ | ⟨rfl, rfl⟩
              · have V : gW D T A s [(o, .inr (8, [.int w0, .ref g1, .ref g2, .ref g3, .ref g4, .int (nI tp), .int w6, .int w7, .int w8, .int w9, .int w10, .int w11, .int w12, .int w13, .int w14, .ref g15, .int w16, .ref g17, .int w18, .int w19, .ref g20, .int w21, .ref g22, .ref g23, .ref g24, .int w25, .int w26, .int w27, .ref g28, .ref g29, .int w30, .ref g31, .ref g32, .ref g33])), (g1, .inl (T 0, 282, .inl f6)), (g15, .inl (T 0, 10, .inl (upd th6 k6 z_26)))] H locs := V _ [0, 0] rfl rfl rfl (by decide +kernel) rfl
                show W p l e _ s m args below meth c H locs _ _ _ (F0 m 68 ls [.int (nI 1)])
                refine lv_if_ne (tgt := 74) hx hb dX8_goes_68 (by decide) (fun _ => ?_) (fun c => absurd (show (nI 1) = 0 from c) (by decide +kernel))
                refine lv_aload_n hx hb dX8_goes_74 rfl (lv_at hl 2 rfl) ?_
                refine g_get hC V (ci := 8) uwX8 0 rfl rfl 1 (by decide) w_913 rfl rfl dX8_goes_75 ?_
                refine lv_bipush (v := (nI 64)) hx hb dX8_goes_78 (by decide +kernel) ?_
                refine lv_iload hx hb dX8_goes_80 (lv_at hl 0 rfl) ?_
                refine lv_iadd hx hb dX8_goes_82 ?_
                refine g_vi (y := (nI (64 + k6))) (nI_add _ _) ?_
                refine lv_dup2_11 hx hb dX8_goes_83 rfl rfl ?_
                obtain ⟨j_30, hj_30, ej_30⟩ := bd_ex (mi_has hf6.1 (i := k6) (by omega))
                refine g_iald hC V 1 rfl (vp_in_nI (by omega) (by omega)) (v := (nI j_30)) (by rw [nI_clamp (by omega)]; exact ej_30) dX8_goes_84 ?_
                refine lv_iconst (v := (nI 1)) hx hb dX8_goes_85 (by decide +kernel) ?_
                refine lv_iadd hx hb dX8_goes_86 ?_
                refine g_vi (y := (nI (j_30 + 1))) (nI_add _ _) ?_
                have hlt := bd_lt (mi_has hf6.1 (i := k6) (by omega)) (by decide) (mi_need hf6.1 (i := k6) (by omega)) (by decide) (by assumption) ej_30 (by omega)
                obtain ⟨f_31, ef_31⟩ : ∃ x, x = upd f6 (64 + k6) (nI (j_30 + 1)) := ⟨_, rfl⟩
                have hf_31 : MS n fa f_31 := by rw [ef_31]; exact ms_st (by assumption) (by omega) (by omega) (by intros; first | (exfalso; omega) | exact bd_nI (by omega) | exact bd_le ‹bd (nI (j_30 + 1)) _› (by omega) | assumption) (by intros; first | (exfalso; omega) | exact bd_nI (by omega) | exact bd_le ‹bd (nI (j_30 + 1)) _› (by omega) | assumption) (by intros; first | (exfalso; omega) | exact bd_nI (by omega) | exact bd_le ‹bd (nI (j_30 + 1)) _› (by omega) | assumption) (by intros; first | (exfalso; omega) | exact bd_nI (by omega) | exact bd_le ‹bd (nI (j_30 + 1)) _› (by omega) | assumption) (by intros; first | (exfalso; omega) | exact bd_nI (by omega) | exact bd_le ‹bd (nI (j_30 + 1)) _› (by omega) | assumption) (by intros; first | (exfalso; omega) | exact bd_nI (by omega) | exact bd_le ‹bd (nI (j_30 + 1)) _› (by omega) | assumption) (by intros; first | (exfalso; omega) | exact bd_nI (by omega) | exact bd_le ‹bd (nI (j_30 + 1)) _› (by omega) | assumption)
                refine g_iast hC V 1 rfl (vp_in_nI (by omega) (by omega)) (f' := f_31) (by rw [nI_clamp (by omega)]; exact ef_31.symm) (ws' := [(o, .inr (8, [.int w0, .ref g1, .ref g2, .ref g3, .ref g4, .int (nI tp), .int w6, .int w7, .int w8, .int w9, .int w10, .int w11, .int w12, .int w13, .int w14, .ref g15, .int w16, .ref g17, .int w18, .int w19, .ref g20, .int w21, .ref g22, .ref g23, .ref g24, .int w25, .int w26, .int w27, .ref g28, .ref g29, .int w30, .ref g31, .ref g32, .ref g33])), (g1, .inl (T 0, 282, .inl f_31)), (g15, .inl (T 0, 10, .inl (upd th6 k6 z_26)))]) rfl dX8_goes_87 (fun H locs V => ?_)
                refine lv_iinc (v := (x6_5 + 1)) (lv' := [(5, .int (x6_5 + 1)), (6, .int (nI k6)), (0, .ref o), (1, .int pl), (2, .int sk), (3, .int fi), (4, .int mr)]) hx hb dX8_goes_88 hl (k := 1) rfl rfl (by decide) rfl (fun ls hl => ?_)
                refine lv_iinc (v := (nI (k6 + 1))) (lv' := [(6, .int (nI (k6 + 1))), (5, .int (x6_5 + 1)), (0, .ref o), (1, .int pl), (2, .int sk), (3, .int fi), (4, .int mr)]) hx hb dX8_goes_91 hl (k := 1) rfl (nI_1 _) (by decide) rfl (fun ls hl => ?_)
                refine lv_goto (tgt := 6) hx hb dX8_goes_94 (by decide) ?_
                exact ih_6 (k6 + 1) (x6_5 + 1) (upd th6 k6 z_26) f_31 (by omega) (by assumption) (up_one (p := fun _ x => bd x 201) hth6 (by assumption)) (by omega) _ _ _ V (lv_sub hl [0, 1, 2, 3, 4, 5, 6] rfl)
              · have V : gW D T A s [(o, .inr (8, [.int w0, .ref g1, .ref g2, .ref g3, .ref g4, .int (nI tp), .int w6, .int w7, .int w8, .int w9, .int w10, .int w11, .int w12, .int w13, .int w14, .ref g15, .int w16, .ref g17, .int w18, .int w19, .ref g20, .int w21, .ref g22, .ref g23, .ref g24, .int w25, .int w26, .int w27, .ref g28, .ref g29, .int w30, .ref g31, .ref g32, .ref g33])), (g1, .inl (T 0, 282, .inl f6)), (g15, .inl (T 0, 10, .inl (upd th6 k6 z_26)))] H locs := V _ [0, 0] rfl rfl rfl (by decide +kernel) rfl
                show W p l e _ s m args below meth c H locs _ _ _ (F0 m 68 ls [.int (nI 0)])
                refine lv_if_ne (tgt := 74) hx hb dX8_goes_68 (by decide) (fun c => absurd (show (nI 0) = 0 by decide +kernel) c) (fun _ => ?_)
                refine lv_goto (tgt := 91) hx hb dX8_goes_71 (by decide) ?_
                refine lv_iinc (v := (nI (k6 + 1))) (lv' := [(6, .int (nI (k6 + 1))), (5, .int x6_5), (0, .ref o), (1, .int pl), (2, .int sk), (3, .int fi), (4, .int mr)]) hx hb dX8_goes_91 hl (k := 0) rfl (nI_1 _) (by decide) rfl (fun ls hl => ?_)
                refine lv_goto (tgt := 6) hx hb dX8_goes_94 (by decide) ?_
                exact ih_6 (k6 + 1) x6_5 (upd th6 k6 z_26) f6 (by omega) (by assumption) (up_one (p := fun _ x => bd x 201) hth6 (by assumption)) (by omega) _ _ _ V (lv_sub hl [0, 1, 2, 3, 4, 5, 6] rfl)
          · have V : gW D T A s [(o, .inr (8, [.int w0, .ref g1, .ref g2, .ref g3, .ref g4, .int (nI tp), .int w6, .int w7, .int w8, .int w9, .int w10, .int w11, .int w12, .int w13, .int w14, .ref g15, .int w16, .ref g17, .int w18, .int w19, .ref g20, .int w21, .ref g22, .ref g23, .ref g24, .int w25, .int w26, .int w27, .ref g28, .ref g29, .int w30, .ref g31, .ref g32, .ref g33])), (g1, .inl (T 0, 282, .inl f6)), (g15, .inl (T 0, 10, .inl (upd th6 k6 z_26)))] H locs := V _ [] rfl rfl rfl (by decide +kernel) rfl
            show W p l e _ s m args below meth c H locs _ _ _ (F0 m 50 ls [.int (nI 0)])
            refine lv_if_eq (tgt := 91) hx hb dX8_goes_50 (by decide) (fun _ => ?_) (fun c => absurd (show (nI 0) = 0 by decide +kernel) c)
            refine lv_iinc (v := (nI (k6 + 1))) (lv' := [(6, .int (nI (k6 + 1))), (5, .int x6_5), (0, .ref o), (1, .int pl), (2, .int sk), (3, .int fi), (4, .int mr)]) hx hb dX8_goes_91 hl (k := 0) rfl (nI_1 _) (by decide) rfl (fun ls hl => ?_)
            refine lv_goto (tgt := 6) hx hb dX8_goes_94 (by decide) ?_
            exact ih_6 (k6 + 1) x6_5 (upd th6 k6 z_26) f6 (by omega) (by assumption) (up_one (p := fun _ x => bd x 201) hth6 (by assumption)) (by omega) _ _ _ V (lv_sub hl [0, 1, 2, 3, 4, 5, 6] rfl)
  exact L_1 _ 0 (nI 0) fh fa (by omega) (by assumption) (fun i h => absurd h (Nat.not_lt_zero _)) (Nat.lt_succ_self _) _ _ _ V (lv_sub hl [0, 1, 2, 3, 4, 5, 6] rfl)

def q_m_keeps (T : Nat → ClassId) (o : Nat) (w0 : Int32) (g1 : Nat) (g2 : Nat) (g3 : Nat) (g4 : Nat) (tp : Nat) (w6 : Int32) (w7 : Int32) (w8 : Int32) (w9 : Int32) (w10 : Int32) (w11 : Int32) (w12 : Int32) (w13 : Int32) (w14 : Int32) (g15 : Nat) (w16 : Int32) (g17 : Nat) (w18 : Int32) (w19 : Int32) (g20 : Nat) (w21 : Int32) (g22 : Nat) (g23 : Nat) (g24 : Nat) (w25 : Int32) (w26 : Int32) (w27 : Int32) (g28 : Nat) (g29 : Nat) (w30 : Int32) (g31 : Nat) (g32 : Nat) (g33 : Nat) (fa : Nat → Int32) (fk : Nat → Int32) : Option Value → va_W → Prop := fun rr ww => (∃ (gk : Nat → Int32), rr = none ∧ ww = [(o, .inr (8, [.int w0, .ref g1, .ref g2, .ref g3, .ref g4, .int (nI tp), .int w6, .int w7, .int w8, .int w9, .int w10, .int w11, .int w12, .int w13, .int w14, .ref g15, .int w16, .ref g17, .int w18, .int w19, .ref g20, .int w21, .ref g22, .ref g23, .ref g24, .int w25, .int w26, .int w27, .ref g28, .ref g29, .int w30, .ref g31, .ref g32, .ref g33])), (g1, .inl (T 0, 282, .inl fa)), (g17, .inl (T 0, 94, .inl gk))] ∧ (∀ j, j < 94 → gk j = fa j))
set_option maxHeartbeats 4000000 in
set_option maxRecDepth 100000 in
theorem m_keeps (l : Launch) (D : va_G) (T : Nat → ClassId) (o : Nat) (w0 : Int32) (g1 : Nat) (g2 : Nat) (g3 : Nat) (g4 : Nat) (tp : Nat) (w6 : Int32) (w7 : Int32) (w8 : Int32) (w9 : Int32) (w10 : Int32) (w11 : Int32) (w12 : Int32) (w13 : Int32) (w14 : Int32) (g15 : Nat) (w16 : Int32) (g17 : Nat) (w18 : Int32) (w19 : Int32) (g20 : Nat) (w21 : Int32) (g22 : Nat) (g23 : Nat) (g24 : Nat) (w25 : Int32) (w26 : Int32) (w27 : Int32) (g28 : Nat) (g29 : Nat) (w30 : Int32) (g31 : Nat) (g32 : Nat) (g33 : Nat) (fa : Nat → Int32) (fk : Nat → Int32) : Ct l yX8_keeps cX8_keeps 2 none 0 0 0 D T [.ref o] [(o, .inr (8, [.int w0, .ref g1, .ref g2, .ref g3, .ref g4, .int (nI tp), .int w6, .int w7, .int w8, .int w9, .int w10, .int w11, .int w12, .int w13, .int w14, .ref g15, .int w16, .ref g17, .int w18, .int w19, .ref g20, .int w21, .ref g22, .ref g23, .ref g24, .int w25, .int w26, .int w27, .ref g28, .ref g29, .int w30, .ref g31, .ref g32, .ref g33])), (g1, .inl (T 0, 282, .inl fa)), (g17, .inl (T 0, 94, .inl fk))] (q_m_keeps T o w0 g1 g2 g3 g4 tp w6 w7 w8 w9 w10 w11 w12 w13 w14 g15 w16 g17 w18 w19 g20 w21 g22 g23 g24 w25 w26 w27 g28 g29 w30 g31 g32 g33 fa fk) := by
  refine Ct.of (cc := cX8_keeps) (maxL := 2) (ret := none) (by decide) (Nat.le_of_ble_eq_true rfl) ?_
  intro p e s m args below meth c A ls hC hnm V hl
  obtain ⟨hx, hb, hr, hml, hown, hts, hlocks⟩ := id hC
  generalize hH : s.heap = H at V ⊢
  clear hH
  have hl : lv_has ls 2 [(0, .ref o)] := hl
  generalize hlo : ([] : List Loc) = locs at V ⊢
  clear hlo
  refine lv_iconst (v := (nI 0)) hx hb dX8_keeps_0 (by decide +kernel) ?_
  refine lv_istore_n (lv' := [(1, .int (nI 0)), (0, .ref o)]) hx hb dX8_keeps_1 rfl hl (by decide) rfl (fun ls hl => ?_)
  have L_1 : ∀ (fu : Nat) (k : Nat) (f : Nat → Int32), k ≤ 94 → (∀ i, i < k → f i = fa i) → 94 - k < fu → ∀ (H : Heap) (locs : List Loc) (ls : Array Slot), gW D T A s [(o, .inr (8, [.int w0, .ref g1, .ref g2, .ref g3, .ref g4, .int (nI tp), .int w6, .int w7, .int w8, .int w9, .int w10, .int w11, .int w12, .int w13, .int w14, .ref g15, .int w16, .ref g17, .int w18, .int w19, .ref g20, .int w21, .ref g22, .ref g23, .ref g24, .int w25, .int w26, .int w27, .ref g28, .ref g29, .int w30, .ref g31, .ref g32, .ref g33])), (g1, .inl (T 0, 282, .inl fa)), (g17, .inl (T 0, 94, .inl f))] H locs → lv_has ls 2 [(1, .int (nI k)), (0, .ref o)] → W p l e (rmD 0 0 0) s m args below meth c H locs 0 0 (MQ below (gQ D A (q_m_keeps T o w0 g1 g2 g3 g4 tp w6 w7 w8 w9 w10 w11 w12 w13 w14 g15 w16 g17 w18 w19 g20 w21 g22 g23 g24 w25 w26 w27 g28 g29 w30 g31 g32 g33 fa fk)) args s 0 0 A) (F0 m 2 ls []) := by
    intro fu_2
    induction fu_2 with
    | zero => intro k f hk hf hmu; exact absurd hmu (Nat.not_lt_zero _)
    | succ fu_2 ih_2 =>
      intro k f hk hf hmu_2 H locs ls V hl
      refine lv_iload_n hx hb dX8_keeps_2 rfl (lv_at hl 0 rfl) ?_
      refine lv_bipush (v := (nI 94)) hx hb dX8_keeps_3 (by decide +kernel) ?_
      refine lv_icmp_ge (tgt := 26) hx hb dX8_keeps_5 (by decide) (fun c_2 => ?_) (fun c_2 => ?_)
      · skip
        have c_2 := b_le (by omega) (by omega) c_2
        exact g_vret (Qr := (q_m_keeps T o w0 g1 g2 g3 g4 tp w6 w7 w8 w9 w10 w11 w12 w13 w14 g15 w16 g17 w18 w19 g20 w21 g22 g23 g24 w25 w26 w27 g28 g29 w30 g31 g32 g33 fa fk)) hC V ⟨(Nat.le_of_ble_eq_true rfl), (Nat.le_of_ble_eq_true rfl)⟩ ⟨f, rfl, rfl, (fun j h => hf j (by omega))⟩ dX8_keeps_26
      · skip
        have c_2 := b_nle (by omega) (by omega) c_2
        refine lv_aload_n hx hb dX8_keeps_8 rfl (lv_at hl 1 rfl) ?_
        refine g_get hC V (ci := 8) uwX8 0 rfl rfl 17 (by decide) w_929 rfl rfl dX8_keeps_9 ?_
        refine lv_iload_n hx hb dX8_keeps_12 rfl (lv_at hl 0 rfl) ?_
        refine lv_aload_n hx hb dX8_keeps_13 rfl (lv_at hl 1 rfl) ?_
        refine g_get hC V (ci := 8) uwX8 0 rfl rfl 1 (by decide) w_913 rfl rfl dX8_keeps_14 ?_
        refine lv_iload_n hx hb dX8_keeps_17 rfl (lv_at hl 0 rfl) ?_
        refine g_iald hC V 1 rfl (vp_in_nI (by omega) (by omega)) (v := (fa k)) (congrArg _ (nI_clamp (by omega))) dX8_keeps_18 ?_
        refine g_iast hC V 2 rfl (vp_in_nI (by omega) (by omega)) (f' := (upd f k (fa k))) (by rw [nI_clamp (by omega)]) (ws' := [(o, .inr (8, [.int w0, .ref g1, .ref g2, .ref g3, .ref g4, .int (nI tp), .int w6, .int w7, .int w8, .int w9, .int w10, .int w11, .int w12, .int w13, .int w14, .ref g15, .int w16, .ref g17, .int w18, .int w19, .ref g20, .int w21, .ref g22, .ref g23, .ref g24, .int w25, .int w26, .int w27, .ref g28, .ref g29, .int w30, .ref g31, .ref g32, .ref g33])), (g1, .inl (T 0, 282, .inl fa)), (g17, .inl (T 0, 94, .inl (upd f k (fa k))))]) rfl dX8_keeps_19 (fun H locs V => ?_)
        refine lv_iinc (v := (nI (k + 1))) (lv' := [(1, .int (nI (k + 1))), (0, .ref o)]) hx hb dX8_keeps_20 hl (k := 0) rfl (nI_1 _) (by decide) rfl (fun ls hl => ?_)
        refine lv_goto (tgt := 2) hx hb dX8_keeps_23 (by decide) ?_
        exact ih_2 (k + 1) (upd f k (fa k)) (by omega) (up_one (p := fun i y => y = fa i) hf rfl) (by omega) _ _ _ V (lv_sub hl [0, 1] rfl)
  exact L_1 _ 0 fk (by omega) (fun i h => absurd h (Nat.not_lt_zero _)) (Nat.lt_succ_self _) _ _ _ V (lv_sub hl [0, 1] rfl)

def q_m_isAgain (T : Nat → ClassId) (o : Nat) (w0 : Int32) (g1 : Nat) (g2 : Nat) (g3 : Nat) (g4 : Nat) (tp : Nat) (w6 : Int32) (w7 : Int32) (w8 : Int32) (w9 : Int32) (w10 : Int32) (w11 : Int32) (w12 : Int32) (w13 : Int32) (w14 : Int32) (g15 : Nat) (w16 : Int32) (g17 : Nat) (w18 : Int32) (w19 : Int32) (g20 : Nat) (w21 : Int32) (g22 : Nat) (g23 : Nat) (g24 : Nat) (w25 : Int32) (w26 : Int32) (w27 : Int32) (g28 : Nat) (g29 : Nat) (w30 : Int32) (g31 : Nat) (g32 : Nat) (g33 : Nat) (fa : Nat → Int32) (fk : Nat → Int32) : Option Value → va_W → Prop := fun rr ww => (∃ (ga : Nat → Int32), rr = none ∧ ww = [(o, .inr (8, [.int w0, .ref g1, .ref g2, .ref g3, .ref g4, .int (nI tp), .int w6, .int w7, .int w8, .int w9, .int w10, .int w11, .int w12, .int w13, .int w14, .ref g15, .int w16, .ref g17, .int w18, .int w19, .ref g20, .int w21, .ref g22, .ref g23, .ref g24, .int w25, .int w26, .int w27, .ref g28, .ref g29, .int w30, .ref g31, .ref g32, .ref g33])), (g1, .inl (T 0, 282, .inl ga)), (g17, .inl (T 0, 94, .inl fk))] ∧ (∀ j, j < 94 → ga j = fk j) ∧ (∀ j, 94 ≤ j → ga j = fa j))
set_option maxHeartbeats 4000000 in
set_option maxRecDepth 100000 in
theorem m_isAgain (l : Launch) (D : va_G) (T : Nat → ClassId) (o : Nat) (w0 : Int32) (g1 : Nat) (g2 : Nat) (g3 : Nat) (g4 : Nat) (tp : Nat) (w6 : Int32) (w7 : Int32) (w8 : Int32) (w9 : Int32) (w10 : Int32) (w11 : Int32) (w12 : Int32) (w13 : Int32) (w14 : Int32) (g15 : Nat) (w16 : Int32) (g17 : Nat) (w18 : Int32) (w19 : Int32) (g20 : Nat) (w21 : Int32) (g22 : Nat) (g23 : Nat) (g24 : Nat) (w25 : Int32) (w26 : Int32) (w27 : Int32) (g28 : Nat) (g29 : Nat) (w30 : Int32) (g31 : Nat) (g32 : Nat) (g33 : Nat) (fa : Nat → Int32) (fk : Nat → Int32) : Ct l yX8_isAgain cX8_isAgain 2 none 0 0 0 D T [.ref o] [(o, .inr (8, [.int w0, .ref g1, .ref g2, .ref g3, .ref g4, .int (nI tp), .int w6, .int w7, .int w8, .int w9, .int w10, .int w11, .int w12, .int w13, .int w14, .ref g15, .int w16, .ref g17, .int w18, .int w19, .ref g20, .int w21, .ref g22, .ref g23, .ref g24, .int w25, .int w26, .int w27, .ref g28, .ref g29, .int w30, .ref g31, .ref g32, .ref g33])), (g1, .inl (T 0, 282, .inl fa)), (g17, .inl (T 0, 94, .inl fk))] (q_m_isAgain T o w0 g1 g2 g3 g4 tp w6 w7 w8 w9 w10 w11 w12 w13 w14 g15 w16 g17 w18 w19 g20 w21 g22 g23 g24 w25 w26 w27 g28 g29 w30 g31 g32 g33 fa fk) := by
  refine Ct.of (cc := cX8_isAgain) (maxL := 2) (ret := none) (by decide) (Nat.le_of_ble_eq_true rfl) ?_
  intro p e s m args below meth c A ls hC hnm V hl
  obtain ⟨hx, hb, hr, hml, hown, hts, hlocks⟩ := id hC
  generalize hH : s.heap = H at V ⊢
  clear hH
  have hl : lv_has ls 2 [(0, .ref o)] := hl
  generalize hlo : ([] : List Loc) = locs at V ⊢
  clear hlo
  refine lv_iconst (v := (nI 0)) hx hb dX8_isAgain_0 (by decide +kernel) ?_
  refine lv_istore_n (lv' := [(1, .int (nI 0)), (0, .ref o)]) hx hb dX8_isAgain_1 rfl hl (by decide) rfl (fun ls hl => ?_)
  have L_1 : ∀ (fu : Nat) (k : Nat) (f : Nat → Int32), k ≤ 94 → (∀ i, i < k → f i = fk i) → (∀ i, 94 ≤ i → f i = fa i) → 94 - k < fu → ∀ (H : Heap) (locs : List Loc) (ls : Array Slot), gW D T A s [(o, .inr (8, [.int w0, .ref g1, .ref g2, .ref g3, .ref g4, .int (nI tp), .int w6, .int w7, .int w8, .int w9, .int w10, .int w11, .int w12, .int w13, .int w14, .ref g15, .int w16, .ref g17, .int w18, .int w19, .ref g20, .int w21, .ref g22, .ref g23, .ref g24, .int w25, .int w26, .int w27, .ref g28, .ref g29, .int w30, .ref g31, .ref g32, .ref g33])), (g1, .inl (T 0, 282, .inl f)), (g17, .inl (T 0, 94, .inl fk))] H locs → lv_has ls 2 [(1, .int (nI k)), (0, .ref o)] → W p l e (rmD 0 0 0) s m args below meth c H locs 0 0 (MQ below (gQ D A (q_m_isAgain T o w0 g1 g2 g3 g4 tp w6 w7 w8 w9 w10 w11 w12 w13 w14 g15 w16 g17 w18 w19 g20 w21 g22 g23 g24 w25 w26 w27 g28 g29 w30 g31 g32 g33 fa fk)) args s 0 0 A) (F0 m 2 ls []) := by
    intro fu_2
    induction fu_2 with
    | zero => intro k f hk hf hg hmu; exact absurd hmu (Nat.not_lt_zero _)
    | succ fu_2 ih_2 =>
      intro k f hk hf hg hmu_2 H locs ls V hl
      refine lv_iload_n hx hb dX8_isAgain_2 rfl (lv_at hl 0 rfl) ?_
      refine lv_bipush (v := (nI 94)) hx hb dX8_isAgain_3 (by decide +kernel) ?_
      refine lv_icmp_ge (tgt := 26) hx hb dX8_isAgain_5 (by decide) (fun c_2 => ?_) (fun c_2 => ?_)
      · skip
        have c_2 := b_le (by omega) (by omega) c_2
        exact g_vret (Qr := (q_m_isAgain T o w0 g1 g2 g3 g4 tp w6 w7 w8 w9 w10 w11 w12 w13 w14 g15 w16 g17 w18 w19 g20 w21 g22 g23 g24 w25 w26 w27 g28 g29 w30 g31 g32 g33 fa fk)) hC V ⟨(Nat.le_of_ble_eq_true rfl), (Nat.le_of_ble_eq_true rfl)⟩ ⟨f, rfl, rfl, (fun j h => hf j (by omega)), hg⟩ dX8_isAgain_26
      · skip
        have c_2 := b_nle (by omega) (by omega) c_2
        refine lv_aload_n hx hb dX8_isAgain_8 rfl (lv_at hl 1 rfl) ?_
        refine g_get hC V (ci := 8) uwX8 0 rfl rfl 1 (by decide) w_913 rfl rfl dX8_isAgain_9 ?_
        refine lv_iload_n hx hb dX8_isAgain_12 rfl (lv_at hl 0 rfl) ?_
        refine lv_aload_n hx hb dX8_isAgain_13 rfl (lv_at hl 1 rfl) ?_
        refine g_get hC V (ci := 8) uwX8 0 rfl rfl 17 (by decide) w_929 rfl rfl dX8_isAgain_14 ?_
        refine lv_iload_n hx hb dX8_isAgain_17 rfl (lv_at hl 0 rfl) ?_
        refine g_iald hC V 2 rfl (vp_in_nI (by omega) (by omega)) (v := (fk k)) (congrArg _ (nI_clamp (by omega))) dX8_isAgain_18 ?_
        refine g_iast hC V 1 rfl (vp_in_nI (by omega) (by omega)) (f' := (upd f k (fk k))) (by rw [nI_clamp (by omega)]) (ws' := [(o, .inr (8, [.int w0, .ref g1, .ref g2, .ref g3, .ref g4, .int (nI tp), .int w6, .int w7, .int w8, .int w9, .int w10, .int w11, .int w12, .int w13, .int w14, .ref g15, .int w16, .ref g17, .int w18, .int w19, .ref g20, .int w21, .ref g22, .ref g23, .ref g24, .int w25, .int w26, .int w27, .ref g28, .ref g29, .int w30, .ref g31, .ref g32, .ref g33])), (g1, .inl (T 0, 282, .inl (upd f k (fk k)))), (g17, .inl (T 0, 94, .inl fk))]) rfl dX8_isAgain_19 (fun H locs V => ?_)
        refine lv_iinc (v := (nI (k + 1))) (lv' := [(1, .int (nI (k + 1))), (0, .ref o)]) hx hb dX8_isAgain_20 hl (k := 0) rfl (nI_1 _) (by decide) rfl (fun ls hl => ?_)
        refine lv_goto (tgt := 2) hx hb dX8_isAgain_23 (by decide) ?_
        exact ih_2 (k + 1) (upd f k (fk k)) (by omega) (up_one (p := fun i y => y = fk i) hf rfl) (fun i hi => by rw [up_other (by omega)]; exact hg i hi) (by omega) _ _ _ V (lv_sub hl [0, 1] rfl)
  exact L_1 _ 0 fa (by omega) (fun i h => absurd h (Nat.not_lt_zero _)) (fun _ _ => rfl) (Nat.lt_succ_self _) _ _ _ V (lv_sub hl [0, 1] rfl)

def q_m_doneMany (T : Nat → ClassId) (n : Nat) (o : Nat) (w0 : Int32) (g1 : Nat) (g2 : Nat) (g3 : Nat) (g4 : Nat) (tp : Nat) (w6 : Int32) (w7 : Int32) (w8 : Int32) (w9 : Int32) (w10 : Int32) (w11 : Int32) (w12 : Int32) (w13 : Int32) (w14 : Int32) (g15 : Nat) (w16 : Int32) (g17 : Nat) (w18 : Int32) (w19 : Int32) (g20 : Nat) (w21 : Int32) (g22 : Nat) (g23 : Nat) (g24 : Nat) (w25 : Int32) (w26 : Int32) (w27 : Int32) (g28 : Nat) (g29 : Nat) (w30 : Int32) (g31 : Nat) (g32 : Nat) (g33 : Nat) (fa : Nat → Int32) : Option Value → va_W → Prop := fun rr ww => (∃ (z : Int32), rr = some (.int z) ∧ ww = [(o, .inr (8, [.int w0, .ref g1, .ref g2, .ref g3, .ref g4, .int (nI tp), .int w6, .int w7, .int w8, .int w9, .int w10, .int w11, .int w12, .int w13, .int w14, .ref g15, .int w16, .ref g17, .int w18, .int w19, .ref g20, .int w21, .ref g22, .ref g23, .ref g24, .int w25, .int w26, .int w27, .ref g28, .ref g29, .int w30, .ref g31, .ref g32, .ref g33])), (g1, .inl (T 0, 282, .inl fa))])
set_option maxHeartbeats 4000000 in
set_option maxRecDepth 100000 in
theorem m_doneMany (l : Launch) (D : va_G) (T : Nat → ClassId) (n : Nat) (o : Nat) (w0 : Int32) (g1 : Nat) (g2 : Nat) (g3 : Nat) (g4 : Nat) (tp : Nat) (w6 : Int32) (w7 : Int32) (w8 : Int32) (w9 : Int32) (w10 : Int32) (w11 : Int32) (w12 : Int32) (w13 : Int32) (w14 : Int32) (g15 : Nat) (w16 : Int32) (g17 : Nat) (w18 : Int32) (w19 : Int32) (g20 : Nat) (w21 : Int32) (g22 : Nat) (g23 : Nat) (g24 : Nat) (w25 : Int32) (w26 : Int32) (w27 : Int32) (g28 : Nat) (g29 : Nat) (w30 : Int32) (g31 : Nat) (g32 : Nat) (g33 : Nat) (fa : Nat → Int32) (h_a : MI n fa) : Ct l yX8_doneMany cX8_doneMany 3 (some .int) 1 0 0 D T [.ref o] [(o, .inr (8, [.int w0, .ref g1, .ref g2, .ref g3, .ref g4, .int (nI tp), .int w6, .int w7, .int w8, .int w9, .int w10, .int w11, .int w12, .int w13, .int w14, .ref g15, .int w16, .ref g17, .int w18, .int w19, .ref g20, .int w21, .ref g22, .ref g23, .ref g24, .int w25, .int w26, .int w27, .ref g28, .ref g29, .int w30, .ref g31, .ref g32, .ref g33])), (g1, .inl (T 0, 282, .inl fa))] (q_m_doneMany T n o w0 g1 g2 g3 g4 tp w6 w7 w8 w9 w10 w11 w12 w13 w14 g15 w16 g17 w18 w19 g20 w21 g22 g23 g24 w25 w26 w27 g28 g29 w30 g31 g32 g33 fa) := by
  refine Ct.of (cc := cX8_doneMany) (maxL := 3) (ret := (some .int)) (by decide) (Nat.le_of_ble_eq_true rfl) ?_
  intro p e s m args below meth c A ls hC hnm V hl
  obtain ⟨hx, hb, hr, hml, hown, hts, hlocks⟩ := id hC
  generalize hH : s.heap = H at V ⊢
  clear hH
  have hl : lv_has ls 3 [(0, .ref o)] := hl
  generalize hlo : ([] : List Loc) = locs at V ⊢
  clear hlo
  have ms0 := ms_rf h_a
  have hn10 := h_a.1
  refine lv_iconst (v := (nI 0)) hx hb dX8_doneMany_0 (by decide +kernel) ?_
  refine lv_istore_n (lv' := [(1, .int (nI 0)), (0, .ref o)]) hx hb dX8_doneMany_1 rfl hl (by decide) rfl (fun ls hl => ?_)
  refine lv_iconst (v := (nI 0)) hx hb dX8_doneMany_2 (by decide +kernel) ?_
  refine lv_istore_n (lv' := [(2, .int (nI 0)), (1, .int (nI 0)), (0, .ref o)]) hx hb dX8_doneMany_3 rfl hl (by decide) rfl (fun ls hl => ?_)
  have L_1 : ∀ (fu : Nat) (k4 : Nat) (x4_1 : Int32), k4 ≤ n → n - k4 < fu → ∀ (H : Heap) (locs : List Loc) (ls : Array Slot), gW D T A s [(o, .inr (8, [.int w0, .ref g1, .ref g2, .ref g3, .ref g4, .int (nI tp), .int w6, .int w7, .int w8, .int w9, .int w10, .int w11, .int w12, .int w13, .int w14, .ref g15, .int w16, .ref g17, .int w18, .int w19, .ref g20, .int w21, .ref g22, .ref g23, .ref g24, .int w25, .int w26, .int w27, .ref g28, .ref g29, .int w30, .ref g31, .ref g32, .ref g33])), (g1, .inl (T 0, 282, .inl fa))] H locs → lv_has ls 3 [(2, .int (nI k4)), (1, .int x4_1), (0, .ref o)] → W p l e (rmD 1 0 0) s m args below meth c H locs 0 0 (MQ below (gQ D A (q_m_doneMany T n o w0 g1 g2 g3 g4 tp w6 w7 w8 w9 w10 w11 w12 w13 w14 g15 w16 g17 w18 w19 g20 w21 g22 g23 g24 w25 w26 w27 g28 g29 w30 g31 g32 g33 fa)) args s 0 0 A) (F0 m 4 ls []) := by
    intro fu_4
    induction fu_4 with
    | zero => intro k4 x4_1 hk4 hmu; exact absurd hmu (Nat.not_lt_zero _)
    | succ fu_4 ih_4 =>
      intro k4 x4_1 hk4 hmu_4 H locs ls V hl
      refine lv_iload_n hx hb dX8_doneMany_4 rfl (lv_at hl 0 rfl) ?_
      refine lv_aload_n hx hb dX8_doneMany_5 rfl (lv_at hl 2 rfl) ?_
      refine g_get hC V (ci := 8) uwX8 0 rfl rfl 1 (by decide) w_913 rfl rfl dX8_doneMany_6 ?_
      refine lv_iconst (v := (nI 0)) hx hb dX8_doneMany_9 (by decide +kernel) ?_
      refine g_iald hC V 1 rfl (vp_in_nI (by decide) (by decide)) (v := (nI n)) (by rw [nI_clamp (by decide)]; first | rfl | exact h_a.2.1) dX8_doneMany_10 ?_
      refine lv_icmp_ge (tgt := 36) hx hb dX8_doneMany_11 (by decide) (fun c_2 => ?_) (fun c_2 => ?_)
      · skip
        have c_2 := b_le (by omega) (by omega) c_2
        refine lv_iload_n hx hb dX8_doneMany_36 rfl (lv_at hl 1 rfl) ?_
        exact g_iret (Qr := (q_m_doneMany T n o w0 g1 g2 g3 g4 tp w6 w7 w8 w9 w10 w11 w12 w13 w14 g15 w16 g17 w18 w19 g20 w21 g22 g23 g24 w25 w26 w27 g28 g29 w30 g31 g32 g33 fa)) hC V ⟨(Nat.le_of_ble_eq_true rfl), (Nat.le_of_ble_eq_true rfl)⟩ ⟨x4_1, rfl, rfl⟩ dX8_doneMany_37
      · skip
        have c_2 := b_nle (by omega) (by omega) c_2
        refine lv_iload_n hx hb dX8_doneMany_14 rfl (lv_at hl 1 rfl) ?_
        refine lv_aload_n hx hb dX8_doneMany_15 rfl (lv_at hl 2 rfl) ?_
        refine lv_iload_n hx hb dX8_doneMany_16 rfl (lv_at hl 0 rfl) ?_
        refine g_callV (wr := []) (nA := 1) hC V hl.1 (m_isDone l D T o k4 w0 g1 g2 g3 g4 tp w6 w7 w8 w9 w10 w11 w12 w13 w14 g15 w16 g17 w18 w19 g20 w21 g22 g23 g24 w25 w26 w27 g28 g29 w30 g31 g32 g33 fa (by first | assumption | omega)) w_1088 w_1090 w_s47 w_9 w_1091 (by decide +kernel) rfl ⟨(Nat.le_of_ble_eq_true rfl), (Nat.le_of_ble_eq_true rfl)⟩ 0 (ci := 8) rfl rfl [0, 1] [] rfl rfl rfl rfl (by decide) (Nat.le_of_ble_eq_true rfl) dX8_doneMany_17 ⟨(Nat.le_of_ble_eq_true rfl), (Nat.le_of_ble_eq_true rfl)⟩ rfl (fun r w1 H locs hQ V => ?_)
        rcases hQ with ⟨rfl, rfl, f_3⟩ | ⟨rfl, rfl, f_4⟩
        · have V : gW D T A s [(o, .inr (8, [.int w0, .ref g1, .ref g2, .ref g3, .ref g4, .int (nI tp), .int w6, .int w7, .int w8, .int w9, .int w10, .int w11, .int w12, .int w13, .int w14, .ref g15, .int w16, .ref g17, .int w18, .int w19, .ref g20, .int w21, .ref g22, .ref g23, .ref g24, .int w25, .int w26, .int w27, .ref g28, .ref g29, .int w30, .ref g31, .ref g32, .ref g33])), (g1, .inl (T 0, 282, .inl fa))] H locs := V
          show W p l e _ s m args below meth c H locs _ _ _ (F0 m 20 ls [.int (nI 1), .int x4_1])
          refine lv_if_eq (tgt := 27) hx hb dX8_doneMany_20 (by decide) (fun c => absurd (show (nI 1) = 0 from c) (by decide +kernel)) (fun _ => ?_)
          refine lv_iconst (v := (nI 1)) hx hb dX8_doneMany_23 (by decide +kernel) ?_
          refine lv_goto (tgt := 28) hx hb dX8_doneMany_24 (by decide) ?_
          refine lv_iadd hx hb dX8_doneMany_28 ?_
          refine lv_istore_n (lv' := [(1, .int (x4_1 + (nI 1))), (2, .int (nI k4)), (0, .ref o)]) hx hb dX8_doneMany_29 rfl hl (by decide) rfl (fun ls hl => ?_)
          refine lv_iinc (v := (nI (k4 + 1))) (lv' := [(2, .int (nI (k4 + 1))), (1, .int (x4_1 + (nI 1))), (0, .ref o)]) hx hb dX8_doneMany_30 hl (k := 1) rfl (nI_1 _) (by decide) rfl (fun ls hl => ?_)
          refine lv_goto (tgt := 4) hx hb dX8_doneMany_33 (by decide) ?_
          exact ih_4 (k4 + 1) (x4_1 + (nI 1)) (by omega) (by omega) _ _ _ V (lv_sub hl [0, 1, 2] rfl)
        · have V : gW D T A s [(o, .inr (8, [.int w0, .ref g1, .ref g2, .ref g3, .ref g4, .int (nI tp), .int w6, .int w7, .int w8, .int w9, .int w10, .int w11, .int w12, .int w13, .int w14, .ref g15, .int w16, .ref g17, .int w18, .int w19, .ref g20, .int w21, .ref g22, .ref g23, .ref g24, .int w25, .int w26, .int w27, .ref g28, .ref g29, .int w30, .ref g31, .ref g32, .ref g33])), (g1, .inl (T 0, 282, .inl fa))] H locs := V
          show W p l e _ s m args below meth c H locs _ _ _ (F0 m 20 ls [.int (nI 0), .int x4_1])
          refine lv_if_eq (tgt := 27) hx hb dX8_doneMany_20 (by decide) (fun _ => ?_) (fun c => absurd (show (nI 0) = 0 by decide +kernel) c)
          refine lv_iconst (v := (nI 0)) hx hb dX8_doneMany_27 (by decide +kernel) ?_
          refine lv_iadd hx hb dX8_doneMany_28 ?_
          refine lv_istore_n (lv' := [(1, .int (x4_1 + (nI 0))), (2, .int (nI k4)), (0, .ref o)]) hx hb dX8_doneMany_29 rfl hl (by decide) rfl (fun ls hl => ?_)
          refine lv_iinc (v := (nI (k4 + 1))) (lv' := [(2, .int (nI (k4 + 1))), (1, .int (x4_1 + (nI 0))), (0, .ref o)]) hx hb dX8_doneMany_30 hl (k := 1) rfl (nI_1 _) (by decide) rfl (fun ls hl => ?_)
          refine lv_goto (tgt := 4) hx hb dX8_doneMany_33 (by decide) ?_
          exact ih_4 (k4 + 1) (x4_1 + (nI 0)) (by omega) (by omega) _ _ _ V (lv_sub hl [0, 1, 2] rfl)
  exact L_1 _ 0 (nI 0) (by omega) (Nat.lt_succ_self _) _ _ _ V (lv_sub hl [0, 1, 2] rfl)

/-- where k ropes lead from i -/
def ledF (f : Nat → Int32) (i : Nat) : Nat → Nat
  | 0 => i
  | k + 1 => (f (84 + ledF f i k)).toNatClampNeg
theorem led_nx {f : Nat → Int32} {i k a j n : Nat} (h : a = ledF f i k ∧ a < n) (e : f (84 + a) = nI j) (hj : j < n) (hn : n ≤ 10) : j = ledF f i (k + 1) ∧ j < n := by
  refine ⟨?_, hj⟩
  show j = (f (84 + ledF f i k)).toNatClampNeg
  rw [← h.1, e, nI_clamp (by omega)]
theorem led_end {f : Nat → Int32} {i k k' a n : Nat} (h : a = ledF f i k ∧ a < n) (e : k = k') : a = ledF f i k' ∧ a < n := e ▸ h
theorem led_add (f : Nat → Int32) (i a : Nat) : ∀ b, ledF f (ledF f i a) b = ledF f i (a + b)
  | 0 => rfl
  | b + 1 => by
    show (f (84 + ledF f (ledF f i a) b)).toNatClampNeg = (f (84 + ledF f i (a + b))).toNatClampNeg
    rw [led_add f i a b]
theorem led_lt {f : Nat → Int32} {i n : Nat} (h : MI n f) (hi : i < n) : ∀ k, ledF f i k < n
  | 0 => hi
  | k + 1 => by
    obtain ⟨j, hj, e⟩ := mi_to h (led_lt h hi k)
    show (f (84 + ledF f i k)).toNatClampNeg < n
    have := h.1
    rw [e, nI_clamp (by omega)]; exact hj
/-- of n + 1 numbers below n two are the same -/
theorem pigeon : ∀ (n : Nat) (s : Nat → Nat), (∀ k, k ≤ n → s k < n) → ∃ a b, a < b ∧ b ≤ n ∧ s a = s b
  | 0, s, h => absurd (h 0 (Nat.le_refl 0)) (Nat.not_lt_zero _)
  | n + 1, s, h => by
    by_cases hc : ∃ k, k ≤ n ∧ s k = s (n + 1)
    · obtain ⟨k, hk, e⟩ := hc
      exact ⟨k, n + 1, by omega, Nat.le_refl _, e⟩
    · have hn : ∀ k, k ≤ n → s k ≠ s (n + 1) := fun k hk e => hc ⟨k, hk, e⟩
      obtain ⟨a, b, hab, hb, e⟩ := pigeon n (fun k => if s k = n then s (n + 1) else s k) (fun k hk => by
        have h1 := h k (by omega)
        have h2 := h (n + 1) (Nat.le_refl _)
        have h3 := hn k hk
        show (if s k = n then s (n + 1) else s k) < n
        split <;> omega)
      refine ⟨a, b, hab, by omega, ?_⟩
      have ha' := hn a (by omega)
      have hb' := hn b hb
      split at e <;> split at e <;> omega
theorem led_cyc {f : Nat → Int32} {i n : Nat} (h : MI n f) (hi : i < n) : ∃ m, 1 ≤ m ∧ m ≤ 10 ∧ ledF f (ledF f i 10) m = ledF f i 10 := by
  obtain ⟨a, b, hab, hb, e⟩ := pigeon n (ledF f i) (fun k _ => led_lt h hi k)
  have hn := h.1
  have hp : ∀ k, ledF f i (a + k) = ledF f i (b + k) := fun k => by rw [← led_add, ← led_add, e]
  refine ⟨b - a, by omega, by omega, ?_⟩
  rw [led_add]
  have := hp (10 - a)
  rw [show a + (10 - a) = 10 by omega, show b + (10 - a) = 10 + (b - a) by omega] at this
  exact this.symm

def q_m_led (T : Nat → ClassId) (n : Nat) (o : Nat) (i : Nat) (k : Nat) (w0 : Int32) (g1 : Nat) (g2 : Nat) (g3 : Nat) (g4 : Nat) (tp : Nat) (w6 : Int32) (w7 : Int32) (w8 : Int32) (w9 : Int32) (w10 : Int32) (w11 : Int32) (w12 : Int32) (w13 : Int32) (w14 : Int32) (g15 : Nat) (w16 : Int32) (g17 : Nat) (w18 : Int32) (w19 : Int32) (g20 : Nat) (w21 : Int32) (g22 : Nat) (g23 : Nat) (g24 : Nat) (w25 : Int32) (w26 : Int32) (w27 : Int32) (g28 : Nat) (g29 : Nat) (w30 : Int32) (g31 : Nat) (g32 : Nat) (g33 : Nat) (fa : Nat → Int32) : Option Value → va_W → Prop := fun rr ww => (∃ (r : Nat), rr = some (.int (nI r)) ∧ ww = [(o, .inr (8, [.int w0, .ref g1, .ref g2, .ref g3, .ref g4, .int (nI tp), .int w6, .int w7, .int w8, .int w9, .int w10, .int w11, .int w12, .int w13, .int w14, .ref g15, .int w16, .ref g17, .int w18, .int w19, .ref g20, .int w21, .ref g22, .ref g23, .ref g24, .int w25, .int w26, .int w27, .ref g28, .ref g29, .int w30, .ref g31, .ref g32, .ref g33])), (g1, .inl (T 0, 282, .inl fa))] ∧ (r = ledF fa i k ∧ r < n))
set_option maxHeartbeats 4000000 in
set_option maxRecDepth 100000 in
theorem m_led (l : Launch) (D : va_G) (T : Nat → ClassId) (n : Nat) (o : Nat) (i : Nat) (k : Nat) (w0 : Int32) (g1 : Nat) (g2 : Nat) (g3 : Nat) (g4 : Nat) (tp : Nat) (w6 : Int32) (w7 : Int32) (w8 : Int32) (w9 : Int32) (w10 : Int32) (w11 : Int32) (w12 : Int32) (w13 : Int32) (w14 : Int32) (g15 : Nat) (w16 : Int32) (g17 : Nat) (w18 : Int32) (w19 : Int32) (g20 : Nat) (w21 : Int32) (g22 : Nat) (g23 : Nat) (g24 : Nat) (w25 : Int32) (w26 : Int32) (w27 : Int32) (g28 : Nat) (g29 : Nat) (w30 : Int32) (g31 : Nat) (g32 : Nat) (g33 : Nat) (fa : Nat → Int32) (h_a : MI n fa) (h_i : i < n) (h_k : k ≤ 1000) : Ct l yX8_led cX8_led 5 (some .int) 0 0 0 D T [.ref o, .int (nI i), .int (nI k)] [(o, .inr (8, [.int w0, .ref g1, .ref g2, .ref g3, .ref g4, .int (nI tp), .int w6, .int w7, .int w8, .int w9, .int w10, .int w11, .int w12, .int w13, .int w14, .ref g15, .int w16, .ref g17, .int w18, .int w19, .ref g20, .int w21, .ref g22, .ref g23, .ref g24, .int w25, .int w26, .int w27, .ref g28, .ref g29, .int w30, .ref g31, .ref g32, .ref g33])), (g1, .inl (T 0, 282, .inl fa))] (q_m_led T n o i k w0 g1 g2 g3 g4 tp w6 w7 w8 w9 w10 w11 w12 w13 w14 g15 w16 g17 w18 w19 g20 w21 g22 g23 g24 w25 w26 w27 g28 g29 w30 g31 g32 g33 fa) := by
  refine Ct.of (cc := cX8_led) (maxL := 5) (ret := (some .int)) (by decide) (Nat.le_of_ble_eq_true rfl) ?_
  intro p e s m args below meth c A ls hC hnm V hl
  obtain ⟨hx, hb, hr, hml, hown, hts, hlocks⟩ := id hC
  generalize hH : s.heap = H at V ⊢
  clear hH
  have hl : lv_has ls 5 [(0, .ref o), (1, .int (nI i)), (2, .int (nI k))] := hl
  generalize hlo : ([] : List Loc) = locs at V ⊢
  clear hlo
  have ms0 := ms_rf h_a
  have hn10 := h_a.1
  refine lv_iload_n hx hb dX8_led_0 rfl (lv_at hl 1 rfl) ?_
  refine lv_istore_n (lv' := [(3, .int (nI i)), (0, .ref o), (1, .int (nI i)), (2, .int (nI k))]) hx hb dX8_led_1 rfl hl (by decide) rfl (fun ls hl => ?_)
  refine lv_iconst (v := (nI 0)) hx hb dX8_led_2 (by decide +kernel) ?_
  refine lv_istore (lv' := [(4, .int (nI 0)), (3, .int (nI i)), (0, .ref o), (1, .int (nI i)), (2, .int (nI k))]) hx hb dX8_led_3 hl (by decide) rfl (fun ls hl => ?_)
  have L_1 : ∀ (fu : Nat) (k5 : Nat) (at_ : Nat), k5 ≤ k → (at_ = ledF fa i k5 ∧ at_ < n) → k - k5 < fu → ∀ (H : Heap) (locs : List Loc) (ls : Array Slot), gW D T A s [(o, .inr (8, [.int w0, .ref g1, .ref g2, .ref g3, .ref g4, .int (nI tp), .int w6, .int w7, .int w8, .int w9, .int w10, .int w11, .int w12, .int w13, .int w14, .ref g15, .int w16, .ref g17, .int w18, .int w19, .ref g20, .int w21, .ref g22, .ref g23, .ref g24, .int w25, .int w26, .int w27, .ref g28, .ref g29, .int w30, .ref g31, .ref g32, .ref g33])), (g1, .inl (T 0, 282, .inl fa))] H locs → lv_has ls 5 [(4, .int (nI k5)), (3, .int (nI at_)), (0, .ref o), (1, .int (nI i)), (2, .int (nI k))] → W p l e (rmD 0 0 0) s m args below meth c H locs 0 0 (MQ below (gQ D A (q_m_led T n o i k w0 g1 g2 g3 g4 tp w6 w7 w8 w9 w10 w11 w12 w13 w14 g15 w16 g17 w18 w19 g20 w21 g22 g23 g24 w25 w26 w27 g28 g29 w30 g31 g32 g33 fa)) args s 0 0 A) (F0 m 5 ls []) := by
    intro fu_5
    induction fu_5 with
    | zero => intro k5 at_ hk5 hat hmu; exact absurd hmu (Nat.not_lt_zero _)
    | succ fu_5 ih_5 =>
      intro k5 at_ hk5 hat hmu_5 H locs ls V hl
      refine lv_iload hx hb dX8_led_5 (lv_at hl 0 rfl) ?_
      refine lv_iload_n hx hb dX8_led_7 rfl (lv_at hl 4 rfl) ?_
      refine lv_icmp_ge (tgt := 27) hx hb dX8_led_8 (by decide) (fun c_2 => ?_) (fun c_2 => ?_)
      · skip
        have c_2 := b_le (by omega) (by omega) c_2
        refine lv_iload_n hx hb dX8_led_27 rfl (lv_at hl 1 rfl) ?_
        exact g_iret (Qr := (q_m_led T n o i k w0 g1 g2 g3 g4 tp w6 w7 w8 w9 w10 w11 w12 w13 w14 g15 w16 g17 w18 w19 g20 w21 g22 g23 g24 w25 w26 w27 g28 g29 w30 g31 g32 g33 fa)) hC V ⟨(Nat.le_of_ble_eq_true rfl), (Nat.le_of_ble_eq_true rfl)⟩ ⟨at_, rfl, rfl, (led_end hat (by omega))⟩ dX8_led_28
      · skip
        have c_2 := b_nle (by omega) (by omega) c_2
        refine lv_aload_n hx hb dX8_led_11 rfl (lv_at hl 2 rfl) ?_
        refine g_get hC V (ci := 8) uwX8 0 rfl rfl 1 (by decide) w_913 rfl rfl dX8_led_12 ?_
        refine lv_bipush (v := (nI 84)) hx hb dX8_led_15 (by decide +kernel) ?_
        refine lv_iload_n hx hb dX8_led_17 rfl (lv_at hl 1 rfl) ?_
        refine lv_iadd hx hb dX8_led_18 ?_
        refine g_vi (y := (nI (84 + at_))) (nI_add _ _) ?_
        obtain ⟨j_3, hj_3, ej_3⟩ := bd_ex (mi_to h_a (i := at_) (by omega))
        refine g_iald hC V 1 rfl (vp_in_nI (by omega) (by omega)) (v := (nI j_3)) (by rw [nI_clamp (by omega)]; exact ej_3) dX8_led_19 ?_
        refine lv_istore_n (lv' := [(3, .int (nI j_3)), (4, .int (nI k5)), (0, .ref o), (1, .int (nI i)), (2, .int (nI k))]) hx hb dX8_led_20 rfl hl (by decide) rfl (fun ls hl => ?_)
        refine lv_iinc (v := (nI (k5 + 1))) (lv' := [(4, .int (nI (k5 + 1))), (3, .int (nI j_3)), (0, .ref o), (1, .int (nI i)), (2, .int (nI k))]) hx hb dX8_led_21 hl (k := 1) rfl (nI_1 _) (by decide) rfl (fun ls hl => ?_)
        refine lv_goto (tgt := 5) hx hb dX8_led_24 (by decide) ?_
        exact ih_5 (k5 + 1) j_3 (by omega) (led_nx hat (by assumption) (by omega) (by omega)) (by omega) _ _ _ V (lv_sub hl [0, 1, 2, 3, 4] rfl)
  exact L_1 _ 0 i (by omega) ⟨rfl, h_i⟩ (Nat.lt_succ_self _) _ _ _ V (lv_sub hl [0, 1, 2, 3, 4] rfl)

theorem led_go {f : Nat → Int32} {i m k r F : Nat} (hF : F = ledF f i 10) (hm : ledF f (ledF f i 10) m = ledF f i 10) (hr : r = ledF f F k) (hne : r ≠ F) (hk : k ≤ m) : k + 1 ≤ m := by
  have : k ≠ m := by
    rintro rfl
    apply hne
    rw [hr, hF, hm]
  omega

def q_m_pulling (T : Nat → ClassId) (n : Nat) (o : Nat) (t : Int32) (w0 : Int32) (g1 : Nat) (g2 : Nat) (g3 : Nat) (g4 : Nat) (tp : Nat) (w6 : Int32) (w7 : Int32) (w8 : Int32) (w9 : Int32) (w10 : Int32) (w11 : Int32) (w12 : Int32) (w13 : Int32) (w14 : Int32) (g15 : Nat) (w16 : Int32) (g17 : Nat) (w18 : Int32) (w19 : Int32) (g20 : Nat) (w21 : Int32) (g22 : Nat) (g23 : Nat) (g24 : Nat) (w25 : Int32) (w26 : Int32) (w27 : Int32) (g28 : Nat) (g29 : Nat) (w30 : Int32) (g31 : Nat) (g32 : Nat) (g33 : Nat) (fa : Nat → Int32) (fr : Nat → Int64) : Option Value → va_W → Prop := fun rr ww => (∃ (z : Int32), rr = some (.int z) ∧ ww = [(o, .inr (8, [.int w0, .ref g1, .ref g2, .ref g3, .ref g4, .int (nI tp), .int w6, .int w7, .int w8, .int w9, .int w10, .int w11, .int w12, .int w13, .int w14, .ref g15, .int w16, .ref g17, .int w18, .int w19, .ref g20, .int w21, .ref g22, .ref g23, .ref g24, .int w25, .int w26, .int w27, .ref g28, .ref g29, .int w30, .ref g31, .ref g32, .ref g33])), (g1, .inl (T 0, 282, .inl fa)), (g20, .inl (T 1, 10, .inr (.inl fr)))])
set_option maxHeartbeats 4000000 in
set_option maxRecDepth 100000 in
theorem m_pulling (l : Launch) (D : va_G) (T : Nat → ClassId) (n : Nat) (o : Nat) (t : Int32) (w0 : Int32) (g1 : Nat) (g2 : Nat) (g3 : Nat) (g4 : Nat) (tp : Nat) (w6 : Int32) (w7 : Int32) (w8 : Int32) (w9 : Int32) (w10 : Int32) (w11 : Int32) (w12 : Int32) (w13 : Int32) (w14 : Int32) (g15 : Nat) (w16 : Int32) (g17 : Nat) (w18 : Int32) (w19 : Int32) (g20 : Nat) (w21 : Int32) (g22 : Nat) (g23 : Nat) (g24 : Nat) (w25 : Int32) (w26 : Int32) (w27 : Int32) (g28 : Nat) (g29 : Nat) (w30 : Int32) (g31 : Nat) (g32 : Nat) (g33 : Nat) (fa : Nat → Int32) (fr : Nat → Int64) (h_a : MI n fa) : Ct l yX8_pulling cX8_pulling 4 (some .int) 1 0 0 D T [.ref o, .int t] [(o, .inr (8, [.int w0, .ref g1, .ref g2, .ref g3, .ref g4, .int (nI tp), .int w6, .int w7, .int w8, .int w9, .int w10, .int w11, .int w12, .int w13, .int w14, .ref g15, .int w16, .ref g17, .int w18, .int w19, .ref g20, .int w21, .ref g22, .ref g23, .ref g24, .int w25, .int w26, .int w27, .ref g28, .ref g29, .int w30, .ref g31, .ref g32, .ref g33])), (g1, .inl (T 0, 282, .inl fa)), (g20, .inl (T 1, 10, .inr (.inl fr)))] (q_m_pulling T n o t w0 g1 g2 g3 g4 tp w6 w7 w8 w9 w10 w11 w12 w13 w14 g15 w16 g17 w18 w19 g20 w21 g22 g23 g24 w25 w26 w27 g28 g29 w30 g31 g32 g33 fa fr) := by
  refine Ct.of (cc := cX8_pulling) (maxL := 4) (ret := (some .int)) (by decide) (Nat.le_of_ble_eq_true rfl) ?_
  intro p e s m args below meth c A ls hC hnm V hl
  obtain ⟨hx, hb, hr, hml, hown, hts, hlocks⟩ := id hC
  generalize hH : s.heap = H at V ⊢
  clear hH
  have hl : lv_has ls 4 [(0, .ref o), (1, .int t)] := hl
  generalize hlo : ([] : List Loc) = locs at V ⊢
  clear hlo
  have ms0 := ms_rf h_a
  have hn10 := h_a.1
  refine lv_iconst (v := (nI 0)) hx hb dX8_pulling_0 (by decide +kernel) ?_
  refine lv_istore_n (lv' := [(2, .int (nI 0)), (0, .ref o), (1, .int t)]) hx hb dX8_pulling_1 rfl hl (by decide) rfl (fun ls hl => ?_)
  refine lv_iconst (v := (nI 0)) hx hb dX8_pulling_2 (by decide +kernel) ?_
  refine lv_istore_n (lv' := [(3, .int (nI 0)), (2, .int (nI 0)), (0, .ref o), (1, .int t)]) hx hb dX8_pulling_3 rfl hl (by decide) rfl (fun ls hl => ?_)
  have L_1 : ∀ (fu : Nat) (k4 : Nat) (x4_2 : Int32), k4 ≤ n → n - k4 < fu → ∀ (H : Heap) (locs : List Loc) (ls : Array Slot), gW D T A s [(o, .inr (8, [.int w0, .ref g1, .ref g2, .ref g3, .ref g4, .int (nI tp), .int w6, .int w7, .int w8, .int w9, .int w10, .int w11, .int w12, .int w13, .int w14, .ref g15, .int w16, .ref g17, .int w18, .int w19, .ref g20, .int w21, .ref g22, .ref g23, .ref g24, .int w25, .int w26, .int w27, .ref g28, .ref g29, .int w30, .ref g31, .ref g32, .ref g33])), (g1, .inl (T 0, 282, .inl fa)), (g20, .inl (T 1, 10, .inr (.inl fr)))] H locs → lv_has ls 4 [(3, .int (nI k4)), (2, .int x4_2), (0, .ref o), (1, .int t)] → W p l e (rmD 1 0 0) s m args below meth c H locs 0 0 (MQ below (gQ D A (q_m_pulling T n o t w0 g1 g2 g3 g4 tp w6 w7 w8 w9 w10 w11 w12 w13 w14 g15 w16 g17 w18 w19 g20 w21 g22 g23 g24 w25 w26 w27 g28 g29 w30 g31 g32 g33 fa fr)) args s 0 0 A) (F0 m 4 ls []) := by
    intro fu_4
    induction fu_4 with
    | zero => intro k4 x4_2 hk4 hmu; exact absurd hmu (Nat.not_lt_zero _)
    | succ fu_4 ih_4 =>
      intro k4 x4_2 hk4 hmu_4 H locs ls V hl
      refine lv_iload_n hx hb dX8_pulling_4 rfl (lv_at hl 0 rfl) ?_
      refine lv_aload_n hx hb dX8_pulling_5 rfl (lv_at hl 2 rfl) ?_
      refine g_get hC V (ci := 8) uwX8 0 rfl rfl 1 (by decide) w_913 rfl rfl dX8_pulling_6 ?_
      refine lv_iconst (v := (nI 0)) hx hb dX8_pulling_9 (by decide +kernel) ?_
      refine g_iald hC V 1 rfl (vp_in_nI (by decide) (by decide)) (v := (nI n)) (by rw [nI_clamp (by decide)]; first | rfl | exact h_a.2.1) dX8_pulling_10 ?_
      refine lv_icmp_ge (tgt := 43) hx hb dX8_pulling_11 (by decide) (fun c_2 => ?_) (fun c_2 => ?_)
      · skip
        have c_2 := b_le (by omega) (by omega) c_2
        refine lv_iload_n hx hb dX8_pulling_43 rfl (lv_at hl 1 rfl) ?_
        exact g_iret (Qr := (q_m_pulling T n o t w0 g1 g2 g3 g4 tp w6 w7 w8 w9 w10 w11 w12 w13 w14 g15 w16 g17 w18 w19 g20 w21 g22 g23 g24 w25 w26 w27 g28 g29 w30 g31 g32 g33 fa fr)) hC V ⟨(Nat.le_of_ble_eq_true rfl), (Nat.le_of_ble_eq_true rfl)⟩ ⟨x4_2, rfl, rfl⟩ dX8_pulling_44
      · skip
        have c_2 := b_nle (by omega) (by omega) c_2
        refine lv_iload_n hx hb dX8_pulling_14 rfl (lv_at hl 1 rfl) ?_
        refine lv_aload_n hx hb dX8_pulling_15 rfl (lv_at hl 2 rfl) ?_
        refine g_get hC V (ci := 8) uwX8 0 rfl rfl 20 (by decide) w_932 rfl rfl dX8_pulling_16 ?_
        refine lv_iload_n hx hb dX8_pulling_19 rfl (lv_at hl 0 rfl) ?_
        refine g_lald hC V 2 rfl (vp_in_nI (by omega) (by omega)) (v := (fr k4)) (congrArg _ (nI_clamp (by omega))) dX8_pulling_20 ?_
        refine lv_iload_n hx hb dX8_pulling_21 rfl (lv_at hl 3 rfl) ?_
        refine g_callSU (nA := 2) hC V hl.1 (m_isIn l D T (fr k4) t) w_1130 w_1131 w_9 w_1132 (by decide +kernel) rfl ⟨(Nat.le_of_ble_eq_true rfl), (Nat.le_of_ble_eq_true rfl)⟩ [] rfl rfl (Nat.le_of_ble_eq_true rfl) dX8_pulling_22 ⟨(Nat.le_of_ble_eq_true rfl), (Nat.le_of_ble_eq_true rfl)⟩ rfl (fun r w1 H locs hQ V => ?_)
        rcases hQ with ⟨rfl, rfl⟩ | ⟨rfl, rfl⟩
        · have V : gW D T A s [(o, .inr (8, [.int w0, .ref g1, .ref g2, .ref g3, .ref g4, .int (nI tp), .int w6, .int w7, .int w8, .int w9, .int w10, .int w11, .int w12, .int w13, .int w14, .ref g15, .int w16, .ref g17, .int w18, .int w19, .ref g20, .int w21, .ref g22, .ref g23, .ref g24, .int w25, .int w26, .int w27, .ref g28, .ref g29, .int w30, .ref g31, .ref g32, .ref g33])), (g1, .inl (T 0, 282, .inl fa)), (g20, .inl (T 1, 10, .inr (.inl fr)))] H locs := V _ [] rfl rfl rfl (by decide +kernel) rfl
          show W p l e _ s m args below meth c H locs _ _ _ (F0 m 25 ls [.int (nI 1), .int x4_2])
          refine lv_if_eq (tgt := 34) hx hb dX8_pulling_25 (by decide) (fun c => absurd (show (nI 1) = 0 from c) (by decide +kernel)) (fun _ => ?_)
          refine lv_iconst (v := (nI 1)) hx hb dX8_pulling_28 (by decide +kernel) ?_
          refine lv_iload_n hx hb dX8_pulling_29 rfl (lv_at hl 0 rfl) ?_
          refine lv_ishl hx hb dX8_pulling_30 ?_
          refine lv_goto (tgt := 35) hx hb dX8_pulling_31 (by decide) ?_
          refine lv_ior hx hb dX8_pulling_35 ?_
          refine lv_istore_n (lv' := [(2, .int (x4_2 ||| ((nI 1) <<< ((nI k4) &&& 31)))), (3, .int (nI k4)), (0, .ref o), (1, .int t)]) hx hb dX8_pulling_36 rfl hl (by decide) rfl (fun ls hl => ?_)
          refine lv_iinc (v := (nI (k4 + 1))) (lv' := [(3, .int (nI (k4 + 1))), (2, .int (x4_2 ||| ((nI 1) <<< ((nI k4) &&& 31)))), (0, .ref o), (1, .int t)]) hx hb dX8_pulling_37 hl (k := 1) rfl (nI_1 _) (by decide) rfl (fun ls hl => ?_)
          refine lv_goto (tgt := 4) hx hb dX8_pulling_40 (by decide) ?_
          exact ih_4 (k4 + 1) (x4_2 ||| ((nI 1) <<< ((nI k4) &&& 31))) (by omega) (by omega) _ _ _ V (lv_sub hl [0, 1, 2, 3] rfl)
        · have V : gW D T A s [(o, .inr (8, [.int w0, .ref g1, .ref g2, .ref g3, .ref g4, .int (nI tp), .int w6, .int w7, .int w8, .int w9, .int w10, .int w11, .int w12, .int w13, .int w14, .ref g15, .int w16, .ref g17, .int w18, .int w19, .ref g20, .int w21, .ref g22, .ref g23, .ref g24, .int w25, .int w26, .int w27, .ref g28, .ref g29, .int w30, .ref g31, .ref g32, .ref g33])), (g1, .inl (T 0, 282, .inl fa)), (g20, .inl (T 1, 10, .inr (.inl fr)))] H locs := V _ [] rfl rfl rfl (by decide +kernel) rfl
          show W p l e _ s m args below meth c H locs _ _ _ (F0 m 25 ls [.int (nI 0), .int x4_2])
          refine lv_if_eq (tgt := 34) hx hb dX8_pulling_25 (by decide) (fun _ => ?_) (fun c => absurd (show (nI 0) = 0 by decide +kernel) c)
          refine lv_iconst (v := (nI 0)) hx hb dX8_pulling_34 (by decide +kernel) ?_
          refine lv_ior hx hb dX8_pulling_35 ?_
          refine lv_istore_n (lv' := [(2, .int (x4_2 ||| (nI 0))), (3, .int (nI k4)), (0, .ref o), (1, .int t)]) hx hb dX8_pulling_36 rfl hl (by decide) rfl (fun ls hl => ?_)
          refine lv_iinc (v := (nI (k4 + 1))) (lv' := [(3, .int (nI (k4 + 1))), (2, .int (x4_2 ||| (nI 0))), (0, .ref o), (1, .int t)]) hx hb dX8_pulling_37 hl (k := 1) rfl (nI_1 _) (by decide) rfl (fun ls hl => ?_)
          refine lv_goto (tgt := 4) hx hb dX8_pulling_40 (by decide) ?_
          exact ih_4 (k4 + 1) (x4_2 ||| (nI 0)) (by omega) (by omega) _ _ _ V (lv_sub hl [0, 1, 2, 3] rfl)
  exact L_1 _ 0 (nI 0) (by omega) (Nat.lt_succ_self _) _ _ _ V (lv_sub hl [0, 1, 2, 3] rfl)

theorem dn_pos {k : Nat} {x : Int32} (e : x = nI k - nI 1) (hk : k ≤ 1000) (h : ¬ x < 0) : 1 ≤ k ∧ x = nI (k - 1) := by
  have h1 : 1 ≤ k := by
    rcases Nat.eq_zero_or_pos k with h0 | h0
    · subst h0
      exfalso
      apply h
      rw [e]
      decide +kernel
    · exact h0
  exact ⟨h1, by rw [e, nI_sub h1]⟩
theorem dn_step (x : Int32) : x + -1 = x - nI 1 := by
  rw [Int32.sub_eq_add_neg]
  rfl

def q_m_holdsBy (T : Nat → ClassId) (n : Nat) (o : Nat) (le : Nat) (w0 : Int32) (g1 : Nat) (g2 : Nat) (g3 : Nat) (g4 : Nat) (tp : Nat) (w6 : Int32) (w7 : Int32) (w8 : Int32) (w9 : Int32) (w10 : Int32) (w11 : Int32) (w12 : Int32) (w13 : Int32) (w14 : Int32) (g15 : Nat) (w16 : Int32) (g17 : Nat) (w18 : Int32) (w19 : Int32) (g20 : Nat) (w21 : Int32) (g22 : Nat) (g23 : Nat) (g24 : Nat) (w25 : Int32) (w26 : Int32) (w27 : Int32) (g28 : Nat) (g29 : Nat) (w30 : Int32) (g31 : Nat) (g32 : Nat) (g33 : Nat) (fa : Nat → Int32) (fh : Nat → Int32) (fk : Nat → Int32) (fr : Nat → Int64) : Option Value → va_W → Prop := fun rr ww => (∃ (z : Int32) (wq : Int32) (gh : Nat → Int32) (gk : Nat → Int32), rr = some (.int z) ∧ ww = [(o, .inr (8, [.int w0, .ref g1, .ref g2, .ref g3, .ref g4, .int (nI tp), .int w6, .int w7, .int w8, .int w9, .int w10, .int w11, .int w12, .int w13, .int w14, .ref g15, .int w16, .ref g17, .int w18, .int w19, .ref g20, .int wq, .ref g22, .ref g23, .ref g24, .int w25, .int w26, .int w27, .ref g28, .ref g29, .int w30, .ref g31, .ref g32, .ref g33])), (g1, .inl (T 0, 282, .inl fa)), (g15, .inl (T 0, 10, .inl gh)), (g17, .inl (T 0, 94, .inl gk)), (g20, .inl (T 1, 10, .inr (.inl fr)))])
set_option maxHeartbeats 4000000 in
set_option maxRecDepth 100000 in
theorem m_holdsBy (l : Launch) (D : va_G) (T : Nat → ClassId) (n : Nat) (o : Nat) (le : Nat) (w0 : Int32) (g1 : Nat) (g2 : Nat) (g3 : Nat) (g4 : Nat) (tp : Nat) (w6 : Int32) (w7 : Int32) (w8 : Int32) (w9 : Int32) (w10 : Int32) (w11 : Int32) (w12 : Int32) (w13 : Int32) (w14 : Int32) (g15 : Nat) (w16 : Int32) (g17 : Nat) (w18 : Int32) (w19 : Int32) (g20 : Nat) (w21 : Int32) (g22 : Nat) (g23 : Nat) (g24 : Nat) (w25 : Int32) (w26 : Int32) (w27 : Int32) (g28 : Nat) (g29 : Nat) (w30 : Int32) (g31 : Nat) (g32 : Nat) (g33 : Nat) (fa : Nat → Int32) (fh : Nat → Int32) (fk : Nat → Int32) (fr : Nat → Int64) (h_a : MI n fa) (h_l : 1 ≤ le ∧ le ≤ 12) : Ct l yX8_holdsBy cX8_holdsBy 6 (some .int) 3 0 0 D T [.ref o, .int (nI le)] [(o, .inr (8, [.int w0, .ref g1, .ref g2, .ref g3, .ref g4, .int (nI tp), .int w6, .int w7, .int w8, .int w9, .int w10, .int w11, .int w12, .int w13, .int w14, .ref g15, .int w16, .ref g17, .int w18, .int w19, .ref g20, .int w21, .ref g22, .ref g23, .ref g24, .int w25, .int w26, .int w27, .ref g28, .ref g29, .int w30, .ref g31, .ref g32, .ref g33])), (g1, .inl (T 0, 282, .inl fa)), (g15, .inl (T 0, 10, .inl fh)), (g17, .inl (T 0, 94, .inl fk)), (g20, .inl (T 1, 10, .inr (.inl fr)))] (q_m_holdsBy T n o le w0 g1 g2 g3 g4 tp w6 w7 w8 w9 w10 w11 w12 w13 w14 g15 w16 g17 w18 w19 g20 w21 g22 g23 g24 w25 w26 w27 g28 g29 w30 g31 g32 g33 fa fh fk fr) := by
  refine Ct.of (cc := cX8_holdsBy) (maxL := 6) (ret := (some .int)) (by decide) (Nat.le_of_ble_eq_true rfl) ?_
  intro p e s m args below meth c A ls hC hnm V hl
  obtain ⟨hx, hb, hr, hml, hown, hts, hlocks⟩ := id hC
  generalize hH : s.heap = H at V ⊢
  clear hH
  have hl : lv_has ls 6 [(0, .ref o), (1, .int (nI le))] := hl
  generalize hlo : ([] : List Loc) = locs at V ⊢
  clear hlo
  have ms0 := ms_rf h_a
  have hn10 := h_a.1
  refine lv_aload_n hx hb dX8_holdsBy_0 rfl (lv_at hl 0 rfl) ?_
  refine g_callVU (nA := 0) hC V hl.1 (m_keeps l D T o w0 g1 g2 g3 g4 tp w6 w7 w8 w9 w10 w11 w12 w13 w14 g15 w16 g17 w18 w19 g20 w21 g22 g23 g24 w25 w26 w27 g28 g29 w30 g31 g32 g33 fa fk) w_1146 w_1148 w_s53 w_9 w_1149 (by decide +kernel) rfl ⟨(Nat.le_of_ble_eq_true rfl), (Nat.le_of_ble_eq_true rfl)⟩ 0 (ci := 8) rfl rfl [0, 1, 3] rfl rfl (Nat.le_of_ble_eq_true rfl) dX8_holdsBy_1 ⟨(Nat.le_of_ble_eq_true rfl), (Nat.le_of_ble_eq_true rfl)⟩ rfl (fun r w1 H locs hQ V => ?_)
  obtain ⟨gk_1, rfl, rfl, f_2⟩ := hQ
  have V : gW D T A s [(o, .inr (8, [.int w0, .ref g1, .ref g2, .ref g3, .ref g4, .int (nI tp), .int w6, .int w7, .int w8, .int w9, .int w10, .int w11, .int w12, .int w13, .int w14, .ref g15, .int w16, .ref g17, .int w18, .int w19, .ref g20, .int w21, .ref g22, .ref g23, .ref g24, .int w25, .int w26, .int w27, .ref g28, .ref g29, .int w30, .ref g31, .ref g32, .ref g33])), (g1, .inl (T 0, 282, .inl fa)), (g15, .inl (T 0, 10, .inl fh)), (g17, .inl (T 0, 94, .inl gk_1)), (g20, .inl (T 1, 10, .inr (.inl fr)))] H locs := V _ [0, 0, 1] rfl rfl rfl (by decide +kernel) rfl
  show W p l e _ s m args below meth c H locs _ _ _ (F0 m 4 ls [])
  refine lv_iconst (v := (-1)) hx hb dX8_holdsBy_4 (by decide +kernel) ?_
  refine lv_istore_n (lv' := [(2, .int (-1)), (0, .ref o), (1, .int (nI le))]) hx hb dX8_holdsBy_5 rfl hl (by decide) rfl (fun ls hl => ?_)
  refine lv_aload_n hx hb dX8_holdsBy_6 rfl (lv_at hl 1 rfl) ?_
  refine lv_iconst (v := (-1)) hx hb dX8_holdsBy_7 (by decide +kernel) ?_
  refine g_put hC V (ci := 8) uwX8 tyX8 tyX8_ok nmX8 0 rfl rfl 21 (by decide) w_933 rfl rfl rfl rfl (Nat.le_of_ble_eq_true rfl) (ws' := [(o, .inr (8, [.int w0, .ref g1, .ref g2, .ref g3, .ref g4, .int (nI tp), .int w6, .int w7, .int w8, .int w9, .int w10, .int w11, .int w12, .int w13, .int w14, .ref g15, .int w16, .ref g17, .int w18, .int w19, .ref g20, .int (-1), .ref g22, .ref g23, .ref g24, .int w25, .int w26, .int w27, .ref g28, .ref g29, .int w30, .ref g31, .ref g32, .ref g33])), (g1, .inl (T 0, 282, .inl fa)), (g15, .inl (T 0, 10, .inl fh)), (g17, .inl (T 0, 94, .inl gk_1)), (g20, .inl (T 1, 10, .inr (.inl fr)))]) rfl dX8_holdsBy_8 (fun H locs V => ?_)
  refine lv_iconst (v := (nI 0)) hx hb dX8_holdsBy_11 (by decide +kernel) ?_
  refine lv_istore_n (lv' := [(3, .int (nI 0)), (2, .int (-1)), (0, .ref o), (1, .int (nI le))]) hx hb dX8_holdsBy_12 rfl hl (by decide) rfl (fun ls hl => ?_)
  have L_3 : ∀ (fu : Nat) (k13 : Nat) (x13_2 : Int32) (wv : Int32) (th : Nat → Int32) (f13 : Nat → Int32), k13 ≤ 201 * le + 2 → MS n fa f13 → 201 * le + 2 - k13 < fu → ∀ (H : Heap) (locs : List Loc) (ls : Array Slot), gW D T A s [(o, .inr (8, [.int w0, .ref g1, .ref g2, .ref g3, .ref g4, .int (nI tp), .int w6, .int w7, .int w8, .int w9, .int w10, .int w11, .int w12, .int w13, .int w14, .ref g15, .int w16, .ref g17, .int w18, .int w19, .ref g20, .int wv, .ref g22, .ref g23, .ref g24, .int w25, .int w26, .int w27, .ref g28, .ref g29, .int w30, .ref g31, .ref g32, .ref g33])), (g1, .inl (T 0, 282, .inl f13)), (g15, .inl (T 0, 10, .inl th)), (g17, .inl (T 0, 94, .inl gk_1)), (g20, .inl (T 1, 10, .inr (.inl fr)))] H locs → lv_has ls 6 [(3, .int (nI k13)), (2, .int x13_2), (0, .ref o), (1, .int (nI le))] → W p l e (rmD 3 0 0) s m args below meth c H locs 0 0 (MQ below (gQ D A (q_m_holdsBy T n o le w0 g1 g2 g3 g4 tp w6 w7 w8 w9 w10 w11 w12 w13 w14 g15 w16 g17 w18 w19 g20 w21 g22 g23 g24 w25 w26 w27 g28 g29 w30 g31 g32 g33 fa fh fk fr)) args s 0 0 A) (F0 m 13 ls []) := by
    intro fu_13
    induction fu_13 with
    | zero => intro k13 x13_2 wv th f13 hk13 hf13 hmu; exact absurd hmu (Nat.not_lt_zero _)
    | succ fu_13 ih_13 =>
      intro k13 x13_2 wv th f13 hk13 hf13 hmu_13 H locs ls V hl
      refine lv_iload_n hx hb dX8_holdsBy_13 rfl (lv_at hl 0 rfl) ?_
      refine lv_sipush (v := (nI 201)) hx hb dX8_holdsBy_14 (by decide +kernel) ?_
      refine lv_iload_n hx hb dX8_holdsBy_17 rfl (lv_at hl 3 rfl) ?_
      refine lv_imul hx hb dX8_holdsBy_18 ?_
      refine g_vi (y := (nI (201 * le))) (pk_mul _ _) ?_
      refine lv_iconst (v := (nI 2)) hx hb dX8_holdsBy_19 (by decide +kernel) ?_
      refine lv_iadd hx hb dX8_holdsBy_20 ?_
      refine g_vi (y := (nI ((201 * le) + 2))) (nI_add _ _) ?_
      refine lv_icmp_ge (tgt := 140) hx hb dX8_holdsBy_21 (by decide) (fun c_4 => ?_) (fun c_4 => ?_)
      · skip
        have c_4 := b_le (by omega) (by omega) c_4
        refine lv_aload_n hx hb dX8_holdsBy_140 rfl (lv_at hl 2 rfl) ?_
        refine g_callVU (nA := 0) hC V hl.1 (m_isAgain l D T o w0 g1 g2 g3 g4 tp w6 w7 w8 w9 w10 w11 w12 w13 w14 g15 w16 g17 w18 w19 g20 wv g22 g23 g24 w25 w26 w27 g28 g29 w30 g31 g32 g33 f13 gk_1) w_1162 w_1164 w_s57 w_9 w_1165 (by decide +kernel) rfl ⟨(Nat.le_of_ble_eq_true rfl), (Nat.le_of_ble_eq_true rfl)⟩ 0 (ci := 8) rfl rfl [0, 1, 3] rfl rfl (Nat.le_of_ble_eq_true rfl) dX8_holdsBy_141 ⟨(Nat.le_of_ble_eq_true rfl), (Nat.le_of_ble_eq_true rfl)⟩ rfl (fun r w1 H locs hQ V => ?_)
        obtain ⟨ga_5, rfl, rfl, f_6, f_7⟩ := hQ
        have V : gW D T A s [(o, .inr (8, [.int w0, .ref g1, .ref g2, .ref g3, .ref g4, .int (nI tp), .int w6, .int w7, .int w8, .int w9, .int w10, .int w11, .int w12, .int w13, .int w14, .ref g15, .int w16, .ref g17, .int w18, .int w19, .ref g20, .int wv, .ref g22, .ref g23, .ref g24, .int w25, .int w26, .int w27, .ref g28, .ref g29, .int w30, .ref g31, .ref g32, .ref g33])), (g1, .inl (T 0, 282, .inl ga_5)), (g15, .inl (T 0, 10, .inl th)), (g17, .inl (T 0, 94, .inl gk_1)), (g20, .inl (T 1, 10, .inr (.inl fr)))] H locs := V _ [0, 0, 1] rfl rfl rfl (by decide +kernel) rfl
        show W p l e _ s m args below meth c H locs _ _ _ (F0 m 144 ls [])
        have ega_5 : ga_5 = fa := funext (fun j => if h : j < 94 then (f_6 j h).trans (f_2 j h) else (f_7 j (by omega)).trans ((by assumption : MS n fa _).2 j (by omega)))
        rw [ega_5] at V
        refine lv_iload_n hx hb dX8_holdsBy_144 rfl (lv_at hl 1 rfl) ?_
        exact g_iret (Qr := (q_m_holdsBy T n o le w0 g1 g2 g3 g4 tp w6 w7 w8 w9 w10 w11 w12 w13 w14 g15 w16 g17 w18 w19 g20 w21 g22 g23 g24 w25 w26 w27 g28 g29 w30 g31 g32 g33 fa fh fk fr)) hC V ⟨(Nat.le_of_ble_eq_true rfl), (Nat.le_of_ble_eq_true rfl)⟩ ⟨x13_2, wv, th, gk_1, rfl, rfl⟩ dX8_holdsBy_145
      · skip
        have c_4 := b_nle (by omega) (by omega) c_4
        refine lv_iload_n hx hb dX8_holdsBy_24 rfl (lv_at hl 1 rfl) ?_
        refine lv_iconst (v := (-1)) hx hb dX8_holdsBy_25 (by decide +kernel) ?_
        refine lv_icmp_ne (tgt := 140) hx hb dX8_holdsBy_26 (by decide) (fun c_8 => ?_) (fun c_8 => ?_)
        · skip
          refine lv_aload_n hx hb dX8_holdsBy_140 rfl (lv_at hl 2 rfl) ?_
          refine g_callVU (nA := 0) hC V hl.1 (m_isAgain l D T o w0 g1 g2 g3 g4 tp w6 w7 w8 w9 w10 w11 w12 w13 w14 g15 w16 g17 w18 w19 g20 wv g22 g23 g24 w25 w26 w27 g28 g29 w30 g31 g32 g33 f13 gk_1) w_1162 w_1164 w_s57 w_9 w_1165 (by decide +kernel) rfl ⟨(Nat.le_of_ble_eq_true rfl), (Nat.le_of_ble_eq_true rfl)⟩ 0 (ci := 8) rfl rfl [0, 1, 3] rfl rfl (Nat.le_of_ble_eq_true rfl) dX8_holdsBy_141 ⟨(Nat.le_of_ble_eq_true rfl), (Nat.le_of_ble_eq_true rfl)⟩ rfl (fun r w1 H locs hQ V => ?_)
          obtain ⟨ga_9, rfl, rfl, f_10, f_11⟩ := hQ
          have V : gW D T A s [(o, .inr (8, [.int w0, .ref g1, .ref g2, .ref g3, .ref g4, .int (nI tp), .int w6, .int w7, .int w8, .int w9, .int w10, .int w11, .int w12, .int w13, .int w14, .ref g15, .int w16, .ref g17, .int w18, .int w19, .ref g20, .int wv, .ref g22, .ref g23, .ref g24, .int w25, .int w26, .int w27, .ref g28, .ref g29, .int w30, .ref g31, .ref g32, .ref g33])), (g1, .inl (T 0, 282, .inl ga_9)), (g15, .inl (T 0, 10, .inl th)), (g17, .inl (T 0, 94, .inl gk_1)), (g20, .inl (T 1, 10, .inr (.inl fr)))] H locs := V _ [0, 0, 1] rfl rfl rfl (by decide +kernel) rfl
          show W p l e _ s m args below meth c H locs _ _ _ (F0 m 144 ls [])
          have ega_9 : ga_9 = fa := funext (fun j => if h : j < 94 then (f_10 j h).trans (f_2 j h) else (f_11 j (by omega)).trans ((by assumption : MS n fa _).2 j (by omega)))
          rw [ega_9] at V
          refine lv_iload_n hx hb dX8_holdsBy_144 rfl (lv_at hl 1 rfl) ?_
          exact g_iret (Qr := (q_m_holdsBy T n o le w0 g1 g2 g3 g4 tp w6 w7 w8 w9 w10 w11 w12 w13 w14 g15 w16 g17 w18 w19 g20 w21 g22 g23 g24 w25 w26 w27 g28 g29 w30 g31 g32 g33 fa fh fk fr)) hC V ⟨(Nat.le_of_ble_eq_true rfl), (Nat.le_of_ble_eq_true rfl)⟩ ⟨x13_2, wv, th, gk_1, rfl, rfl⟩ dX8_holdsBy_145
        · skip
          refine lv_aload_n hx hb dX8_holdsBy_29 rfl (lv_at hl 2 rfl) ?_
          refine lv_iload_n hx hb dX8_holdsBy_30 rfl (lv_at hl 0 rfl) ?_
          refine lv_iload_n hx hb dX8_holdsBy_31 rfl (lv_at hl 3 rfl) ?_
          refine lv_irem hx hb dX8_holdsBy_32 (nI_ne0 (by omega) (by omega)) ?_
          refine g_callVU (nA := 1) hC V hl.1 (m_pulling l D T n o ((nI k13) - (nI k13) / (nI le) * (nI le)) w0 g1 g2 g3 g4 tp w6 w7 w8 w9 w10 w11 w12 w13 w14 g15 w16 g17 w18 w19 g20 wv g22 g23 g24 w25 w26 w27 g28 g29 w30 g31 g32 g33 f13 fr hf13.1) w_1233 w_1235 w_s65 w_9 w_1236 (by decide +kernel) rfl ⟨(Nat.le_of_ble_eq_true rfl), (Nat.le_of_ble_eq_true rfl)⟩ 0 (ci := 8) rfl rfl [0, 1, 4] rfl rfl (Nat.le_of_ble_eq_true rfl) dX8_holdsBy_33 ⟨(Nat.le_of_ble_eq_true rfl), (Nat.le_of_ble_eq_true rfl)⟩ rfl (fun r w1 H locs hQ V => ?_)
          obtain ⟨z_12, rfl, rfl⟩ := hQ
          have V : gW D T A s [(o, .inr (8, [.int w0, .ref g1, .ref g2, .ref g3, .ref g4, .int (nI tp), .int w6, .int w7, .int w8, .int w9, .int w10, .int w11, .int w12, .int w13, .int w14, .ref g15, .int w16, .ref g17, .int w18, .int w19, .ref g20, .int wv, .ref g22, .ref g23, .ref g24, .int w25, .int w26, .int w27, .ref g28, .ref g29, .int w30, .ref g31, .ref g32, .ref g33])), (g1, .inl (T 0, 282, .inl f13)), (g15, .inl (T 0, 10, .inl th)), (g17, .inl (T 0, 94, .inl gk_1)), (g20, .inl (T 1, 10, .inr (.inl fr)))] H locs := V _ [0, 0, 2] rfl rfl rfl (by decide +kernel) rfl
          show W p l e _ s m args below meth c H locs _ _ _ (F0 m 36 ls [.int z_12])
          refine lv_istore (lv' := [(4, .int z_12), (3, .int (nI k13)), (2, .int x13_2), (0, .ref o), (1, .int (nI le))]) hx hb dX8_holdsBy_36 hl (by decide) rfl (fun ls hl => ?_)
          refine lv_iconst (v := (nI 0)) hx hb dX8_holdsBy_38 (by decide +kernel) ?_
          refine lv_istore (lv' := [(5, .int (nI 0)), (4, .int z_12), (3, .int (nI k13)), (2, .int x13_2), (0, .ref o), (1, .int (nI le))]) hx hb dX8_holdsBy_39 hl (by decide) rfl (fun ls hl => ?_)
          have L_13 : ∀ (fu : Nat) (k41 : Nat) (th2 : Nat → Int32), k41 ≤ n → (∀ i, i < k41 → bd (th2 i) 201) → n - k41 < fu → ∀ (H : Heap) (locs : List Loc) (ls : Array Slot), gW D T A s [(o, .inr (8, [.int w0, .ref g1, .ref g2, .ref g3, .ref g4, .int (nI tp), .int w6, .int w7, .int w8, .int w9, .int w10, .int w11, .int w12, .int w13, .int w14, .ref g15, .int w16, .ref g17, .int w18, .int w19, .ref g20, .int wv, .ref g22, .ref g23, .ref g24, .int w25, .int w26, .int w27, .ref g28, .ref g29, .int w30, .ref g31, .ref g32, .ref g33])), (g1, .inl (T 0, 282, .inl f13)), (g15, .inl (T 0, 10, .inl th2)), (g17, .inl (T 0, 94, .inl gk_1)), (g20, .inl (T 1, 10, .inr (.inl fr)))] H locs → lv_has ls 6 [(5, .int (nI k41)), (4, .int z_12), (3, .int (nI k13)), (2, .int x13_2), (0, .ref o), (1, .int (nI le))] → W p l e (rmD 3 0 0) s m args below meth c H locs 0 0 (MQ below (gQ D A (q_m_holdsBy T n o le w0 g1 g2 g3 g4 tp w6 w7 w8 w9 w10 w11 w12 w13 w14 g15 w16 g17 w18 w19 g20 w21 g22 g23 g24 w25 w26 w27 g28 g29 w30 g31 g32 g33 fa fh fk fr)) args s 0 0 A) (F0 m 41 ls []) := by
            intro fu_41
            induction fu_41 with
            | zero => intro k41 th2 hk41 ht2 hmu; exact absurd hmu (Nat.not_lt_zero _)
            | succ fu_41 ih_41 =>
              intro k41 th2 hk41 ht2 hmu_41 H locs ls V hl
              refine lv_iload hx hb dX8_holdsBy_41 (lv_at hl 0 rfl) ?_
              refine lv_aload_n hx hb dX8_holdsBy_43 rfl (lv_at hl 4 rfl) ?_
              refine g_get hC V (ci := 8) uwX8 0 rfl rfl 1 (by decide) w_913 rfl rfl dX8_holdsBy_44 ?_
              refine lv_iconst (v := (nI 0)) hx hb dX8_holdsBy_47 (by decide +kernel) ?_
              refine g_iald hC V 1 rfl (vp_in_nI (by decide) (by decide)) (v := (nI n)) (by rw [nI_clamp (by decide)]; first | rfl | exact h_a.2.1 | exact hf13.1.2.1 | exact hf84.1.2.1) dX8_holdsBy_48 ?_
              refine lv_icmp_ge (tgt := 74) hx hb dX8_holdsBy_49 (by decide) (fun c_14 => ?_) (fun c_14 => ?_)
              · skip
                have c_14 := b_le (by omega) (by omega) c_14
                have hth2 : ∀ i, i < n → bd (th2 i) 201 := fun i h => ht2 i (by omega)
                refine lv_aload_n hx hb dX8_holdsBy_74 rfl (lv_at hl 4 rfl) ?_
                refine g_get hC V (ci := 8) uwX8 0 rfl rfl 1 (by decide) w_913 rfl rfl dX8_holdsBy_75 ?_
                refine lv_iconst (v := (nI 0)) hx hb dX8_holdsBy_78 (by decide +kernel) ?_
                refine g_iald hC V 1 rfl (vp_in_nI (by decide) (by decide)) (v := (nI n)) (by rw [nI_clamp (by decide)]; first | rfl | exact h_a.2.1 | exact hf13.1.2.1 | exact hf84.1.2.1) dX8_holdsBy_79 ?_
                refine lv_iconst (v := (nI 1)) hx hb dX8_holdsBy_80 (by decide +kernel) ?_
                refine lv_isub hx hb dX8_holdsBy_81 ?_
                refine lv_istore (lv' := [(5, .int ((nI n) - (nI 1))), (4, .int z_12), (3, .int (nI k13)), (2, .int x13_2), (0, .ref o), (1, .int (nI le))]) hx hb dX8_holdsBy_82 hl (by decide) rfl (fun ls hl => ?_)
                have L_15 : ∀ (fu : Nat) (iv : Int32) (x84_2 : Int32) (wv2 : Int32) (f84 : Nat → Int32) (kd : Nat), MS n fa f84 → iv = nI kd - nI 1 → kd ≤ n → kd < fu → ∀ (H : Heap) (locs : List Loc) (ls : Array Slot), gW D T A s [(o, .inr (8, [.int w0, .ref g1, .ref g2, .ref g3, .ref g4, .int (nI tp), .int w6, .int w7, .int w8, .int w9, .int w10, .int w11, .int w12, .int w13, .int w14, .ref g15, .int w16, .ref g17, .int w18, .int w19, .ref g20, .int wv2, .ref g22, .ref g23, .ref g24, .int w25, .int w26, .int w27, .ref g28, .ref g29, .int w30, .ref g31, .ref g32, .ref g33])), (g1, .inl (T 0, 282, .inl f84)), (g15, .inl (T 0, 10, .inl th2)), (g17, .inl (T 0, 94, .inl gk_1)), (g20, .inl (T 1, 10, .inr (.inl fr)))] H locs → lv_has ls 6 [(5, .int iv), (4, .int z_12), (3, .int (nI k13)), (2, .int x84_2), (0, .ref o), (1, .int (nI le))] → W p l e (rmD 3 0 0) s m args below meth c H locs 0 0 (MQ below (gQ D A (q_m_holdsBy T n o le w0 g1 g2 g3 g4 tp w6 w7 w8 w9 w10 w11 w12 w13 w14 g15 w16 g17 w18 w19 g20 w21 g22 g23 g24 w25 w26 w27 g28 g29 w30 g31 g32 g33 fa fh fk fr)) args s 0 0 A) (F0 m 84 ls []) := by
                  intro fu_84
                  induction fu_84 with
                  | zero => intro iv x84_2 wv2 f84 kd hf84 hiv hkd hmu; exact absurd hmu (Nat.not_lt_zero _)
                  | succ fu_84 ih_84 =>
                    intro iv x84_2 wv2 f84 kd hf84 hiv hkd hmu_84 H locs ls V hl
                    refine lv_iload hx hb dX8_holdsBy_84 (lv_at hl 0 rfl) ?_
                    refine lv_if_lt (tgt := 134) hx hb dX8_holdsBy_86 (by decide) (fun c_16 => ?_) (fun c_16 => ?_)
                    · skip
                      refine lv_iinc (v := (nI (k13 + 1))) (lv' := [(3, .int (nI (k13 + 1))), (5, .int iv), (4, .int z_12), (2, .int x84_2), (0, .ref o), (1, .int (nI le))]) hx hb dX8_holdsBy_134 hl (k := 2) rfl (nI_1 _) (by decide) rfl (fun ls hl => ?_)
                      refine lv_goto (tgt := 13) hx hb dX8_holdsBy_137 (by decide) ?_
                      exact ih_13 (k13 + 1) x84_2 wv2 th2 f84 (by omega) (by assumption) (by omega) _ _ _ V (lv_sub hl [0, 3, 4, 5] rfl)
                    · skip
                      obtain ⟨h1kd, ekd⟩ := dn_pos hiv (by omega) c_16
                      rw [ekd] at hl
                      refine lv_aload_n hx hb dX8_holdsBy_89 rfl (lv_at hl 4 rfl) ?_
                      refine g_get hC V (ci := 8) uwX8 0 rfl rfl 1 (by decide) w_913 rfl rfl dX8_holdsBy_90 ?_
                      refine lv_bipush (v := (nI 24)) hx hb dX8_holdsBy_93 (by decide +kernel) ?_
                      refine lv_iload hx hb dX8_holdsBy_95 (lv_at hl 0 rfl) ?_
                      refine lv_iadd hx hb dX8_holdsBy_97 ?_
                      refine g_vi (y := (nI (24 + (kd - 1)))) (nI_add _ _) ?_
                      refine lv_aload_n hx hb dX8_holdsBy_98 rfl (lv_at hl 4 rfl) ?_
                      refine g_get hC V (ci := 8) uwX8 0 rfl rfl 15 (by decide) w_927 rfl rfl dX8_holdsBy_99 ?_
                      refine lv_iload hx hb dX8_holdsBy_102 (lv_at hl 0 rfl) ?_
                      obtain ⟨j_17, hj_17, ej_17⟩ := bd_ex (hth2 (kd - 1) (by omega))
                      refine g_iald hC V 2 rfl (vp_in_nI (by omega) (by omega)) (v := (nI j_17)) (by rw [nI_clamp (by omega)]; exact ej_17) dX8_holdsBy_104 ?_
                      obtain ⟨f_18, ef_18⟩ : ∃ x, x = upd f84 (24 + (kd - 1)) (nI j_17) := ⟨_, rfl⟩
                      have hf_18 : MS n fa f_18 := by rw [ef_18]; exact ms_st (by assumption) (by omega) (by omega) (by intros; first | (exfalso; omega) | exact bd_nI (by omega) | exact bd_le ‹bd (nI j_17) _› (by omega) | assumption) (by intros; first | (exfalso; omega) | exact bd_nI (by omega) | exact bd_le ‹bd (nI j_17) _› (by omega) | assumption) (by intros; first | (exfalso; omega) | exact bd_nI (by omega) | exact bd_le ‹bd (nI j_17) _› (by omega) | assumption) (by intros; first | (exfalso; omega) | exact bd_nI (by omega) | exact bd_le ‹bd (nI j_17) _› (by omega) | assumption) (by intros; first | (exfalso; omega) | exact bd_nI (by omega) | exact bd_le ‹bd (nI j_17) _› (by omega) | assumption) (by intros; first | (exfalso; omega) | exact bd_nI (by omega) | exact bd_le ‹bd (nI j_17) _› (by omega) | assumption) (by intros; first | (exfalso; omega) | exact bd_nI (by omega) | exact bd_le ‹bd (nI j_17) _› (by omega) | assumption)
                      refine g_iast hC V 1 rfl (vp_in_nI (by omega) (by omega)) (f' := f_18) (by rw [nI_clamp (by omega)]; exact ef_18.symm) (ws' := [(o, .inr (8, [.int w0, .ref g1, .ref g2, .ref g3, .ref g4, .int (nI tp), .int w6, .int w7, .int w8, .int w9, .int w10, .int w11, .int w12, .int w13, .int w14, .ref g15, .int w16, .ref g17, .int w18, .int w19, .ref g20, .int wv2, .ref g22, .ref g23, .ref g24, .int w25, .int w26, .int w27, .ref g28, .ref g29, .int w30, .ref g31, .ref g32, .ref g33])), (g1, .inl (T 0, 282, .inl f_18)), (g15, .inl (T 0, 10, .inl th2)), (g17, .inl (T 0, 94, .inl gk_1)), (g20, .inl (T 1, 10, .inr (.inl fr)))]) rfl dX8_holdsBy_105 (fun H locs V => ?_)
                      refine lv_aload_n hx hb dX8_holdsBy_106 rfl (lv_at hl 4 rfl) ?_
                      refine lv_iload hx hb dX8_holdsBy_107 (lv_at hl 0 rfl) ?_
                      refine g_callVU (nA := 1) hC V hl.1 (m_isWarm l D T o (kd - 1) w0 g1 g2 g3 g4 tp w6 w7 w8 w9 w10 w11 w12 w13 w14 g15 w16 g17 w18 w19 g20 wv2 g22 g23 g24 w25 w26 w27 g28 g29 w30 g31 g32 g33 f_18 (by first | assumption | omega)) w_1136 w_1138 w_s52 w_9 w_1139 (by decide +kernel) rfl ⟨(Nat.le_of_ble_eq_true rfl), (Nat.le_of_ble_eq_true rfl)⟩ 0 (ci := 8) rfl rfl [0, 1] rfl rfl (Nat.le_of_ble_eq_true rfl) dX8_holdsBy_109 ⟨(Nat.le_of_ble_eq_true rfl), (Nat.le_of_ble_eq_true rfl)⟩ rfl (fun r w1 H locs hQ V => ?_)
                      rcases hQ with ⟨rfl, rfl⟩ | ⟨rfl, rfl⟩
                      · have V : gW D T A s [(o, .inr (8, [.int w0, .ref g1, .ref g2, .ref g3, .ref g4, .int (nI tp), .int w6, .int w7, .int w8, .int w9, .int w10, .int w11, .int w12, .int w13, .int w14, .ref g15, .int w16, .ref g17, .int w18, .int w19, .ref g20, .int wv2, .ref g22, .ref g23, .ref g24, .int w25, .int w26, .int w27, .ref g28, .ref g29, .int w30, .ref g31, .ref g32, .ref g33])), (g1, .inl (T 0, 282, .inl f_18)), (g15, .inl (T 0, 10, .inl th2)), (g17, .inl (T 0, 94, .inl gk_1)), (g20, .inl (T 1, 10, .inr (.inl fr)))] H locs := V _ [0, 0] rfl rfl rfl (by decide +kernel) rfl
                        show W p l e _ s m args below meth c H locs _ _ _ (F0 m 112 ls [.int (nI 1)])
                        refine lv_if_eq (tgt := 118) hx hb dX8_holdsBy_112 (by decide) (fun c => absurd (show (nI 1) = 0 from c) (by decide +kernel)) (fun _ => ?_)
                        refine lv_goto (tgt := 128) hx hb dX8_holdsBy_115 (by decide) ?_
                        refine lv_iinc (v := ((nI (kd - 1)) + (-1))) (lv' := [(5, .int ((nI (kd - 1)) + (-1))), (4, .int z_12), (3, .int (nI k13)), (2, .int x84_2), (0, .ref o), (1, .int (nI le))]) hx hb dX8_holdsBy_128 hl (k := 0) rfl rfl (by decide) rfl (fun ls hl => ?_)
                        refine lv_goto (tgt := 84) hx hb dX8_holdsBy_131 (by decide) ?_
                        exact ih_84 ((nI (kd - 1)) + (-1)) x84_2 wv2 f_18 (kd - 1) (by assumption) (dn_step _) (by omega) (by omega) _ _ _ V (lv_sub hl [0, 1, 2, 3, 4, 5] rfl)
                      · have V : gW D T A s [(o, .inr (8, [.int w0, .ref g1, .ref g2, .ref g3, .ref g4, .int (nI tp), .int w6, .int w7, .int w8, .int w9, .int w10, .int w11, .int w12, .int w13, .int w14, .ref g15, .int w16, .ref g17, .int w18, .int w19, .ref g20, .int wv2, .ref g22, .ref g23, .ref g24, .int w25, .int w26, .int w27, .ref g28, .ref g29, .int w30, .ref g31, .ref g32, .ref g33])), (g1, .inl (T 0, 282, .inl f_18)), (g15, .inl (T 0, 10, .inl th2)), (g17, .inl (T 0, 94, .inl gk_1)), (g20, .inl (T 1, 10, .inr (.inl fr)))] H locs := V _ [0, 0] rfl rfl rfl (by decide +kernel) rfl
                        show W p l e _ s m args below meth c H locs _ _ _ (F0 m 112 ls [.int (nI 0)])
                        refine lv_if_eq (tgt := 118) hx hb dX8_holdsBy_112 (by decide) (fun _ => ?_) (fun c => absurd (show (nI 0) = 0 by decide +kernel) c)
                        refine lv_iload_n hx hb dX8_holdsBy_118 rfl (lv_at hl 2 rfl) ?_
                        refine lv_iconst (v := (nI 1)) hx hb dX8_holdsBy_119 (by decide +kernel) ?_
                        refine lv_iadd hx hb dX8_holdsBy_120 ?_
                        refine g_vi (y := (nI (k13 + 1))) (nI_add _ _) ?_
                        refine lv_istore_n (lv' := [(2, .int (nI (k13 + 1))), (5, .int (nI (kd - 1))), (4, .int z_12), (3, .int (nI k13)), (0, .ref o), (1, .int (nI le))]) hx hb dX8_holdsBy_121 rfl hl (by decide) rfl (fun ls hl => ?_)
                        refine lv_aload_n hx hb dX8_holdsBy_122 rfl (lv_at hl 4 rfl) ?_
                        refine lv_iload hx hb dX8_holdsBy_123 (lv_at hl 1 rfl) ?_
                        refine g_put hC V (ci := 8) uwX8 tyX8 tyX8_ok nmX8 0 rfl rfl 21 (by decide) w_933 rfl rfl rfl rfl (Nat.le_of_ble_eq_true rfl) (ws' := [(o, .inr (8, [.int w0, .ref g1, .ref g2, .ref g3, .ref g4, .int (nI tp), .int w6, .int w7, .int w8, .int w9, .int w10, .int w11, .int w12, .int w13, .int w14, .ref g15, .int w16, .ref g17, .int w18, .int w19, .ref g20, .int (nI (kd - 1)), .ref g22, .ref g23, .ref g24, .int w25, .int w26, .int w27, .ref g28, .ref g29, .int w30, .ref g31, .ref g32, .ref g33])), (g1, .inl (T 0, 282, .inl f_18)), (g15, .inl (T 0, 10, .inl th2)), (g17, .inl (T 0, 94, .inl gk_1)), (g20, .inl (T 1, 10, .inr (.inl fr)))]) rfl dX8_holdsBy_125 (fun H locs V => ?_)
                        refine lv_iinc (v := ((nI (kd - 1)) + (-1))) (lv' := [(5, .int ((nI (kd - 1)) + (-1))), (2, .int (nI (k13 + 1))), (4, .int z_12), (3, .int (nI k13)), (0, .ref o), (1, .int (nI le))]) hx hb dX8_holdsBy_128 hl (k := 1) rfl rfl (by decide) rfl (fun ls hl => ?_)
                        refine lv_goto (tgt := 84) hx hb dX8_holdsBy_131 (by decide) ?_
                        exact ih_84 ((nI (kd - 1)) + (-1)) (nI (k13 + 1)) (nI (kd - 1)) f_18 (kd - 1) (by assumption) (dn_step _) (by omega) (by omega) _ _ _ V (lv_sub hl [0, 2, 3, 1, 4, 5] rfl)
                exact L_15 _ ((nI n) - (nI 1)) x13_2 wv f13 n (by assumption) rfl (Nat.le_refl _) (Nat.lt_succ_self _) _ _ _ V (lv_sub hl [0, 1, 2, 3, 4, 5] rfl)
              · skip
                have c_14 := b_nle (by omega) (by omega) c_14
                refine lv_aload_n hx hb dX8_holdsBy_52 rfl (lv_at hl 4 rfl) ?_
                refine g_get hC V (ci := 8) uwX8 0 rfl rfl 15 (by decide) w_927 rfl rfl dX8_holdsBy_53 ?_
                refine lv_iload hx hb dX8_holdsBy_56 (lv_at hl 0 rfl) ?_
                refine lv_aload_n hx hb dX8_holdsBy_58 rfl (lv_at hl 4 rfl) ?_
                refine lv_iload hx hb dX8_holdsBy_59 (lv_at hl 0 rfl) ?_
                refine lv_iload hx hb dX8_holdsBy_61 (lv_at hl 1 rfl) ?_
                refine lv_iconst (v := (nI 0)) hx hb dX8_holdsBy_63 (by decide +kernel) ?_
                refine g_callVU (nA := 3) hC V hl.1 (m_heatThen l D T n o k41 z_12 (nI 0) w0 g1 g2 g3 g4 tp w6 w7 w8 w9 w10 w11 w12 w13 w14 g15 w16 g17 w18 w19 g20 wv g22 g23 g24 w25 w26 w27 g28 g29 w30 g31 g32 g33 f13 hf13.1 (by first | assumption | omega)) w_1126 w_1128 w_s51 w_9 w_1129 (by decide +kernel) rfl ⟨(Nat.le_of_ble_eq_true rfl), (Nat.le_of_ble_eq_true rfl)⟩ 0 (ci := 8) rfl rfl [0, 1] rfl rfl (Nat.le_of_ble_eq_true rfl) dX8_holdsBy_64 ⟨(Nat.le_of_ble_eq_true rfl), (Nat.le_of_ble_eq_true rfl)⟩ rfl (fun r w1 H locs hQ V => ?_)
                obtain ⟨z_19, rfl, rfl, f_20⟩ := hQ
                have V : gW D T A s [(o, .inr (8, [.int w0, .ref g1, .ref g2, .ref g3, .ref g4, .int (nI tp), .int w6, .int w7, .int w8, .int w9, .int w10, .int w11, .int w12, .int w13, .int w14, .ref g15, .int w16, .ref g17, .int w18, .int w19, .ref g20, .int wv, .ref g22, .ref g23, .ref g24, .int w25, .int w26, .int w27, .ref g28, .ref g29, .int w30, .ref g31, .ref g32, .ref g33])), (g1, .inl (T 0, 282, .inl f13)), (g15, .inl (T 0, 10, .inl th2)), (g17, .inl (T 0, 94, .inl gk_1)), (g20, .inl (T 1, 10, .inr (.inl fr)))] H locs := V _ [0, 0] rfl rfl rfl (by decide +kernel) rfl
                show W p l e _ s m args below meth c H locs _ _ _ (F0 m 67 ls [.int z_19, .int (nI k41), .ref g15])
                refine g_iast hC V 2 rfl (vp_in_nI (by omega) (by omega)) (f' := (upd th2 k41 z_19)) (by rw [nI_clamp (by omega)]) (ws' := [(o, .inr (8, [.int w0, .ref g1, .ref g2, .ref g3, .ref g4, .int (nI tp), .int w6, .int w7, .int w8, .int w9, .int w10, .int w11, .int w12, .int w13, .int w14, .ref g15, .int w16, .ref g17, .int w18, .int w19, .ref g20, .int wv, .ref g22, .ref g23, .ref g24, .int w25, .int w26, .int w27, .ref g28, .ref g29, .int w30, .ref g31, .ref g32, .ref g33])), (g1, .inl (T 0, 282, .inl f13)), (g15, .inl (T 0, 10, .inl (upd th2 k41 z_19))), (g17, .inl (T 0, 94, .inl gk_1)), (g20, .inl (T 1, 10, .inr (.inl fr)))]) rfl dX8_holdsBy_67 (fun H locs V => ?_)
                refine lv_iinc (v := (nI (k41 + 1))) (lv' := [(5, .int (nI (k41 + 1))), (4, .int z_12), (3, .int (nI k13)), (2, .int x13_2), (0, .ref o), (1, .int (nI le))]) hx hb dX8_holdsBy_68 hl (k := 0) rfl (nI_1 _) (by decide) rfl (fun ls hl => ?_)
                refine lv_goto (tgt := 41) hx hb dX8_holdsBy_71 (by decide) ?_
                exact ih_41 (k41 + 1) (upd th2 k41 z_19) (by omega) (up_one (p := fun _ x => bd x 201) ht2 (by assumption)) (by omega) _ _ _ V (lv_sub hl [0, 1, 2, 3, 4, 5] rfl)
          exact L_13 _ 0 th (by omega) (fun i h => absurd h (Nat.not_lt_zero _)) (Nat.lt_succ_self _) _ _ _ V (lv_sub hl [0, 1, 2, 3, 4, 5] rfl)
  exact L_3 _ 0 (-1) (-1) fh fa (by omega) (by assumption) (Nat.lt_succ_self _) _ _ _ V (lv_sub hl [0, 1, 2, 3] rfl)

def q_m_takesRhythm (T : Nat → ClassId) (n : Nat) (o : Nat) (r : Nat) (le : Int32) (w0 : Int32) (g1 : Nat) (g2 : Nat) (g3 : Nat) (g4 : Nat) (tp : Nat) (w6 : Int32) (w7 : Int32) (w8 : Int32) (w9 : Int32) (w10 : Int32) (w11 : Int32) (w12 : Int32) (w13 : Int32) (w14 : Int32) (g15 : Nat) (w16 : Int32) (g17 : Nat) (w18 : Int32) (w19 : Int32) (g20 : Nat) (w21 : Int32) (g22 : Nat) (g23 : Nat) (g24 : Nat) (w25 : Int32) (w26 : Int32) (w27 : Int32) (g28 : Nat) (g29 : Nat) (w30 : Int32) (g31 : Nat) (g32 : Nat) (g33 : Nat) (fa : Nat → Int32) (fr : Nat → Int64) (fq : Nat → Int32) (fm : Nat → Int32) (fn : Nat → Int64) : Option Value → va_W → Prop := fun rr ww => (∃ (j : Nat) (gr : Nat → Int64), rr = some (.int (nI 0)) ∧ ww = [(o, .inr (8, [.int w0, .ref g1, .ref g2, .ref g3, .ref g4, .int (nI tp), .int w6, .int w7, .int w8, .int w9, .int w10, .int w11, .int w12, .int w13, .int w14, .ref g15, .int w16, .ref g17, .int w18, .int w19, .ref g20, .int w21, .ref g22, .ref g23, .ref g24, .int w25, .int w26, .int w27, .ref g28, .ref g29, .int w30, .ref g31, .ref g32, .ref g33])), (g1, .inl (T 0, 282, .inl fa)), (g20, .inl (T 1, 10, .inr (.inl gr))), (g31, .inl (T 0, 4, .inl fq)), (g32, .inl (T 0, 4, .inl fm)), (g33, .inl (T 1, 160, .inr (.inl fn)))] ∧ 1 ≤ j ∧ j ≤ 12 ∧ le = nI j) ∨ (∃ (z : Int32), rr = some (.int z) ∧ ww = [(o, .inr (8, [.int w0, .ref g1, .ref g2, .ref g3, .ref g4, .int (nI tp), .int w6, .int w7, .int w8, .int w9, .int w10, .int w11, .int w12, .int w13, .int w14, .ref g15, .int w16, .ref g17, .int w18, .int w19, .ref g20, .int w21, .ref g22, .ref g23, .ref g24, .int w25, .int w26, .int w27, .ref g28, .ref g29, .int w30, .ref g31, .ref g32, .ref g33])), (g1, .inl (T 0, 282, .inl fa)), (g20, .inl (T 1, 10, .inr (.inl fr))), (g31, .inl (T 0, 4, .inl fq)), (g32, .inl (T 0, 4, .inl fm)), (g33, .inl (T 1, 160, .inr (.inl fn)))] ∧ ¬ z = 0)
set_option maxHeartbeats 4000000 in
set_option maxRecDepth 100000 in
theorem m_takesRhythm (l : Launch) (D : va_G) (T : Nat → ClassId) (n : Nat) (o : Nat) (r : Nat) (le : Int32) (w0 : Int32) (g1 : Nat) (g2 : Nat) (g3 : Nat) (g4 : Nat) (tp : Nat) (w6 : Int32) (w7 : Int32) (w8 : Int32) (w9 : Int32) (w10 : Int32) (w11 : Int32) (w12 : Int32) (w13 : Int32) (w14 : Int32) (g15 : Nat) (w16 : Int32) (g17 : Nat) (w18 : Int32) (w19 : Int32) (g20 : Nat) (w21 : Int32) (g22 : Nat) (g23 : Nat) (g24 : Nat) (w25 : Int32) (w26 : Int32) (w27 : Int32) (g28 : Nat) (g29 : Nat) (w30 : Int32) (g31 : Nat) (g32 : Nat) (g33 : Nat) (fa : Nat → Int32) (fr : Nat → Int64) (fq : Nat → Int32) (fm : Nat → Int32) (fn : Nat → Int64) (h_a : MI n fa) (h_r : r < 4) : Ct l yX8_takesRhythm cX8_takesRhythm 4 (some .int) 1 0 0 D T [.ref o, .int (nI r), .int le] [(o, .inr (8, [.int w0, .ref g1, .ref g2, .ref g3, .ref g4, .int (nI tp), .int w6, .int w7, .int w8, .int w9, .int w10, .int w11, .int w12, .int w13, .int w14, .ref g15, .int w16, .ref g17, .int w18, .int w19, .ref g20, .int w21, .ref g22, .ref g23, .ref g24, .int w25, .int w26, .int w27, .ref g28, .ref g29, .int w30, .ref g31, .ref g32, .ref g33])), (g1, .inl (T 0, 282, .inl fa)), (g20, .inl (T 1, 10, .inr (.inl fr))), (g31, .inl (T 0, 4, .inl fq)), (g32, .inl (T 0, 4, .inl fm)), (g33, .inl (T 1, 160, .inr (.inl fn)))] (q_m_takesRhythm T n o r le w0 g1 g2 g3 g4 tp w6 w7 w8 w9 w10 w11 w12 w13 w14 g15 w16 g17 w18 w19 g20 w21 g22 g23 g24 w25 w26 w27 g28 g29 w30 g31 g32 g33 fa fr fq fm fn) := by
  refine Ct.of (cc := cX8_takesRhythm) (maxL := 4) (ret := (some .int)) (by decide) (Nat.le_of_ble_eq_true rfl) ?_
  intro p e s m args below meth c A ls hC hnm V hl
  obtain ⟨hx, hb, hr, hml, hown, hts, hlocks⟩ := id hC
  generalize hH : s.heap = H at V ⊢
  clear hH
  have hl : lv_has ls 4 [(0, .ref o), (1, .int (nI r)), (2, .int le)] := hl
  generalize hlo : ([] : List Loc) = locs at V ⊢
  clear hlo
  have ms0 := ms_rf h_a
  have hn10 := h_a.1
  refine lv_aload_n hx hb dX8_takesRhythm_0 rfl (lv_at hl 0 rfl) ?_
  refine g_get hC V (ci := 8) uwX8 0 rfl rfl 31 (by decide) w_943 rfl rfl dX8_takesRhythm_1 ?_
  refine lv_iload_n hx hb dX8_takesRhythm_4 rfl (lv_at hl 1 rfl) ?_
  refine g_iald hC V 3 rfl (vp_in_nI (by omega) (by omega)) (v := (fq r)) (congrArg _ (nI_clamp (by omega))) dX8_takesRhythm_5 ?_
  refine lv_iconst (v := (-1)) hx hb dX8_takesRhythm_6 (by decide +kernel) ?_
  refine lv_icmp_ne (tgt := 13) hx hb dX8_takesRhythm_7 (by decide) (fun c_1 => ?_) (fun c_1 => ?_)
  · skip
    refine lv_aload_n hx hb dX8_takesRhythm_13 rfl (lv_at hl 0 rfl) ?_
    refine g_get hC V (ci := 8) uwX8 0 rfl rfl 32 (by decide) w_944 rfl rfl dX8_takesRhythm_14 ?_
    refine lv_iload_n hx hb dX8_takesRhythm_17 rfl (lv_at hl 1 rfl) ?_
    refine g_iald hC V 4 rfl (vp_in_nI (by omega) (by omega)) (v := (fm r)) (congrArg _ (nI_clamp (by omega))) dX8_takesRhythm_18 ?_
    refine lv_aload_n hx hb dX8_takesRhythm_19 rfl (lv_at hl 0 rfl) ?_
    refine g_get hC V (ci := 8) uwX8 0 rfl rfl 1 (by decide) w_913 rfl rfl dX8_takesRhythm_20 ?_
    refine lv_iconst (v := (nI 0)) hx hb dX8_takesRhythm_23 (by decide +kernel) ?_
    refine g_iald hC V 1 rfl (vp_in_nI (by decide) (by decide)) (v := (nI n)) (by rw [nI_clamp (by decide)]; first | rfl | exact h_a.2.1) dX8_takesRhythm_24 ?_
    refine lv_icmp_eq (tgt := 31) hx hb dX8_takesRhythm_25 (by decide) (fun c_2 => ?_) (fun c_2 => ?_)
    · skip
      refine lv_iload_n hx hb dX8_takesRhythm_31 rfl (lv_at hl 2 rfl) ?_
      refine lv_i2l (v := le.toInt64) hx hb dX8_takesRhythm_32 rfl ?_
      refine lv_lconst (v := (nI 1).toInt64) hx hb dX8_takesRhythm_33 (by decide +kernel) ?_
      refine lv_ldc2 (v := (12)) hx hb hown (hts _ w_1228) dX8_takesRhythm_34 ?_
      refine g_vl (y := (nI 12).toInt64) (by decide +kernel) ?_
      refine g_callSU (nA := 3) hC V hl.1 (m_within l D T le (nI 1) (nI 12)) w_1023 w_1024 w_9 w_1025 (by decide +kernel) rfl ⟨(Nat.le_of_ble_eq_true rfl), (Nat.le_of_ble_eq_true rfl)⟩ [] rfl rfl (Nat.le_of_ble_eq_true rfl) dX8_takesRhythm_37 ⟨(Nat.le_of_ble_eq_true rfl), (Nat.le_of_ble_eq_true rfl)⟩ rfl (fun r w1 H locs hQ V => ?_)
      rcases hQ with ⟨rfl, rfl, f_3, f_4⟩ | ⟨rfl, rfl, f_5⟩
      · have V : gW D T A s [(o, .inr (8, [.int w0, .ref g1, .ref g2, .ref g3, .ref g4, .int (nI tp), .int w6, .int w7, .int w8, .int w9, .int w10, .int w11, .int w12, .int w13, .int w14, .ref g15, .int w16, .ref g17, .int w18, .int w19, .ref g20, .int w21, .ref g22, .ref g23, .ref g24, .int w25, .int w26, .int w27, .ref g28, .ref g29, .int w30, .ref g31, .ref g32, .ref g33])), (g1, .inl (T 0, 282, .inl fa)), (g20, .inl (T 1, 10, .inr (.inl fr))), (g31, .inl (T 0, 4, .inl fq)), (g32, .inl (T 0, 4, .inl fm)), (g33, .inl (T 1, 160, .inr (.inl fn)))] H locs := V _ [] rfl rfl rfl (by decide +kernel) rfl
        show W p l e _ s m args below meth c H locs _ _ _ (F0 m 40 ls [.int (nI 1)])
        obtain ⟨i, hi1, hi2, ei⟩ := g_rng (by first | decide | omega) (by first | decide | omega) f_3 f_4
        rw [ei] at hl
        refine lv_if_ne (tgt := 46) hx hb dX8_takesRhythm_40 (by decide) (fun _ => ?_) (fun c => absurd (show (nI 1) = 0 from c) (by decide +kernel))
        refine lv_iconst (v := (nI 0)) hx hb dX8_takesRhythm_46 (by decide +kernel) ?_
        refine lv_istore_n (lv' := [(3, .int (nI 0)), (0, .ref o), (1, .int (nI r)), (2, .int (nI i))]) hx hb dX8_takesRhythm_47 rfl hl (by decide) rfl (fun ls hl => ?_)
        have L_6 : ∀ (fu : Nat) (k48 : Nat) (gq : Nat → Int64), k48 ≤ n → n - k48 < fu → ∀ (H : Heap) (locs : List Loc) (ls : Array Slot), gW D T A s [(o, .inr (8, [.int w0, .ref g1, .ref g2, .ref g3, .ref g4, .int (nI tp), .int w6, .int w7, .int w8, .int w9, .int w10, .int w11, .int w12, .int w13, .int w14, .ref g15, .int w16, .ref g17, .int w18, .int w19, .ref g20, .int w21, .ref g22, .ref g23, .ref g24, .int w25, .int w26, .int w27, .ref g28, .ref g29, .int w30, .ref g31, .ref g32, .ref g33])), (g1, .inl (T 0, 282, .inl fa)), (g20, .inl (T 1, 10, .inr (.inl gq))), (g31, .inl (T 0, 4, .inl fq)), (g32, .inl (T 0, 4, .inl fm)), (g33, .inl (T 1, 160, .inr (.inl fn)))] H locs → lv_has ls 4 [(3, .int (nI k48)), (0, .ref o), (1, .int (nI r)), (2, .int (nI i))] → W p l e (rmD 1 0 0) s m args below meth c H locs 0 0 (MQ below (gQ D A (q_m_takesRhythm T n o r le w0 g1 g2 g3 g4 tp w6 w7 w8 w9 w10 w11 w12 w13 w14 g15 w16 g17 w18 w19 g20 w21 g22 g23 g24 w25 w26 w27 g28 g29 w30 g31 g32 g33 fa fr fq fm fn)) args s 0 0 A) (F0 m 48 ls []) := by
          intro fu_48
          induction fu_48 with
          | zero => intro k48 gq hk48 hmu; exact absurd hmu (Nat.not_lt_zero _)
          | succ fu_48 ih_48 =>
            intro k48 gq hk48 hmu_48 H locs ls V hl
            refine lv_iload_n hx hb dX8_takesRhythm_48 rfl (lv_at hl 0 rfl) ?_
            refine lv_aload_n hx hb dX8_takesRhythm_49 rfl (lv_at hl 1 rfl) ?_
            refine g_get hC V (ci := 8) uwX8 0 rfl rfl 1 (by decide) w_913 rfl rfl dX8_takesRhythm_50 ?_
            refine lv_iconst (v := (nI 0)) hx hb dX8_takesRhythm_53 (by decide +kernel) ?_
            refine g_iald hC V 1 rfl (vp_in_nI (by decide) (by decide)) (v := (nI n)) (by rw [nI_clamp (by decide)]; first | rfl | exact h_a.2.1) dX8_takesRhythm_54 ?_
            refine lv_icmp_ge (tgt := 81) hx hb dX8_takesRhythm_55 (by decide) (fun c_7 => ?_) (fun c_7 => ?_)
            · skip
              have c_7 := b_le (by omega) (by omega) c_7
              refine lv_iconst (v := (nI 0)) hx hb dX8_takesRhythm_81 (by decide +kernel) ?_
              exact g_iret (Qr := (q_m_takesRhythm T n o r le w0 g1 g2 g3 g4 tp w6 w7 w8 w9 w10 w11 w12 w13 w14 g15 w16 g17 w18 w19 g20 w21 g22 g23 g24 w25 w26 w27 g28 g29 w30 g31 g32 g33 fa fr fq fm fn)) hC V ⟨(Nat.le_of_ble_eq_true rfl), (Nat.le_of_ble_eq_true rfl)⟩ (.inl ⟨i, gq, rfl, rfl, (by assumption), (by assumption), (by assumption)⟩) dX8_takesRhythm_82
            · skip
              have c_7 := b_nle (by omega) (by omega) c_7
              refine lv_aload_n hx hb dX8_takesRhythm_58 rfl (lv_at hl 1 rfl) ?_
              refine g_get hC V (ci := 8) uwX8 0 rfl rfl 20 (by decide) w_932 rfl rfl dX8_takesRhythm_59 ?_
              refine lv_iload_n hx hb dX8_takesRhythm_62 rfl (lv_at hl 0 rfl) ?_
              refine lv_aload_n hx hb dX8_takesRhythm_63 rfl (lv_at hl 1 rfl) ?_
              refine g_get hC V (ci := 8) uwX8 0 rfl rfl 33 (by decide) w_945 rfl rfl dX8_takesRhythm_64 ?_
              refine lv_bipush (v := (nI 40)) hx hb dX8_takesRhythm_67 (by decide +kernel) ?_
              refine lv_iload_n hx hb dX8_takesRhythm_69 rfl (lv_at hl 2 rfl) ?_
              refine lv_imul hx hb dX8_takesRhythm_70 ?_
              refine g_vi (y := (nI (40 * r))) (pk_mul _ _) ?_
              refine lv_iload_n hx hb dX8_takesRhythm_71 rfl (lv_at hl 0 rfl) ?_
              refine lv_iadd hx hb dX8_takesRhythm_72 ?_
              refine g_vi (y := (nI ((40 * r) + k48))) (nI_add _ _) ?_
              refine g_lald hC V 5 rfl (vp_in_nI (by omega) (by omega)) (v := (fn ((40 * r) + k48))) (congrArg _ (nI_clamp (by omega))) dX8_takesRhythm_73 ?_
              refine g_last hC V 2 rfl (vp_in_nI (by omega) (by omega)) (f' := (vp_updL gq k48 (fn ((40 * r) + k48)))) (by rw [nI_clamp (by omega)]) (ws' := [(o, .inr (8, [.int w0, .ref g1, .ref g2, .ref g3, .ref g4, .int (nI tp), .int w6, .int w7, .int w8, .int w9, .int w10, .int w11, .int w12, .int w13, .int w14, .ref g15, .int w16, .ref g17, .int w18, .int w19, .ref g20, .int w21, .ref g22, .ref g23, .ref g24, .int w25, .int w26, .int w27, .ref g28, .ref g29, .int w30, .ref g31, .ref g32, .ref g33])), (g1, .inl (T 0, 282, .inl fa)), (g20, .inl (T 1, 10, .inr (.inl (vp_updL gq k48 (fn ((40 * r) + k48)))))), (g31, .inl (T 0, 4, .inl fq)), (g32, .inl (T 0, 4, .inl fm)), (g33, .inl (T 1, 160, .inr (.inl fn)))]) rfl dX8_takesRhythm_74 (fun H locs V => ?_)
              refine lv_iinc (v := (nI (k48 + 1))) (lv' := [(3, .int (nI (k48 + 1))), (0, .ref o), (1, .int (nI r)), (2, .int (nI i))]) hx hb dX8_takesRhythm_75 hl (k := 0) rfl (nI_1 _) (by decide) rfl (fun ls hl => ?_)
              refine lv_goto (tgt := 48) hx hb dX8_takesRhythm_78 (by decide) ?_
              exact ih_48 (k48 + 1) (vp_updL gq k48 (fn ((40 * r) + k48))) (by omega) (by omega) _ _ _ V (lv_sub hl [0, 1, 2, 3] rfl)
        exact L_6 _ 0 fr (by omega) (Nat.lt_succ_self _) _ _ _ V (lv_sub hl [0, 1, 2, 3] rfl)
      · have V : gW D T A s [(o, .inr (8, [.int w0, .ref g1, .ref g2, .ref g3, .ref g4, .int (nI tp), .int w6, .int w7, .int w8, .int w9, .int w10, .int w11, .int w12, .int w13, .int w14, .ref g15, .int w16, .ref g17, .int w18, .int w19, .ref g20, .int w21, .ref g22, .ref g23, .ref g24, .int w25, .int w26, .int w27, .ref g28, .ref g29, .int w30, .ref g31, .ref g32, .ref g33])), (g1, .inl (T 0, 282, .inl fa)), (g20, .inl (T 1, 10, .inr (.inl fr))), (g31, .inl (T 0, 4, .inl fq)), (g32, .inl (T 0, 4, .inl fm)), (g33, .inl (T 1, 160, .inr (.inl fn)))] H locs := V _ [] rfl rfl rfl (by decide +kernel) rfl
        show W p l e _ s m args below meth c H locs _ _ _ (F0 m 40 ls [.int (nI 0)])
        refine lv_if_ne (tgt := 46) hx hb dX8_takesRhythm_40 (by decide) (fun c => absurd (show (nI 0) = 0 by decide +kernel) c) (fun _ => ?_)
        refine lv_bipush (v := (-3)) hx hb dX8_takesRhythm_43 (by decide +kernel) ?_
        exact g_iret (Qr := (q_m_takesRhythm T n o r le w0 g1 g2 g3 g4 tp w6 w7 w8 w9 w10 w11 w12 w13 w14 g15 w16 g17 w18 w19 g20 w21 g22 g23 g24 w25 w26 w27 g28 g29 w30 g31 g32 g33 fa fr fq fm fn)) hC V ⟨(Nat.le_of_ble_eq_true rfl), (Nat.le_of_ble_eq_true rfl)⟩ (.inr ⟨(-3), rfl, rfl, (by decide +kernel)⟩) dX8_takesRhythm_45
    · skip
      refine lv_bipush (v := (-7)) hx hb dX8_takesRhythm_28 (by decide +kernel) ?_
      exact g_iret (Qr := (q_m_takesRhythm T n o r le w0 g1 g2 g3 g4 tp w6 w7 w8 w9 w10 w11 w12 w13 w14 g15 w16 g17 w18 w19 g20 w21 g22 g23 g24 w25 w26 w27 g28 g29 w30 g31 g32 g33 fa fr fq fm fn)) hC V ⟨(Nat.le_of_ble_eq_true rfl), (Nat.le_of_ble_eq_true rfl)⟩ (.inr ⟨(-7), rfl, rfl, (by decide +kernel)⟩) dX8_takesRhythm_30
  · skip
    refine lv_bipush (v := (-6)) hx hb dX8_takesRhythm_10 (by decide +kernel) ?_
    exact g_iret (Qr := (q_m_takesRhythm T n o r le w0 g1 g2 g3 g4 tp w6 w7 w8 w9 w10 w11 w12 w13 w14 g15 w16 g17 w18 w19 g20 w21 g22 g23 g24 w25 w26 w27 g28 g29 w30 g31 g32 g33 fa fr fq fm fn)) hC V ⟨(Nat.le_of_ble_eq_true rfl), (Nat.le_of_ble_eq_true rfl)⟩ (.inr ⟨(-6), rfl, rfl, (by decide +kernel)⟩) dX8_takesRhythm_12

def q_m_holds (T : Nat → ClassId) (n : Nat) (o : Nat) (row : Int32) (le : Int32) (wh : Int32) (w0 : Int32) (g1 : Nat) (g2 : Nat) (g3 : Nat) (g4 : Nat) (tp : Nat) (w6 : Int32) (w7 : Int32) (w8 : Int32) (w9 : Int32) (w10 : Int32) (w11 : Int32) (w12 : Int32) (w13 : Int32) (w14 : Int32) (g15 : Nat) (w16 : Int32) (g17 : Nat) (w18 : Int32) (w19 : Int32) (g20 : Nat) (w21 : Int32) (g22 : Nat) (g23 : Nat) (g24 : Nat) (w25 : Int32) (w26 : Int32) (w27 : Int32) (g28 : Nat) (g29 : Nat) (w30 : Int32) (g31 : Nat) (g32 : Nat) (g33 : Nat) (fa : Nat → Int32) (fh : Nat → Int32) (fk : Nat → Int32) (fr : Nat → Int64) (fq : Nat → Int32) (fm : Nat → Int32) (fn : Nat → Int64) : Option Value → va_W → Prop := fun rr ww => (∃ (z : Int32) (wq : Int32) (gh : Nat → Int32) (gk : Nat → Int32) (gr : Nat → Int64), rr = some (.int z) ∧ ww = [(o, .inr (8, [.int (nI 0), .ref g1, .ref g2, .ref g3, .ref g4, .int (nI tp), .int w6, .int w7, .int w8, .int w9, .int w10, .int w11, .int w12, .int w13, .int w14, .ref g15, .int w16, .ref g17, .int w18, .int w19, .ref g20, .int wq, .ref g22, .ref g23, .ref g24, .int w25, .int w26, .int w27, .ref g28, .ref g29, .int w30, .ref g31, .ref g32, .ref g33])), (g1, .inl (T 0, 282, .inl fa)), (g15, .inl (T 0, 10, .inl gh)), (g17, .inl (T 0, 94, .inl gk)), (g20, .inl (T 1, 10, .inr (.inl gr))), (g31, .inl (T 0, 4, .inl fq)), (g32, .inl (T 0, 4, .inl fm)), (g33, .inl (T 1, 160, .inr (.inl fn)))])
set_option maxHeartbeats 4000000 in
set_option maxRecDepth 100000 in
theorem m_holds (l : Launch) (D : va_G) (T : Nat → ClassId) (n : Nat) (o : Nat) (row : Int32) (le : Int32) (wh : Int32) (w0 : Int32) (g1 : Nat) (g2 : Nat) (g3 : Nat) (g4 : Nat) (tp : Nat) (w6 : Int32) (w7 : Int32) (w8 : Int32) (w9 : Int32) (w10 : Int32) (w11 : Int32) (w12 : Int32) (w13 : Int32) (w14 : Int32) (g15 : Nat) (w16 : Int32) (g17 : Nat) (w18 : Int32) (w19 : Int32) (g20 : Nat) (w21 : Int32) (g22 : Nat) (g23 : Nat) (g24 : Nat) (w25 : Int32) (w26 : Int32) (w27 : Int32) (g28 : Nat) (g29 : Nat) (w30 : Int32) (g31 : Nat) (g32 : Nat) (g33 : Nat) (fa : Nat → Int32) (fh : Nat → Int32) (fk : Nat → Int32) (fr : Nat → Int64) (fq : Nat → Int32) (fm : Nat → Int32) (fn : Nat → Int64) (h_a : MI n fa) : Ct l yX8_holds cX8_holds 6 (some .int) 4 0 0 D T [.ref o, .int row, .int le, .int wh] [(o, .inr (8, [.int w0, .ref g1, .ref g2, .ref g3, .ref g4, .int (nI tp), .int w6, .int w7, .int w8, .int w9, .int w10, .int w11, .int w12, .int w13, .int w14, .ref g15, .int w16, .ref g17, .int w18, .int w19, .ref g20, .int w21, .ref g22, .ref g23, .ref g24, .int w25, .int w26, .int w27, .ref g28, .ref g29, .int w30, .ref g31, .ref g32, .ref g33])), (g1, .inl (T 0, 282, .inl fa)), (g15, .inl (T 0, 10, .inl fh)), (g17, .inl (T 0, 94, .inl fk)), (g20, .inl (T 1, 10, .inr (.inl fr))), (g31, .inl (T 0, 4, .inl fq)), (g32, .inl (T 0, 4, .inl fm)), (g33, .inl (T 1, 160, .inr (.inl fn)))] (q_m_holds T n o row le wh w0 g1 g2 g3 g4 tp w6 w7 w8 w9 w10 w11 w12 w13 w14 g15 w16 g17 w18 w19 g20 w21 g22 g23 g24 w25 w26 w27 g28 g29 w30 g31 g32 g33 fa fh fk fr fq fm fn) := by
  refine Ct.of (cc := cX8_holds) (maxL := 6) (ret := (some .int)) (by decide) (Nat.le_of_ble_eq_true rfl) ?_
  intro p e s m args below meth c A ls hC hnm V hl
  obtain ⟨hx, hb, hr, hml, hown, hts, hlocks⟩ := id hC
  generalize hH : s.heap = H at V ⊢
  clear hH
  have hl : lv_has ls 6 [(0, .ref o), (1, .int row), (2, .int le), (3, .int wh)] := hl
  generalize hlo : ([] : List Loc) = locs at V ⊢
  clear hlo
  have ms0 := ms_rf h_a
  have hn10 := h_a.1
  refine lv_aload_n hx hb dX8_holds_0 rfl (lv_at hl 0 rfl) ?_
  refine lv_iconst (v := (nI 0)) hx hb dX8_holds_1 (by decide +kernel) ?_
  refine g_put hC V (ci := 8) uwX8 tyX8 tyX8_ok nmX8 0 rfl rfl 0 (by decide) w_912 rfl rfl rfl rfl (Nat.le_of_ble_eq_true rfl) (ws' := [(o, .inr (8, [.int (nI 0), .ref g1, .ref g2, .ref g3, .ref g4, .int (nI tp), .int w6, .int w7, .int w8, .int w9, .int w10, .int w11, .int w12, .int w13, .int w14, .ref g15, .int w16, .ref g17, .int w18, .int w19, .ref g20, .int w21, .ref g22, .ref g23, .ref g24, .int w25, .int w26, .int w27, .ref g28, .ref g29, .int w30, .ref g31, .ref g32, .ref g33])), (g1, .inl (T 0, 282, .inl fa)), (g15, .inl (T 0, 10, .inl fh)), (g17, .inl (T 0, 94, .inl fk)), (g20, .inl (T 1, 10, .inr (.inl fr))), (g31, .inl (T 0, 4, .inl fq)), (g32, .inl (T 0, 4, .inl fm)), (g33, .inl (T 1, 160, .inr (.inl fn)))]) rfl dX8_holds_2 (fun H locs V => ?_)
  refine lv_iload_n hx hb dX8_holds_5 rfl (lv_at hl 1 rfl) ?_
  refine lv_i2l (v := row.toInt64) hx hb dX8_holds_6 rfl ?_
  refine lv_lconst (v := (nI 0).toInt64) hx hb dX8_holds_7 (by decide +kernel) ?_
  refine lv_ldc2 (v := (3)) hx hb hown (hts _ w_1144) dX8_holds_8 ?_
  refine g_vl (y := (nI 3).toInt64) (by decide +kernel) ?_
  refine g_callSU (nA := 3) hC V hl.1 (m_within l D T row (nI 0) (nI 3)) w_1023 w_1024 w_9 w_1025 (by decide +kernel) rfl ⟨(Nat.le_of_ble_eq_true rfl), (Nat.le_of_ble_eq_true rfl)⟩ [] rfl rfl (Nat.le_of_ble_eq_true rfl) dX8_holds_11 ⟨(Nat.le_of_ble_eq_true rfl), (Nat.le_of_ble_eq_true rfl)⟩ rfl (fun r w1 H locs hQ V => ?_)
  rcases hQ with ⟨rfl, rfl, f_1, f_2⟩ | ⟨rfl, rfl, f_3⟩
  · have V : gW D T A s [(o, .inr (8, [.int (nI 0), .ref g1, .ref g2, .ref g3, .ref g4, .int (nI tp), .int w6, .int w7, .int w8, .int w9, .int w10, .int w11, .int w12, .int w13, .int w14, .ref g15, .int w16, .ref g17, .int w18, .int w19, .ref g20, .int w21, .ref g22, .ref g23, .ref g24, .int w25, .int w26, .int w27, .ref g28, .ref g29, .int w30, .ref g31, .ref g32, .ref g33])), (g1, .inl (T 0, 282, .inl fa)), (g15, .inl (T 0, 10, .inl fh)), (g17, .inl (T 0, 94, .inl fk)), (g20, .inl (T 1, 10, .inr (.inl fr))), (g31, .inl (T 0, 4, .inl fq)), (g32, .inl (T 0, 4, .inl fm)), (g33, .inl (T 1, 160, .inr (.inl fn)))] H locs := V _ [] rfl rfl rfl (by decide +kernel) rfl
    show W p l e _ s m args below meth c H locs _ _ _ (F0 m 14 ls [.int (nI 1)])
    obtain ⟨r, hr1, hr2, er⟩ := g_rng (by decide) (by decide) f_1 f_2
    rw [er] at hl
    refine lv_if_eq (tgt := 27) hx hb dX8_holds_14 (by decide) (fun c => absurd (show (nI 1) = 0 from c) (by decide +kernel)) (fun _ => ?_)
    refine lv_iload_n hx hb dX8_holds_17 rfl (lv_at hl 3 rfl) ?_
    refine lv_i2l (v := wh.toInt64) hx hb dX8_holds_18 rfl ?_
    refine lv_lconst (v := (nI 0).toInt64) hx hb dX8_holds_19 (by decide +kernel) ?_
    refine lv_lconst (v := (nI 1).toInt64) hx hb dX8_holds_20 (by decide +kernel) ?_
    refine g_callSU (nA := 3) hC V hl.1 (m_within l D T wh (nI 0) (nI 1)) w_1023 w_1024 w_9 w_1025 (by decide +kernel) rfl ⟨(Nat.le_of_ble_eq_true rfl), (Nat.le_of_ble_eq_true rfl)⟩ [] rfl rfl (Nat.le_of_ble_eq_true rfl) dX8_holds_21 ⟨(Nat.le_of_ble_eq_true rfl), (Nat.le_of_ble_eq_true rfl)⟩ rfl (fun r w1 H locs hQ V => ?_)
    rcases hQ with ⟨rfl, rfl, f_4, f_5⟩ | ⟨rfl, rfl, f_6⟩
    · have V : gW D T A s [(o, .inr (8, [.int (nI 0), .ref g1, .ref g2, .ref g3, .ref g4, .int (nI tp), .int w6, .int w7, .int w8, .int w9, .int w10, .int w11, .int w12, .int w13, .int w14, .ref g15, .int w16, .ref g17, .int w18, .int w19, .ref g20, .int w21, .ref g22, .ref g23, .ref g24, .int w25, .int w26, .int w27, .ref g28, .ref g29, .int w30, .ref g31, .ref g32, .ref g33])), (g1, .inl (T 0, 282, .inl fa)), (g15, .inl (T 0, 10, .inl fh)), (g17, .inl (T 0, 94, .inl fk)), (g20, .inl (T 1, 10, .inr (.inl fr))), (g31, .inl (T 0, 4, .inl fq)), (g32, .inl (T 0, 4, .inl fm)), (g33, .inl (T 1, 160, .inr (.inl fn)))] H locs := V _ [] rfl rfl rfl (by decide +kernel) rfl
      show W p l e _ s m args below meth c H locs _ _ _ (F0 m 24 ls [.int (nI 1)])
      refine lv_if_ne (tgt := 30) hx hb dX8_holds_24 (by decide) (fun _ => ?_) (fun c => absurd (show (nI 1) = 0 from c) (by decide +kernel))
      refine lv_aload_n hx hb dX8_holds_30 rfl (lv_at hl 0 rfl) ?_
      refine lv_iload_n hx hb dX8_holds_31 rfl (lv_at hl 1 rfl) ?_
      refine lv_iload_n hx hb dX8_holds_32 rfl (lv_at hl 2 rfl) ?_
      refine g_callVU (nA := 2) hC V hl.1 (m_takesRhythm l D T n o r le (nI 0) g1 g2 g3 g4 tp w6 w7 w8 w9 w10 w11 w12 w13 w14 g15 w16 g17 w18 w19 g20 w21 g22 g23 g24 w25 w26 w27 g28 g29 w30 g31 g32 g33 fa fr fq fm fn h_a (by first | assumption | omega)) w_1224 w_1226 w_s63 w_9 w_1227 (by decide +kernel) rfl ⟨(Nat.le_of_ble_eq_true rfl), (Nat.le_of_ble_eq_true rfl)⟩ 0 (ci := 8) rfl rfl [0, 1, 4, 5, 6, 7] rfl rfl (Nat.le_of_ble_eq_true rfl) dX8_holds_33 ⟨(Nat.le_of_ble_eq_true rfl), (Nat.le_of_ble_eq_true rfl)⟩ rfl (fun r w1 H locs hQ V => ?_)
      rcases hQ with ⟨j_7, gr_8, rfl, rfl, f_9, f_10, f_11⟩ | ⟨z_12, rfl, rfl, f_13⟩
      · have V : gW D T A s [(o, .inr (8, [.int (nI 0), .ref g1, .ref g2, .ref g3, .ref g4, .int (nI tp), .int w6, .int w7, .int w8, .int w9, .int w10, .int w11, .int w12, .int w13, .int w14, .ref g15, .int w16, .ref g17, .int w18, .int w19, .ref g20, .int w21, .ref g22, .ref g23, .ref g24, .int w25, .int w26, .int w27, .ref g28, .ref g29, .int w30, .ref g31, .ref g32, .ref g33])), (g1, .inl (T 0, 282, .inl fa)), (g15, .inl (T 0, 10, .inl fh)), (g17, .inl (T 0, 94, .inl fk)), (g20, .inl (T 1, 10, .inr (.inl gr_8))), (g31, .inl (T 0, 4, .inl fq)), (g32, .inl (T 0, 4, .inl fm)), (g33, .inl (T 1, 160, .inr (.inl fn)))] H locs := V _ [0, 0, 2, 0, 0, 0] rfl rfl rfl (by decide +kernel) rfl
        show W p l e _ s m args below meth c H locs _ _ _ (F0 m 36 ls [.int (nI 0)])
        rw [f_11] at hl
        refine lv_istore (lv' := [(4, .int (nI 0)), (0, .ref o), (1, .int (nI r)), (2, .int (nI j_7)), (3, .int wh)]) hx hb dX8_holds_36 hl (by decide) rfl (fun ls hl => ?_)
        refine lv_iload hx hb dX8_holds_38 (lv_at hl 0 rfl) ?_
        refine lv_if_eq (tgt := 46) hx hb dX8_holds_40 (by decide) (fun _ => ?_) (fun c => absurd (show (nI 0) = 0 by decide +kernel) c)
        refine lv_aload_n hx hb dX8_holds_46 rfl (lv_at hl 1 rfl) ?_
        refine lv_iload_n hx hb dX8_holds_47 rfl (lv_at hl 3 rfl) ?_
        refine g_callVU (nA := 1) hC V hl.1 (m_holdsBy l D T n o j_7 (nI 0) g1 g2 g3 g4 tp w6 w7 w8 w9 w10 w11 w12 w13 w14 g15 w16 g17 w18 w19 g20 w21 g22 g23 g24 w25 w26 w27 g28 g29 w30 g31 g32 g33 fa fh fk gr_8 h_a ⟨by omega, by omega⟩) w_1229 w_1231 w_s64 w_9 w_1232 (by decide +kernel) rfl ⟨(Nat.le_of_ble_eq_true rfl), (Nat.le_of_ble_eq_true rfl)⟩ 0 (ci := 8) rfl rfl [0, 1, 2, 3, 4] rfl rfl (Nat.le_of_ble_eq_true rfl) dX8_holds_48 ⟨(Nat.le_of_ble_eq_true rfl), (Nat.le_of_ble_eq_true rfl)⟩ rfl (fun r w1 H locs hQ V => ?_)
        obtain ⟨z_14, wq_15, gh_16, gk_17, rfl, rfl⟩ := hQ
        have V : gW D T A s [(o, .inr (8, [.int (nI 0), .ref g1, .ref g2, .ref g3, .ref g4, .int (nI tp), .int w6, .int w7, .int w8, .int w9, .int w10, .int w11, .int w12, .int w13, .int w14, .ref g15, .int w16, .ref g17, .int w18, .int w19, .ref g20, .int wq_15, .ref g22, .ref g23, .ref g24, .int w25, .int w26, .int w27, .ref g28, .ref g29, .int w30, .ref g31, .ref g32, .ref g33])), (g1, .inl (T 0, 282, .inl fa)), (g15, .inl (T 0, 10, .inl gh_16)), (g17, .inl (T 0, 94, .inl gk_17)), (g20, .inl (T 1, 10, .inr (.inl gr_8))), (g31, .inl (T 0, 4, .inl fq)), (g32, .inl (T 0, 4, .inl fm)), (g33, .inl (T 1, 160, .inr (.inl fn)))] H locs := V _ [0, 0, 0, 0, 0] rfl rfl rfl (by decide +kernel) rfl
        show W p l e _ s m args below meth c H locs _ _ _ (F0 m 51 ls [.int z_14])
        refine lv_istore (lv' := [(5, .int z_14), (4, .int (nI 0)), (0, .ref o), (1, .int (nI r)), (2, .int (nI j_7)), (3, .int wh)]) hx hb dX8_holds_51 hl (by decide) rfl (fun ls hl => ?_)
        refine lv_iload_n hx hb dX8_holds_53 rfl (lv_at hl 5 rfl) ?_
        refine lv_if_ne (tgt := 62) hx hb dX8_holds_54 (by decide) (fun c_18 => ?_) (fun c_18 => ?_)
        · skip
          refine lv_aload_n hx hb dX8_holds_62 rfl (lv_at hl 2 rfl) ?_
          refine g_get hC V (ci := 8) uwX8 0 rfl rfl 21 (by decide) w_933 rfl rfl dX8_holds_63 ?_
          exact g_iret (Qr := (q_m_holds T n o row le wh w0 g1 g2 g3 g4 tp w6 w7 w8 w9 w10 w11 w12 w13 w14 g15 w16 g17 w18 w19 g20 w21 g22 g23 g24 w25 w26 w27 g28 g29 w30 g31 g32 g33 fa fh fk fr fq fm fn)) hC V ⟨(Nat.le_of_ble_eq_true rfl), (Nat.le_of_ble_eq_true rfl)⟩ ⟨wq_15, wq_15, gh_16, gk_17, gr_8, rfl, rfl⟩ dX8_holds_66
        · skip
          refine lv_iload hx hb dX8_holds_57 (lv_at hl 0 rfl) ?_
          refine lv_goto (tgt := 66) hx hb dX8_holds_59 (by decide) ?_
          exact g_iret (Qr := (q_m_holds T n o row le wh w0 g1 g2 g3 g4 tp w6 w7 w8 w9 w10 w11 w12 w13 w14 g15 w16 g17 w18 w19 g20 w21 g22 g23 g24 w25 w26 w27 g28 g29 w30 g31 g32 g33 fa fh fk fr fq fm fn)) hC V ⟨(Nat.le_of_ble_eq_true rfl), (Nat.le_of_ble_eq_true rfl)⟩ ⟨z_14, wq_15, gh_16, gk_17, gr_8, rfl, rfl⟩ dX8_holds_66
      · have V : gW D T A s [(o, .inr (8, [.int (nI 0), .ref g1, .ref g2, .ref g3, .ref g4, .int (nI tp), .int w6, .int w7, .int w8, .int w9, .int w10, .int w11, .int w12, .int w13, .int w14, .ref g15, .int w16, .ref g17, .int w18, .int w19, .ref g20, .int w21, .ref g22, .ref g23, .ref g24, .int w25, .int w26, .int w27, .ref g28, .ref g29, .int w30, .ref g31, .ref g32, .ref g33])), (g1, .inl (T 0, 282, .inl fa)), (g15, .inl (T 0, 10, .inl fh)), (g17, .inl (T 0, 94, .inl fk)), (g20, .inl (T 1, 10, .inr (.inl fr))), (g31, .inl (T 0, 4, .inl fq)), (g32, .inl (T 0, 4, .inl fm)), (g33, .inl (T 1, 160, .inr (.inl fn)))] H locs := V _ [0, 0, 2, 0, 0, 0] rfl rfl rfl (by decide +kernel) rfl
        show W p l e _ s m args below meth c H locs _ _ _ (F0 m 36 ls [.int z_12])
        refine lv_istore (lv' := [(4, .int z_12), (0, .ref o), (1, .int (nI r)), (2, .int le), (3, .int wh)]) hx hb dX8_holds_36 hl (by decide) rfl (fun ls hl => ?_)
        refine lv_iload hx hb dX8_holds_38 (lv_at hl 0 rfl) ?_
        refine lv_if_eq (tgt := 46) hx hb dX8_holds_40 (by decide) (fun c_19 => ?_) (fun c_19 => ?_)
        · skip
          exact (absurd c_19 (by assumption) : False).elim
        · skip
          refine lv_iload hx hb dX8_holds_43 (lv_at hl 0 rfl) ?_
          exact g_iret (Qr := (q_m_holds T n o row le wh w0 g1 g2 g3 g4 tp w6 w7 w8 w9 w10 w11 w12 w13 w14 g15 w16 g17 w18 w19 g20 w21 g22 g23 g24 w25 w26 w27 g28 g29 w30 g31 g32 g33 fa fh fk fr fq fm fn)) hC V ⟨(Nat.le_of_ble_eq_true rfl), (Nat.le_of_ble_eq_true rfl)⟩ ⟨z_12, w21, fh, fk, fr, rfl, rfl⟩ dX8_holds_45
    · have V : gW D T A s [(o, .inr (8, [.int (nI 0), .ref g1, .ref g2, .ref g3, .ref g4, .int (nI tp), .int w6, .int w7, .int w8, .int w9, .int w10, .int w11, .int w12, .int w13, .int w14, .ref g15, .int w16, .ref g17, .int w18, .int w19, .ref g20, .int w21, .ref g22, .ref g23, .ref g24, .int w25, .int w26, .int w27, .ref g28, .ref g29, .int w30, .ref g31, .ref g32, .ref g33])), (g1, .inl (T 0, 282, .inl fa)), (g15, .inl (T 0, 10, .inl fh)), (g17, .inl (T 0, 94, .inl fk)), (g20, .inl (T 1, 10, .inr (.inl fr))), (g31, .inl (T 0, 4, .inl fq)), (g32, .inl (T 0, 4, .inl fm)), (g33, .inl (T 1, 160, .inr (.inl fn)))] H locs := V _ [] rfl rfl rfl (by decide +kernel) rfl
      show W p l e _ s m args below meth c H locs _ _ _ (F0 m 24 ls [.int (nI 0)])
      refine lv_if_ne (tgt := 30) hx hb dX8_holds_24 (by decide) (fun c => absurd (show (nI 0) = 0 by decide +kernel) c) (fun _ => ?_)
      refine lv_bipush (v := (-2)) hx hb dX8_holds_27 (by decide +kernel) ?_
      exact g_iret (Qr := (q_m_holds T n o row le wh w0 g1 g2 g3 g4 tp w6 w7 w8 w9 w10 w11 w12 w13 w14 g15 w16 g17 w18 w19 g20 w21 g22 g23 g24 w25 w26 w27 g28 g29 w30 g31 g32 g33 fa fh fk fr fq fm fn)) hC V ⟨(Nat.le_of_ble_eq_true rfl), (Nat.le_of_ble_eq_true rfl)⟩ ⟨(-2), w21, fh, fk, fr, rfl, rfl⟩ dX8_holds_29
  · have V : gW D T A s [(o, .inr (8, [.int (nI 0), .ref g1, .ref g2, .ref g3, .ref g4, .int (nI tp), .int w6, .int w7, .int w8, .int w9, .int w10, .int w11, .int w12, .int w13, .int w14, .ref g15, .int w16, .ref g17, .int w18, .int w19, .ref g20, .int w21, .ref g22, .ref g23, .ref g24, .int w25, .int w26, .int w27, .ref g28, .ref g29, .int w30, .ref g31, .ref g32, .ref g33])), (g1, .inl (T 0, 282, .inl fa)), (g15, .inl (T 0, 10, .inl fh)), (g17, .inl (T 0, 94, .inl fk)), (g20, .inl (T 1, 10, .inr (.inl fr))), (g31, .inl (T 0, 4, .inl fq)), (g32, .inl (T 0, 4, .inl fm)), (g33, .inl (T 1, 160, .inr (.inl fn)))] H locs := V _ [] rfl rfl rfl (by decide +kernel) rfl
    show W p l e _ s m args below meth c H locs _ _ _ (F0 m 14 ls [.int (nI 0)])
    refine lv_if_eq (tgt := 27) hx hb dX8_holds_14 (by decide) (fun _ => ?_) (fun c => absurd (show (nI 0) = 0 by decide +kernel) c)
    refine lv_bipush (v := (-2)) hx hb dX8_holds_27 (by decide +kernel) ?_
    exact g_iret (Qr := (q_m_holds T n o row le wh w0 g1 g2 g3 g4 tp w6 w7 w8 w9 w10 w11 w12 w13 w14 g15 w16 g17 w18 w19 g20 w21 g22 g23 g24 w25 w26 w27 g28 g29 w30 g31 g32 g33 fa fh fk fr fq fm fn)) hC V ⟨(Nat.le_of_ble_eq_true rfl), (Nat.le_of_ble_eq_true rfl)⟩ ⟨(-2), w21, fh, fk, fr, rfl, rfl⟩ dX8_holds_29

def q_m_even (T : Nat → ClassId) (n : Nat) (o : Nat) (row : Int32) (le : Int32) (w0 : Int32) (g1 : Nat) (g2 : Nat) (g3 : Nat) (g4 : Nat) (tp : Nat) (w6 : Int32) (w7 : Int32) (w8 : Int32) (w9 : Int32) (w10 : Int32) (w11 : Int32) (w12 : Int32) (w13 : Int32) (w14 : Int32) (g15 : Nat) (w16 : Int32) (g17 : Nat) (w18 : Int32) (w19 : Int32) (g20 : Nat) (w21 : Int32) (g22 : Nat) (g23 : Nat) (g24 : Nat) (w25 : Int32) (w26 : Int32) (w27 : Int32) (g28 : Nat) (g29 : Nat) (w30 : Int32) (g31 : Nat) (g32 : Nat) (g33 : Nat) (fa : Nat → Int32) (fr : Nat → Int64) (fq : Nat → Int32) (fm : Nat → Int32) (fn : Nat → Int64) : Option Value → va_W → Prop := fun rr ww => (∃ (z : Int32) (gr : Nat → Int64), rr = some (.int z) ∧ ww = [(o, .inr (8, [.int (nI 0), .ref g1, .ref g2, .ref g3, .ref g4, .int (nI tp), .int w6, .int w7, .int w8, .int w9, .int w10, .int w11, .int w12, .int w13, .int w14, .ref g15, .int w16, .ref g17, .int w18, .int w19, .ref g20, .int w21, .ref g22, .ref g23, .ref g24, .int w25, .int w26, .int w27, .ref g28, .ref g29, .int w30, .ref g31, .ref g32, .ref g33])), (g1, .inl (T 0, 282, .inl fa)), (g20, .inl (T 1, 10, .inr (.inl gr))), (g31, .inl (T 0, 4, .inl fq)), (g32, .inl (T 0, 4, .inl fm)), (g33, .inl (T 1, 160, .inr (.inl fn)))])
set_option maxHeartbeats 4000000 in
set_option maxRecDepth 100000 in
theorem m_even (l : Launch) (D : va_G) (T : Nat → ClassId) (n : Nat) (o : Nat) (row : Int32) (le : Int32) (w0 : Int32) (g1 : Nat) (g2 : Nat) (g3 : Nat) (g4 : Nat) (tp : Nat) (w6 : Int32) (w7 : Int32) (w8 : Int32) (w9 : Int32) (w10 : Int32) (w11 : Int32) (w12 : Int32) (w13 : Int32) (w14 : Int32) (g15 : Nat) (w16 : Int32) (g17 : Nat) (w18 : Int32) (w19 : Int32) (g20 : Nat) (w21 : Int32) (g22 : Nat) (g23 : Nat) (g24 : Nat) (w25 : Int32) (w26 : Int32) (w27 : Int32) (g28 : Nat) (g29 : Nat) (w30 : Int32) (g31 : Nat) (g32 : Nat) (g33 : Nat) (fa : Nat → Int32) (fr : Nat → Int64) (fq : Nat → Int32) (fm : Nat → Int32) (fn : Nat → Int64) (h_a : MI n fa) : Ct l yX8_even cX8_even 9 (some .int) 2 0 0 D T [.ref o, .int row, .int le] [(o, .inr (8, [.int w0, .ref g1, .ref g2, .ref g3, .ref g4, .int (nI tp), .int w6, .int w7, .int w8, .int w9, .int w10, .int w11, .int w12, .int w13, .int w14, .ref g15, .int w16, .ref g17, .int w18, .int w19, .ref g20, .int w21, .ref g22, .ref g23, .ref g24, .int w25, .int w26, .int w27, .ref g28, .ref g29, .int w30, .ref g31, .ref g32, .ref g33])), (g1, .inl (T 0, 282, .inl fa)), (g20, .inl (T 1, 10, .inr (.inl fr))), (g31, .inl (T 0, 4, .inl fq)), (g32, .inl (T 0, 4, .inl fm)), (g33, .inl (T 1, 160, .inr (.inl fn)))] (q_m_even T n o row le w0 g1 g2 g3 g4 tp w6 w7 w8 w9 w10 w11 w12 w13 w14 g15 w16 g17 w18 w19 g20 w21 g22 g23 g24 w25 w26 w27 g28 g29 w30 g31 g32 g33 fa fr fq fm fn) := by
  refine Ct.of (cc := cX8_even) (maxL := 9) (ret := (some .int)) (by decide) (Nat.le_of_ble_eq_true rfl) ?_
  intro p e s m args below meth c A ls hC hnm V hl
  obtain ⟨hx, hb, hr, hml, hown, hts, hlocks⟩ := id hC
  generalize hH : s.heap = H at V ⊢
  clear hH
  have hl : lv_has ls 9 [(0, .ref o), (1, .int row), (2, .int le)] := hl
  generalize hlo : ([] : List Loc) = locs at V ⊢
  clear hlo
  have ms0 := ms_rf h_a
  have hn10 := h_a.1
  refine lv_aload_n hx hb dX8_even_0 rfl (lv_at hl 0 rfl) ?_
  refine lv_iconst (v := (nI 0)) hx hb dX8_even_1 (by decide +kernel) ?_
  refine g_put hC V (ci := 8) uwX8 tyX8 tyX8_ok nmX8 0 rfl rfl 0 (by decide) w_912 rfl rfl rfl rfl (Nat.le_of_ble_eq_true rfl) (ws' := [(o, .inr (8, [.int (nI 0), .ref g1, .ref g2, .ref g3, .ref g4, .int (nI tp), .int w6, .int w7, .int w8, .int w9, .int w10, .int w11, .int w12, .int w13, .int w14, .ref g15, .int w16, .ref g17, .int w18, .int w19, .ref g20, .int w21, .ref g22, .ref g23, .ref g24, .int w25, .int w26, .int w27, .ref g28, .ref g29, .int w30, .ref g31, .ref g32, .ref g33])), (g1, .inl (T 0, 282, .inl fa)), (g20, .inl (T 1, 10, .inr (.inl fr))), (g31, .inl (T 0, 4, .inl fq)), (g32, .inl (T 0, 4, .inl fm)), (g33, .inl (T 1, 160, .inr (.inl fn)))]) rfl dX8_even_2 (fun H locs V => ?_)
  refine lv_iload_n hx hb dX8_even_5 rfl (lv_at hl 1 rfl) ?_
  refine lv_i2l (v := row.toInt64) hx hb dX8_even_6 rfl ?_
  refine lv_lconst (v := (nI 0).toInt64) hx hb dX8_even_7 (by decide +kernel) ?_
  refine lv_ldc2 (v := (3)) hx hb hown (hts _ w_1144) dX8_even_8 ?_
  refine g_vl (y := (nI 3).toInt64) (by decide +kernel) ?_
  refine g_callSU (nA := 3) hC V hl.1 (m_within l D T row (nI 0) (nI 3)) w_1023 w_1024 w_9 w_1025 (by decide +kernel) rfl ⟨(Nat.le_of_ble_eq_true rfl), (Nat.le_of_ble_eq_true rfl)⟩ [] rfl rfl (Nat.le_of_ble_eq_true rfl) dX8_even_11 ⟨(Nat.le_of_ble_eq_true rfl), (Nat.le_of_ble_eq_true rfl)⟩ rfl (fun r w1 H locs hQ V => ?_)
  rcases hQ with ⟨rfl, rfl, f_1, f_2⟩ | ⟨rfl, rfl, f_3⟩
  · have V : gW D T A s [(o, .inr (8, [.int (nI 0), .ref g1, .ref g2, .ref g3, .ref g4, .int (nI tp), .int w6, .int w7, .int w8, .int w9, .int w10, .int w11, .int w12, .int w13, .int w14, .ref g15, .int w16, .ref g17, .int w18, .int w19, .ref g20, .int w21, .ref g22, .ref g23, .ref g24, .int w25, .int w26, .int w27, .ref g28, .ref g29, .int w30, .ref g31, .ref g32, .ref g33])), (g1, .inl (T 0, 282, .inl fa)), (g20, .inl (T 1, 10, .inr (.inl fr))), (g31, .inl (T 0, 4, .inl fq)), (g32, .inl (T 0, 4, .inl fm)), (g33, .inl (T 1, 160, .inr (.inl fn)))] H locs := V _ [] rfl rfl rfl (by decide +kernel) rfl
    show W p l e _ s m args below meth c H locs _ _ _ (F0 m 14 ls [.int (nI 1)])
    obtain ⟨r, hr1, hr2, er⟩ := g_rng (by decide) (by decide) f_1 f_2
    rw [er] at hl
    refine lv_if_ne (tgt := 20) hx hb dX8_even_14 (by decide) (fun _ => ?_) (fun c => absurd (show (nI 1) = 0 from c) (by decide +kernel))
    refine lv_aload_n hx hb dX8_even_20 rfl (lv_at hl 0 rfl) ?_
    refine lv_iload_n hx hb dX8_even_21 rfl (lv_at hl 1 rfl) ?_
    refine lv_iload_n hx hb dX8_even_22 rfl (lv_at hl 2 rfl) ?_
    refine g_callV (wr := []) (nA := 2) hC V hl.1 (m_takesRhythm l D T n o r le (nI 0) g1 g2 g3 g4 tp w6 w7 w8 w9 w10 w11 w12 w13 w14 g15 w16 g17 w18 w19 g20 w21 g22 g23 g24 w25 w26 w27 g28 g29 w30 g31 g32 g33 fa fr fq fm fn h_a (by first | assumption | omega)) w_1224 w_1226 w_s63 w_9 w_1227 (by decide +kernel) rfl ⟨(Nat.le_of_ble_eq_true rfl), (Nat.le_of_ble_eq_true rfl)⟩ 0 (ci := 8) rfl rfl [0, 1, 2, 3, 4, 5] [] rfl rfl rfl rfl (by decide) (Nat.le_of_ble_eq_true rfl) dX8_even_23 ⟨(Nat.le_of_ble_eq_true rfl), (Nat.le_of_ble_eq_true rfl)⟩ rfl (fun r w1 H locs hQ V => ?_)
    rcases hQ with ⟨jl, gR, rfl, rfl, f_4, f_5, f_6⟩ | ⟨z_7, rfl, rfl, f_8⟩
    · have V : gW D T A s [(o, .inr (8, [.int (nI 0), .ref g1, .ref g2, .ref g3, .ref g4, .int (nI tp), .int w6, .int w7, .int w8, .int w9, .int w10, .int w11, .int w12, .int w13, .int w14, .ref g15, .int w16, .ref g17, .int w18, .int w19, .ref g20, .int w21, .ref g22, .ref g23, .ref g24, .int w25, .int w26, .int w27, .ref g28, .ref g29, .int w30, .ref g31, .ref g32, .ref g33])), (g1, .inl (T 0, 282, .inl fa)), (g20, .inl (T 1, 10, .inr (.inl gR))), (g31, .inl (T 0, 4, .inl fq)), (g32, .inl (T 0, 4, .inl fm)), (g33, .inl (T 1, 160, .inr (.inl fn)))] H locs := V
      show W p l e _ s m args below meth c H locs _ _ _ (F0 m 26 ls [.int (nI 0)])
      rw [f_6] at hl
      refine lv_istore_n (lv' := [(3, .int (nI 0)), (0, .ref o), (1, .int (nI r)), (2, .int (nI jl))]) hx hb dX8_even_26 rfl hl (by decide) rfl (fun ls hl => ?_)
      refine lv_iload_n hx hb dX8_even_27 rfl (lv_at hl 0 rfl) ?_
      refine lv_if_eq (tgt := 33) hx hb dX8_even_28 (by decide) (fun _ => ?_) (fun c => absurd (show (nI 0) = 0 by decide +kernel) c)
      refine lv_iconst (v := (nI 0)) hx hb dX8_even_33 (by decide +kernel) ?_
      refine lv_istore (lv' := [(4, .int (nI 0)), (3, .int (nI 0)), (0, .ref o), (1, .int (nI r)), (2, .int (nI jl))]) hx hb dX8_even_34 hl (by decide) rfl (fun ls hl => ?_)
      refine lv_iconst (v := (nI 0)) hx hb dX8_even_36 (by decide +kernel) ?_
      refine lv_istore (lv' := [(5, .int (nI 0)), (4, .int (nI 0)), (3, .int (nI 0)), (0, .ref o), (1, .int (nI r)), (2, .int (nI jl))]) hx hb dX8_even_37 hl (by decide) rfl (fun ls hl => ?_)
      have L_9 : ∀ (fu : Nat) (k39 : Nat) (x39_4 : Int32), k39 ≤ n → n - k39 < fu → ∀ (H : Heap) (locs : List Loc) (ls : Array Slot), gW D T A s [(o, .inr (8, [.int (nI 0), .ref g1, .ref g2, .ref g3, .ref g4, .int (nI tp), .int w6, .int w7, .int w8, .int w9, .int w10, .int w11, .int w12, .int w13, .int w14, .ref g15, .int w16, .ref g17, .int w18, .int w19, .ref g20, .int w21, .ref g22, .ref g23, .ref g24, .int w25, .int w26, .int w27, .ref g28, .ref g29, .int w30, .ref g31, .ref g32, .ref g33])), (g1, .inl (T 0, 282, .inl fa)), (g20, .inl (T 1, 10, .inr (.inl gR))), (g31, .inl (T 0, 4, .inl fq)), (g32, .inl (T 0, 4, .inl fm)), (g33, .inl (T 1, 160, .inr (.inl fn)))] H locs → lv_has ls 9 [(5, .int (nI k39)), (4, .int x39_4), (3, .int (nI 0)), (0, .ref o), (1, .int (nI r)), (2, .int (nI jl))] → W p l e (rmD 2 0 0) s m args below meth c H locs 0 0 (MQ below (gQ D A (q_m_even T n o row le w0 g1 g2 g3 g4 tp w6 w7 w8 w9 w10 w11 w12 w13 w14 g15 w16 g17 w18 w19 g20 w21 g22 g23 g24 w25 w26 w27 g28 g29 w30 g31 g32 g33 fa fr fq fm fn)) args s 0 0 A) (F0 m 39 ls []) := by
        intro fu_39
        induction fu_39 with
        | zero => intro k39 x39_4 hk39 hmu; exact absurd hmu (Nat.not_lt_zero _)
        | succ fu_39 ih_39 =>
          intro k39 x39_4 hk39 hmu_39 H locs ls V hl
          refine lv_iload hx hb dX8_even_39 (lv_at hl 0 rfl) ?_
          refine lv_aload_n hx hb dX8_even_41 rfl (lv_at hl 3 rfl) ?_
          refine g_get hC V (ci := 8) uwX8 0 rfl rfl 1 (by decide) w_913 rfl rfl dX8_even_42 ?_
          refine lv_iconst (v := (nI 0)) hx hb dX8_even_45 (by decide +kernel) ?_
          refine g_iald hC V 1 rfl (vp_in_nI (by decide) (by decide)) (v := (nI n)) (by rw [nI_clamp (by decide)]; first | rfl | exact h_a.2.1) dX8_even_46 ?_
          refine lv_icmp_ge (tgt := 172) hx hb dX8_even_47 (by decide) (fun c_10 => ?_) (fun c_10 => ?_)
          · skip
            have c_10 := b_le (by omega) (by omega) c_10
            refine lv_iload hx hb dX8_even_172 (lv_at hl 1 rfl) ?_
            exact g_iret (Qr := (q_m_even T n o row le w0 g1 g2 g3 g4 tp w6 w7 w8 w9 w10 w11 w12 w13 w14 g15 w16 g17 w18 w19 g20 w21 g22 g23 g24 w25 w26 w27 g28 g29 w30 g31 g32 g33 fa fr fq fm fn)) hC V ⟨(Nat.le_of_ble_eq_true rfl), (Nat.le_of_ble_eq_true rfl)⟩ ⟨x39_4, gR, rfl, rfl⟩ dX8_even_174
          · skip
            have c_10 := b_nle (by omega) (by omega) c_10
            refine lv_iload_n hx hb dX8_even_50 rfl (lv_at hl 5 rfl) ?_
            refine lv_ineg hx hb dX8_even_51 ?_
            refine lv_aload_n hx hb dX8_even_52 rfl (lv_at hl 3 rfl) ?_
            refine g_get hC V (ci := 8) uwX8 0 rfl rfl 1 (by decide) w_913 rfl rfl dX8_even_53 ?_
            refine lv_bipush (v := (nI 14)) hx hb dX8_even_56 (by decide +kernel) ?_
            refine lv_iload hx hb dX8_even_58 (lv_at hl 0 rfl) ?_
            refine lv_iadd hx hb dX8_even_60 ?_
            refine g_vi (y := (nI (14 + k39))) (nI_add _ _) ?_
            obtain ⟨j_11, hj_11, ej_11⟩ := bd_ex (mi_cool h_a (i := k39) (by omega))
            refine g_iald hC V 1 rfl (vp_in_nI (by omega) (by omega)) (v := (nI j_11)) (by rw [nI_clamp (by omega)]; exact ej_11) dX8_even_61 ?_
            refine lv_imul hx hb dX8_even_62 ?_
            refine lv_istore (lv' := [(6, .int ((-(nI jl)) * (nI j_11))), (5, .int (nI k39)), (4, .int x39_4), (3, .int (nI 0)), (0, .ref o), (1, .int (nI r)), (2, .int (nI jl))]) hx hb dX8_even_63 hl (by decide) rfl (fun ls hl => ?_)
            refine lv_iconst (v := (nI 0)) hx hb dX8_even_65 (by decide +kernel) ?_
            refine lv_istore (lv' := [(7, .int (nI 0)), (6, .int ((-(nI jl)) * (nI j_11))), (5, .int (nI k39)), (4, .int x39_4), (3, .int (nI 0)), (0, .ref o), (1, .int (nI r)), (2, .int (nI jl))]) hx hb dX8_even_66 hl (by decide) rfl (fun ls hl => ?_)
            have L_12 : ∀ (fu : Nat) (k68 : Nat) (x68_6 : Int32), k68 ≤ jl → jl - k68 < fu → ∀ (H : Heap) (locs : List Loc) (ls : Array Slot), gW D T A s [(o, .inr (8, [.int (nI 0), .ref g1, .ref g2, .ref g3, .ref g4, .int (nI tp), .int w6, .int w7, .int w8, .int w9, .int w10, .int w11, .int w12, .int w13, .int w14, .ref g15, .int w16, .ref g17, .int w18, .int w19, .ref g20, .int w21, .ref g22, .ref g23, .ref g24, .int w25, .int w26, .int w27, .ref g28, .ref g29, .int w30, .ref g31, .ref g32, .ref g33])), (g1, .inl (T 0, 282, .inl fa)), (g20, .inl (T 1, 10, .inr (.inl gR))), (g31, .inl (T 0, 4, .inl fq)), (g32, .inl (T 0, 4, .inl fm)), (g33, .inl (T 1, 160, .inr (.inl fn)))] H locs → lv_has ls 9 [(7, .int (nI k68)), (6, .int x68_6), (5, .int (nI k39)), (4, .int x39_4), (3, .int (nI 0)), (0, .ref o), (1, .int (nI r)), (2, .int (nI jl))] → W p l e (rmD 2 0 0) s m args below meth c H locs 0 0 (MQ below (gQ D A (q_m_even T n o row le w0 g1 g2 g3 g4 tp w6 w7 w8 w9 w10 w11 w12 w13 w14 g15 w16 g17 w18 w19 g20 w21 g22 g23 g24 w25 w26 w27 g28 g29 w30 g31 g32 g33 fa fr fq fm fn)) args s 0 0 A) (F0 m 68 ls []) := by
              intro fu_68
              induction fu_68 with
              | zero => intro k68 x68_6 hk68 hmu; exact absurd hmu (Nat.not_lt_zero _)
              | succ fu_68 ih_68 =>
                intro k68 x68_6 hk68 hmu_68 H locs ls V hl
                refine lv_iload hx hb dX8_even_68 (lv_at hl 0 rfl) ?_
                refine lv_iload_n hx hb dX8_even_70 rfl (lv_at hl 7 rfl) ?_
                refine lv_icmp_ge (tgt := 148) hx hb dX8_even_71 (by decide) (fun c_13 => ?_) (fun c_13 => ?_)
                · skip
                  have c_13 := b_le (by omega) (by omega) c_13
                  refine lv_iload hx hb dX8_even_148 (lv_at hl 3 rfl) ?_
                  refine lv_iload hx hb dX8_even_150 (lv_at hl 1 rfl) ?_
                  refine lv_if_ne (tgt := 162) hx hb dX8_even_152 (by decide) (fun c_14 => ?_) (fun c_14 => ?_)
                  · skip
                    refine lv_iconst (v := (nI 0)) hx hb dX8_even_162 (by decide +kernel) ?_
                    refine lv_ior hx hb dX8_even_163 ?_
                    refine lv_istore (lv' := [(4, .int (x39_4 ||| (nI 0))), (7, .int (nI k68)), (6, .int x68_6), (5, .int (nI k39)), (3, .int (nI 0)), (0, .ref o), (1, .int (nI r)), (2, .int (nI jl))]) hx hb dX8_even_164 hl (by decide) rfl (fun ls hl => ?_)
                    refine lv_iinc (v := (nI (k39 + 1))) (lv' := [(5, .int (nI (k39 + 1))), (4, .int (x39_4 ||| (nI 0))), (7, .int (nI k68)), (6, .int x68_6), (3, .int (nI 0)), (0, .ref o), (1, .int (nI r)), (2, .int (nI jl))]) hx hb dX8_even_166 hl (k := 3) rfl (nI_1 _) (by decide) rfl (fun ls hl => ?_)
                    refine lv_goto (tgt := 39) hx hb dX8_even_169 (by decide) ?_
                    exact ih_39 (k39 + 1) (x39_4 ||| (nI 0)) (by omega) (by omega) _ _ _ V (lv_sub hl [0, 1, 4, 5, 6, 7] rfl)
                  · skip
                    refine lv_iconst (v := (nI 1)) hx hb dX8_even_155 (by decide +kernel) ?_
                    refine lv_iload hx hb dX8_even_156 (lv_at hl 2 rfl) ?_
                    refine lv_ishl hx hb dX8_even_158 ?_
                    refine lv_goto (tgt := 163) hx hb dX8_even_159 (by decide) ?_
                    refine lv_ior hx hb dX8_even_163 ?_
                    refine lv_istore (lv' := [(4, .int (x39_4 ||| ((nI 1) <<< ((nI k39) &&& 31)))), (7, .int (nI k68)), (6, .int x68_6), (5, .int (nI k39)), (3, .int (nI 0)), (0, .ref o), (1, .int (nI r)), (2, .int (nI jl))]) hx hb dX8_even_164 hl (by decide) rfl (fun ls hl => ?_)
                    refine lv_iinc (v := (nI (k39 + 1))) (lv' := [(5, .int (nI (k39 + 1))), (4, .int (x39_4 ||| ((nI 1) <<< ((nI k39) &&& 31)))), (7, .int (nI k68)), (6, .int x68_6), (3, .int (nI 0)), (0, .ref o), (1, .int (nI r)), (2, .int (nI jl))]) hx hb dX8_even_166 hl (k := 3) rfl (nI_1 _) (by decide) rfl (fun ls hl => ?_)
                    refine lv_goto (tgt := 39) hx hb dX8_even_169 (by decide) ?_
                    exact ih_39 (k39 + 1) (x39_4 ||| ((nI 1) <<< ((nI k39) &&& 31))) (by omega) (by omega) _ _ _ V (lv_sub hl [0, 1, 4, 5, 6, 7] rfl)
                · skip
                  have c_13 := b_nle (by omega) (by omega) c_13
                  refine lv_iconst (v := (nI 0)) hx hb dX8_even_74 (by decide +kernel) ?_
                  refine lv_istore (lv' := [(8, .int (nI 0)), (7, .int (nI k68)), (6, .int x68_6), (5, .int (nI k39)), (4, .int x39_4), (3, .int (nI 0)), (0, .ref o), (1, .int (nI r)), (2, .int (nI jl))]) hx hb dX8_even_75 hl (by decide) rfl (fun ls hl => ?_)
                  have L_15 : ∀ (fu : Nat) (k77 : Nat) (x77_6 : Int32), k77 ≤ n → n - k77 < fu → ∀ (H : Heap) (locs : List Loc) (ls : Array Slot), gW D T A s [(o, .inr (8, [.int (nI 0), .ref g1, .ref g2, .ref g3, .ref g4, .int (nI tp), .int w6, .int w7, .int w8, .int w9, .int w10, .int w11, .int w12, .int w13, .int w14, .ref g15, .int w16, .ref g17, .int w18, .int w19, .ref g20, .int w21, .ref g22, .ref g23, .ref g24, .int w25, .int w26, .int w27, .ref g28, .ref g29, .int w30, .ref g31, .ref g32, .ref g33])), (g1, .inl (T 0, 282, .inl fa)), (g20, .inl (T 1, 10, .inr (.inl gR))), (g31, .inl (T 0, 4, .inl fq)), (g32, .inl (T 0, 4, .inl fm)), (g33, .inl (T 1, 160, .inr (.inl fn)))] H locs → lv_has ls 9 [(8, .int (nI k77)), (7, .int (nI k68)), (6, .int x77_6), (5, .int (nI k39)), (4, .int x39_4), (3, .int (nI 0)), (0, .ref o), (1, .int (nI r)), (2, .int (nI jl))] → W p l e (rmD 2 0 0) s m args below meth c H locs 0 0 (MQ below (gQ D A (q_m_even T n o row le w0 g1 g2 g3 g4 tp w6 w7 w8 w9 w10 w11 w12 w13 w14 g15 w16 g17 w18 w19 g20 w21 g22 g23 g24 w25 w26 w27 g28 g29 w30 g31 g32 g33 fa fr fq fm fn)) args s 0 0 A) (F0 m 77 ls []) := by
                    intro fu_77
                    induction fu_77 with
                    | zero => intro k77 x77_6 hk77 hmu; exact absurd hmu (Nat.not_lt_zero _)
                    | succ fu_77 ih_77 =>
                      intro k77 x77_6 hk77 hmu_77 H locs ls V hl
                      refine lv_iload hx hb dX8_even_77 (lv_at hl 0 rfl) ?_
                      refine lv_aload_n hx hb dX8_even_79 rfl (lv_at hl 6 rfl) ?_
                      refine g_get hC V (ci := 8) uwX8 0 rfl rfl 1 (by decide) w_913 rfl rfl dX8_even_80 ?_
                      refine lv_iconst (v := (nI 0)) hx hb dX8_even_83 (by decide +kernel) ?_
                      refine g_iald hC V 1 rfl (vp_in_nI (by decide) (by decide)) (v := (nI n)) (by rw [nI_clamp (by decide)]; first | rfl | exact h_a.2.1) dX8_even_84 ?_
                      refine lv_icmp_ge (tgt := 142) hx hb dX8_even_85 (by decide) (fun c_16 => ?_) (fun c_16 => ?_)
                      · skip
                        have c_16 := b_le (by omega) (by omega) c_16
                        refine lv_iinc (v := (nI (k68 + 1))) (lv' := [(7, .int (nI (k68 + 1))), (8, .int (nI k77)), (6, .int x77_6), (5, .int (nI k39)), (4, .int x39_4), (3, .int (nI 0)), (0, .ref o), (1, .int (nI r)), (2, .int (nI jl))]) hx hb dX8_even_142 hl (k := 1) rfl (nI_1 _) (by decide) rfl (fun ls hl => ?_)
                        refine lv_goto (tgt := 68) hx hb dX8_even_145 (by decide) ?_
                        exact ih_68 (k68 + 1) x77_6 (by omega) (by omega) _ _ _ V (lv_sub hl [0, 2, 3, 4, 5, 6, 7, 8] rfl)
                      · skip
                        have c_16 := b_nle (by omega) (by omega) c_16
                        refine lv_iload hx hb dX8_even_88 (lv_at hl 2 rfl) ?_
                        refine lv_aload_n hx hb dX8_even_90 rfl (lv_at hl 6 rfl) ?_
                        refine g_get hC V (ci := 8) uwX8 0 rfl rfl 1 (by decide) w_913 rfl rfl dX8_even_91 ?_
                        refine lv_bipush (v := (nI 84)) hx hb dX8_even_94 (by decide +kernel) ?_
                        refine lv_iload hx hb dX8_even_96 (lv_at hl 0 rfl) ?_
                        refine lv_iadd hx hb dX8_even_98 ?_
                        refine g_vi (y := (nI (84 + k77))) (nI_add _ _) ?_
                        obtain ⟨j_17, hj_17, ej_17⟩ := bd_ex (mi_to h_a (i := k77) (by omega))
                        refine g_iald hC V 1 rfl (vp_in_nI (by omega) (by omega)) (v := (nI j_17)) (by rw [nI_clamp (by omega)]; exact ej_17) dX8_even_99 ?_
                        refine lv_iload hx hb dX8_even_100 (lv_at hl 3 rfl) ?_
                        refine lv_icmp_ne (tgt := 132) hx hb dX8_even_102 (by decide) (fun c_18 => ?_) (fun c_18 => ?_)
                        · skip
                          have c_18 := b_ne (by omega) (by omega) c_18
                          refine lv_iconst (v := (nI 0)) hx hb dX8_even_132 (by decide +kernel) ?_
                          refine lv_iadd hx hb dX8_even_133 ?_
                          refine lv_istore (lv' := [(6, .int (x77_6 + (nI 0))), (8, .int (nI k77)), (7, .int (nI k68)), (5, .int (nI k39)), (4, .int x39_4), (3, .int (nI 0)), (0, .ref o), (1, .int (nI r)), (2, .int (nI jl))]) hx hb dX8_even_134 hl (by decide) rfl (fun ls hl => ?_)
                          refine lv_iinc (v := (nI (k77 + 1))) (lv' := [(8, .int (nI (k77 + 1))), (6, .int (x77_6 + (nI 0))), (7, .int (nI k68)), (5, .int (nI k39)), (4, .int x39_4), (3, .int (nI 0)), (0, .ref o), (1, .int (nI r)), (2, .int (nI jl))]) hx hb dX8_even_136 hl (k := 1) rfl (nI_1 _) (by decide) rfl (fun ls hl => ?_)
                          refine lv_goto (tgt := 77) hx hb dX8_even_139 (by decide) ?_
                          exact ih_77 (k77 + 1) (x77_6 + (nI 0)) (by omega) (by omega) _ _ _ V (lv_sub hl [0, 2, 1, 3, 4, 5, 6, 7, 8] rfl)
                        · skip
                          have c_18 := b_eq (by omega) (by omega) c_18
                          refine lv_aload_n hx hb dX8_even_105 rfl (lv_at hl 6 rfl) ?_
                          refine g_get hC V (ci := 8) uwX8 0 rfl rfl 20 (by decide) w_932 rfl rfl dX8_even_106 ?_
                          refine lv_iload hx hb dX8_even_109 (lv_at hl 0 rfl) ?_
                          refine g_lald hC V 2 rfl (vp_in_nI (by omega) (by omega)) (v := (gR k77)) (congrArg _ (nI_clamp (by omega))) dX8_even_111 ?_
                          refine lv_iload hx hb dX8_even_112 (lv_at hl 1 rfl) ?_
                          refine g_callSU (nA := 2) hC V hl.1 (m_isIn l D T (gR k77) (nI k68)) w_1130 w_1131 w_9 w_1132 (by decide +kernel) rfl ⟨(Nat.le_of_ble_eq_true rfl), (Nat.le_of_ble_eq_true rfl)⟩ [] rfl rfl (Nat.le_of_ble_eq_true rfl) dX8_even_114 ⟨(Nat.le_of_ble_eq_true rfl), (Nat.le_of_ble_eq_true rfl)⟩ rfl (fun r w1 H locs hQ V => ?_)
                          rcases hQ with ⟨rfl, rfl⟩ | ⟨rfl, rfl⟩
                          · have V : gW D T A s [(o, .inr (8, [.int (nI 0), .ref g1, .ref g2, .ref g3, .ref g4, .int (nI tp), .int w6, .int w7, .int w8, .int w9, .int w10, .int w11, .int w12, .int w13, .int w14, .ref g15, .int w16, .ref g17, .int w18, .int w19, .ref g20, .int w21, .ref g22, .ref g23, .ref g24, .int w25, .int w26, .int w27, .ref g28, .ref g29, .int w30, .ref g31, .ref g32, .ref g33])), (g1, .inl (T 0, 282, .inl fa)), (g20, .inl (T 1, 10, .inr (.inl gR))), (g31, .inl (T 0, 4, .inl fq)), (g32, .inl (T 0, 4, .inl fm)), (g33, .inl (T 1, 160, .inr (.inl fn)))] H locs := V _ [] rfl rfl rfl (by decide +kernel) rfl
                            show W p l e _ s m args below meth c H locs _ _ _ (F0 m 117 ls [.int (nI 1), .int x77_6])
                            refine lv_if_eq (tgt := 132) hx hb dX8_even_117 (by decide) (fun c => absurd (show (nI 1) = 0 from c) (by decide +kernel)) (fun _ => ?_)
                            refine lv_aload_n hx hb dX8_even_120 rfl (lv_at hl 6 rfl) ?_
                            refine g_get hC V (ci := 8) uwX8 0 rfl rfl 1 (by decide) w_913 rfl rfl dX8_even_121 ?_
                            refine lv_iconst (v := (nI 4)) hx hb dX8_even_124 (by decide +kernel) ?_
                            refine lv_iload hx hb dX8_even_125 (lv_at hl 0 rfl) ?_
                            refine lv_iadd hx hb dX8_even_127 ?_
                            refine g_vi (y := (nI (4 + k77))) (nI_add _ _) ?_
                            obtain ⟨j_19, hj_19, ej_19⟩ := bd_ex (mi_blast h_a (i := k77) (by omega))
                            refine g_iald hC V 1 rfl (vp_in_nI (by omega) (by omega)) (v := (nI j_19)) (by rw [nI_clamp (by omega)]; exact ej_19) dX8_even_128 ?_
                            refine lv_goto (tgt := 133) hx hb dX8_even_129 (by decide) ?_
                            refine lv_iadd hx hb dX8_even_133 ?_
                            refine lv_istore (lv' := [(6, .int (x77_6 + (nI j_19))), (8, .int (nI k77)), (7, .int (nI k68)), (5, .int (nI k39)), (4, .int x39_4), (3, .int (nI 0)), (0, .ref o), (1, .int (nI r)), (2, .int (nI jl))]) hx hb dX8_even_134 hl (by decide) rfl (fun ls hl => ?_)
                            refine lv_iinc (v := (nI (k77 + 1))) (lv' := [(8, .int (nI (k77 + 1))), (6, .int (x77_6 + (nI j_19))), (7, .int (nI k68)), (5, .int (nI k39)), (4, .int x39_4), (3, .int (nI 0)), (0, .ref o), (1, .int (nI r)), (2, .int (nI jl))]) hx hb dX8_even_136 hl (k := 1) rfl (nI_1 _) (by decide) rfl (fun ls hl => ?_)
                            refine lv_goto (tgt := 77) hx hb dX8_even_139 (by decide) ?_
                            exact ih_77 (k77 + 1) (x77_6 + (nI j_19)) (by omega) (by omega) _ _ _ V (lv_sub hl [0, 2, 1, 3, 4, 5, 6, 7, 8] rfl)
                          · have V : gW D T A s [(o, .inr (8, [.int (nI 0), .ref g1, .ref g2, .ref g3, .ref g4, .int (nI tp), .int w6, .int w7, .int w8, .int w9, .int w10, .int w11, .int w12, .int w13, .int w14, .ref g15, .int w16, .ref g17, .int w18, .int w19, .ref g20, .int w21, .ref g22, .ref g23, .ref g24, .int w25, .int w26, .int w27, .ref g28, .ref g29, .int w30, .ref g31, .ref g32, .ref g33])), (g1, .inl (T 0, 282, .inl fa)), (g20, .inl (T 1, 10, .inr (.inl gR))), (g31, .inl (T 0, 4, .inl fq)), (g32, .inl (T 0, 4, .inl fm)), (g33, .inl (T 1, 160, .inr (.inl fn)))] H locs := V _ [] rfl rfl rfl (by decide +kernel) rfl
                            show W p l e _ s m args below meth c H locs _ _ _ (F0 m 117 ls [.int (nI 0), .int x77_6])
                            refine lv_if_eq (tgt := 132) hx hb dX8_even_117 (by decide) (fun _ => ?_) (fun c => absurd (show (nI 0) = 0 by decide +kernel) c)
                            refine lv_iconst (v := (nI 0)) hx hb dX8_even_132 (by decide +kernel) ?_
                            refine lv_iadd hx hb dX8_even_133 ?_
                            refine lv_istore (lv' := [(6, .int (x77_6 + (nI 0))), (8, .int (nI k77)), (7, .int (nI k68)), (5, .int (nI k39)), (4, .int x39_4), (3, .int (nI 0)), (0, .ref o), (1, .int (nI r)), (2, .int (nI jl))]) hx hb dX8_even_134 hl (by decide) rfl (fun ls hl => ?_)
                            refine lv_iinc (v := (nI (k77 + 1))) (lv' := [(8, .int (nI (k77 + 1))), (6, .int (x77_6 + (nI 0))), (7, .int (nI k68)), (5, .int (nI k39)), (4, .int x39_4), (3, .int (nI 0)), (0, .ref o), (1, .int (nI r)), (2, .int (nI jl))]) hx hb dX8_even_136 hl (k := 1) rfl (nI_1 _) (by decide) rfl (fun ls hl => ?_)
                            refine lv_goto (tgt := 77) hx hb dX8_even_139 (by decide) ?_
                            exact ih_77 (k77 + 1) (x77_6 + (nI 0)) (by omega) (by omega) _ _ _ V (lv_sub hl [0, 2, 1, 3, 4, 5, 6, 7, 8] rfl)
                  exact L_15 _ 0 x68_6 (by omega) (Nat.lt_succ_self _) _ _ _ V (lv_sub hl [0, 1, 2, 3, 4, 5, 6, 7, 8] rfl)
            exact L_12 _ 0 ((-(nI jl)) * (nI j_11)) (by omega) (Nat.lt_succ_self _) _ _ _ V (lv_sub hl [0, 1, 2, 3, 4, 5, 6, 7] rfl)
      exact L_9 _ 0 (nI 0) (by omega) (Nat.lt_succ_self _) _ _ _ V (lv_sub hl [0, 1, 2, 3, 4, 5] rfl)
    · have V : gW D T A s [(o, .inr (8, [.int (nI 0), .ref g1, .ref g2, .ref g3, .ref g4, .int (nI tp), .int w6, .int w7, .int w8, .int w9, .int w10, .int w11, .int w12, .int w13, .int w14, .ref g15, .int w16, .ref g17, .int w18, .int w19, .ref g20, .int w21, .ref g22, .ref g23, .ref g24, .int w25, .int w26, .int w27, .ref g28, .ref g29, .int w30, .ref g31, .ref g32, .ref g33])), (g1, .inl (T 0, 282, .inl fa)), (g20, .inl (T 1, 10, .inr (.inl fr))), (g31, .inl (T 0, 4, .inl fq)), (g32, .inl (T 0, 4, .inl fm)), (g33, .inl (T 1, 160, .inr (.inl fn)))] H locs := V
      show W p l e _ s m args below meth c H locs _ _ _ (F0 m 26 ls [.int z_7])
      refine lv_istore_n (lv' := [(3, .int z_7), (0, .ref o), (1, .int (nI r)), (2, .int le)]) hx hb dX8_even_26 rfl hl (by decide) rfl (fun ls hl => ?_)
      refine lv_iload_n hx hb dX8_even_27 rfl (lv_at hl 0 rfl) ?_
      refine lv_if_eq (tgt := 33) hx hb dX8_even_28 (by decide) (fun c_20 => ?_) (fun c_20 => ?_)
      · skip
        exact (absurd c_20 (by assumption) : False).elim
      · skip
        refine lv_iload_n hx hb dX8_even_31 rfl (lv_at hl 0 rfl) ?_
        exact g_iret (Qr := (q_m_even T n o row le w0 g1 g2 g3 g4 tp w6 w7 w8 w9 w10 w11 w12 w13 w14 g15 w16 g17 w18 w19 g20 w21 g22 g23 g24 w25 w26 w27 g28 g29 w30 g31 g32 g33 fa fr fq fm fn)) hC V ⟨(Nat.le_of_ble_eq_true rfl), (Nat.le_of_ble_eq_true rfl)⟩ ⟨z_7, fr, rfl, rfl⟩ dX8_even_32
  · have V : gW D T A s [(o, .inr (8, [.int (nI 0), .ref g1, .ref g2, .ref g3, .ref g4, .int (nI tp), .int w6, .int w7, .int w8, .int w9, .int w10, .int w11, .int w12, .int w13, .int w14, .ref g15, .int w16, .ref g17, .int w18, .int w19, .ref g20, .int w21, .ref g22, .ref g23, .ref g24, .int w25, .int w26, .int w27, .ref g28, .ref g29, .int w30, .ref g31, .ref g32, .ref g33])), (g1, .inl (T 0, 282, .inl fa)), (g20, .inl (T 1, 10, .inr (.inl fr))), (g31, .inl (T 0, 4, .inl fq)), (g32, .inl (T 0, 4, .inl fm)), (g33, .inl (T 1, 160, .inr (.inl fn)))] H locs := V _ [] rfl rfl rfl (by decide +kernel) rfl
    show W p l e _ s m args below meth c H locs _ _ _ (F0 m 14 ls [.int (nI 0)])
    refine lv_if_ne (tgt := 20) hx hb dX8_even_14 (by decide) (fun c => absurd (show (nI 0) = 0 by decide +kernel) c) (fun _ => ?_)
    refine lv_bipush (v := (-2)) hx hb dX8_even_17 (by decide +kernel) ?_
    exact g_iret (Qr := (q_m_even T n o row le w0 g1 g2 g3 g4 tp w6 w7 w8 w9 w10 w11 w12 w13 w14 g15 w16 g17 w18 w19 g20 w21 g22 g23 g24 w25 w26 w27 g28 g29 w30 g31 g32 g33 fa fr fq fm fn)) hC V ⟨(Nat.le_of_ble_eq_true rfl), (Nat.le_of_ble_eq_true rfl)⟩ ⟨(-2), fr, rfl, rfl⟩ dX8_even_19

def q_m_waves (T : Nat → ClassId) (n : Nat) (o : Nat) (le : Nat) (step : Int32) (w0 : Int32) (g1 : Nat) (g2 : Nat) (g3 : Nat) (g4 : Nat) (tp : Nat) (w6 : Int32) (w7 : Int32) (w8 : Int32) (w9 : Int32) (w10 : Int32) (w11 : Int32) (w12 : Int32) (w13 : Int32) (w14 : Int32) (g15 : Nat) (w16 : Int32) (g17 : Nat) (w18 : Int32) (w19 : Int32) (g20 : Nat) (w21 : Int32) (g22 : Nat) (g23 : Nat) (g24 : Nat) (w25 : Int32) (w26 : Int32) (w27 : Int32) (g28 : Nat) (g29 : Nat) (w30 : Int32) (g31 : Nat) (g32 : Nat) (g33 : Nat) (fa : Nat → Int32) (fh : Nat → Int32) (fk : Nat → Int32) (fr : Nat → Int64) : Option Value → va_W → Prop := fun rr ww => (∃ (z : Int32) (wq : Int32) (gh : Nat → Int32) (gk : Nat → Int32) (gr : Nat → Int64), rr = some (.int z) ∧ ww = [(o, .inr (8, [.int w0, .ref g1, .ref g2, .ref g3, .ref g4, .int (nI tp), .int w6, .int w7, .int w8, .int w9, .int w10, .int w11, .int w12, .int w13, .int w14, .ref g15, .int w16, .ref g17, .int w18, .int w19, .ref g20, .int wq, .ref g22, .ref g23, .ref g24, .int w25, .int w26, .int w27, .ref g28, .ref g29, .int w30, .ref g31, .ref g32, .ref g33])), (g1, .inl (T 0, 282, .inl fa)), (g15, .inl (T 0, 10, .inl gh)), (g17, .inl (T 0, 94, .inl gk)), (g20, .inl (T 1, 10, .inr (.inl gr)))])
set_option maxHeartbeats 4000000 in
set_option maxRecDepth 100000 in
theorem m_waves (l : Launch) (D : va_G) (T : Nat → ClassId) (n : Nat) (o : Nat) (le : Nat) (step : Int32) (w0 : Int32) (g1 : Nat) (g2 : Nat) (g3 : Nat) (g4 : Nat) (tp : Nat) (w6 : Int32) (w7 : Int32) (w8 : Int32) (w9 : Int32) (w10 : Int32) (w11 : Int32) (w12 : Int32) (w13 : Int32) (w14 : Int32) (g15 : Nat) (w16 : Int32) (g17 : Nat) (w18 : Int32) (w19 : Int32) (g20 : Nat) (w21 : Int32) (g22 : Nat) (g23 : Nat) (g24 : Nat) (w25 : Int32) (w26 : Int32) (w27 : Int32) (g28 : Nat) (g29 : Nat) (w30 : Int32) (g31 : Nat) (g32 : Nat) (g33 : Nat) (fa : Nat → Int32) (fh : Nat → Int32) (fk : Nat → Int32) (fr : Nat → Int64) (h_a : MI n fa) (h_l : 1 ≤ le ∧ le ≤ 12) : Ct l yX8_waves cX8_waves 4 (some .int) 4 0 0 D T [.ref o, .int (nI le), .int step] [(o, .inr (8, [.int w0, .ref g1, .ref g2, .ref g3, .ref g4, .int (nI tp), .int w6, .int w7, .int w8, .int w9, .int w10, .int w11, .int w12, .int w13, .int w14, .ref g15, .int w16, .ref g17, .int w18, .int w19, .ref g20, .int w21, .ref g22, .ref g23, .ref g24, .int w25, .int w26, .int w27, .ref g28, .ref g29, .int w30, .ref g31, .ref g32, .ref g33])), (g1, .inl (T 0, 282, .inl fa)), (g15, .inl (T 0, 10, .inl fh)), (g17, .inl (T 0, 94, .inl fk)), (g20, .inl (T 1, 10, .inr (.inl fr)))] (q_m_waves T n o le step w0 g1 g2 g3 g4 tp w6 w7 w8 w9 w10 w11 w12 w13 w14 g15 w16 g17 w18 w19 g20 w21 g22 g23 g24 w25 w26 w27 g28 g29 w30 g31 g32 g33 fa fh fk fr) := by
  refine Ct.of (cc := cX8_waves) (maxL := 4) (ret := (some .int)) (by decide) (Nat.le_of_ble_eq_true rfl) ?_
  intro p e s m args below meth c A ls hC hnm V hl
  obtain ⟨hx, hb, hr, hml, hown, hts, hlocks⟩ := id hC
  generalize hH : s.heap = H at V ⊢
  clear hH
  have hl : lv_has ls 4 [(0, .ref o), (1, .int (nI le)), (2, .int step)] := hl
  generalize hlo : ([] : List Loc) = locs at V ⊢
  clear hlo
  have ms0 := ms_rf h_a
  have hn10 := h_a.1
  refine lv_iconst (v := (nI 0)) hx hb dX8_waves_0 (by decide +kernel) ?_
  refine lv_istore_n (lv' := [(3, .int (nI 0)), (0, .ref o), (1, .int (nI le)), (2, .int step)]) hx hb dX8_waves_1 rfl hl (by decide) rfl (fun ls hl => ?_)
  have L_1 : ∀ (fu : Nat) (k2 : Nat) (gq : Nat → Int64), k2 ≤ n → n - k2 < fu → ∀ (H : Heap) (locs : List Loc) (ls : Array Slot), gW D T A s [(o, .inr (8, [.int w0, .ref g1, .ref g2, .ref g3, .ref g4, .int (nI tp), .int w6, .int w7, .int w8, .int w9, .int w10, .int w11, .int w12, .int w13, .int w14, .ref g15, .int w16, .ref g17, .int w18, .int w19, .ref g20, .int w21, .ref g22, .ref g23, .ref g24, .int w25, .int w26, .int w27, .ref g28, .ref g29, .int w30, .ref g31, .ref g32, .ref g33])), (g1, .inl (T 0, 282, .inl fa)), (g15, .inl (T 0, 10, .inl fh)), (g17, .inl (T 0, 94, .inl fk)), (g20, .inl (T 1, 10, .inr (.inl gq)))] H locs → lv_has ls 4 [(3, .int (nI k2)), (0, .ref o), (1, .int (nI le)), (2, .int step)] → W p l e (rmD 4 0 0) s m args below meth c H locs 0 0 (MQ below (gQ D A (q_m_waves T n o le step w0 g1 g2 g3 g4 tp w6 w7 w8 w9 w10 w11 w12 w13 w14 g15 w16 g17 w18 w19 g20 w21 g22 g23 g24 w25 w26 w27 g28 g29 w30 g31 g32 g33 fa fh fk fr)) args s 0 0 A) (F0 m 2 ls []) := by
    intro fu_2
    induction fu_2 with
    | zero => intro k2 gq hk2 hmu; exact absurd hmu (Nat.not_lt_zero _)
    | succ fu_2 ih_2 =>
      intro k2 gq hk2 hmu_2 H locs ls V hl
      refine lv_iload_n hx hb dX8_waves_2 rfl (lv_at hl 0 rfl) ?_
      refine lv_aload_n hx hb dX8_waves_3 rfl (lv_at hl 1 rfl) ?_
      refine g_get hC V (ci := 8) uwX8 0 rfl rfl 1 (by decide) w_913 rfl rfl dX8_waves_4 ?_
      refine lv_iconst (v := (nI 0)) hx hb dX8_waves_7 (by decide +kernel) ?_
      refine g_iald hC V 1 rfl (vp_in_nI (by decide) (by decide)) (v := (nI n)) (by rw [nI_clamp (by decide)]; first | rfl | exact h_a.2.1) dX8_waves_8 ?_
      refine lv_icmp_ge (tgt := 31) hx hb dX8_waves_9 (by decide) (fun c_2 => ?_) (fun c_2 => ?_)
      · skip
        have c_2 := b_le (by omega) (by omega) c_2
        refine lv_aload_n hx hb dX8_waves_31 rfl (lv_at hl 1 rfl) ?_
        refine lv_iload_n hx hb dX8_waves_32 rfl (lv_at hl 2 rfl) ?_
        refine g_callV (wr := []) (nA := 1) hC V hl.1 (m_holdsBy l D T n o le w0 g1 g2 g3 g4 tp w6 w7 w8 w9 w10 w11 w12 w13 w14 g15 w16 g17 w18 w19 g20 w21 g22 g23 g24 w25 w26 w27 g28 g29 w30 g31 g32 g33 fa fh fk gq h_a (by first | assumption | omega)) w_1229 w_1231 w_s64 w_9 w_1232 (by decide +kernel) rfl ⟨(Nat.le_of_ble_eq_true rfl), (Nat.le_of_ble_eq_true rfl)⟩ 0 (ci := 8) rfl rfl [0, 1, 2, 3, 4] [] rfl rfl rfl rfl (by decide) (Nat.le_of_ble_eq_true rfl) dX8_waves_33 ⟨(Nat.le_of_ble_eq_true rfl), (Nat.le_of_ble_eq_true rfl)⟩ rfl (fun r w1 H locs hQ V => ?_)
        obtain ⟨z_3, wq_4, gh_5, gk_6, rfl, rfl⟩ := hQ
        have V : gW D T A s [(o, .inr (8, [.int w0, .ref g1, .ref g2, .ref g3, .ref g4, .int (nI tp), .int w6, .int w7, .int w8, .int w9, .int w10, .int w11, .int w12, .int w13, .int w14, .ref g15, .int w16, .ref g17, .int w18, .int w19, .ref g20, .int wq_4, .ref g22, .ref g23, .ref g24, .int w25, .int w26, .int w27, .ref g28, .ref g29, .int w30, .ref g31, .ref g32, .ref g33])), (g1, .inl (T 0, 282, .inl fa)), (g15, .inl (T 0, 10, .inl gh_5)), (g17, .inl (T 0, 94, .inl gk_6)), (g20, .inl (T 1, 10, .inr (.inl gq)))] H locs := V
        show W p l e _ s m args below meth c H locs _ _ _ (F0 m 36 ls [.int z_3])
        exact g_iret (Qr := (q_m_waves T n o le step w0 g1 g2 g3 g4 tp w6 w7 w8 w9 w10 w11 w12 w13 w14 g15 w16 g17 w18 w19 g20 w21 g22 g23 g24 w25 w26 w27 g28 g29 w30 g31 g32 g33 fa fh fk fr)) hC V ⟨(Nat.le_of_ble_eq_true rfl), (Nat.le_of_ble_eq_true rfl)⟩ ⟨z_3, wq_4, gh_5, gk_6, gq, rfl, rfl⟩ dX8_waves_36
      · skip
        have c_2 := b_nle (by omega) (by omega) c_2
        refine lv_aload_n hx hb dX8_waves_12 rfl (lv_at hl 1 rfl) ?_
        refine g_get hC V (ci := 8) uwX8 0 rfl rfl 20 (by decide) w_932 rfl rfl dX8_waves_13 ?_
        refine lv_iload_n hx hb dX8_waves_16 rfl (lv_at hl 0 rfl) ?_
        refine lv_lconst (v := (nI 1).toInt64) hx hb dX8_waves_17 (by decide +kernel) ?_
        refine lv_iload_n hx hb dX8_waves_18 rfl (lv_at hl 0 rfl) ?_
        refine lv_iload_n hx hb dX8_waves_19 rfl (lv_at hl 3 rfl) ?_
        refine lv_imul hx hb dX8_waves_20 ?_
        refine lv_iload_n hx hb dX8_waves_21 rfl (lv_at hl 2 rfl) ?_
        refine lv_irem hx hb dX8_waves_22 (nI_ne0 (by omega) (by omega)) ?_
        refine lv_lshl hx hb dX8_waves_23 rfl ?_
        refine lv_topl (fun y_7 ey_7 => ?_)
        refine g_last hC V 4 rfl (vp_in_nI (by omega) (by omega)) (f' := (vp_updL gq k2 y_7)) (by rw [nI_clamp (by omega)]) (ws' := [(o, .inr (8, [.int w0, .ref g1, .ref g2, .ref g3, .ref g4, .int (nI tp), .int w6, .int w7, .int w8, .int w9, .int w10, .int w11, .int w12, .int w13, .int w14, .ref g15, .int w16, .ref g17, .int w18, .int w19, .ref g20, .int w21, .ref g22, .ref g23, .ref g24, .int w25, .int w26, .int w27, .ref g28, .ref g29, .int w30, .ref g31, .ref g32, .ref g33])), (g1, .inl (T 0, 282, .inl fa)), (g15, .inl (T 0, 10, .inl fh)), (g17, .inl (T 0, 94, .inl fk)), (g20, .inl (T 1, 10, .inr (.inl (vp_updL gq k2 y_7))))]) rfl dX8_waves_24 (fun H locs V => ?_)
        refine lv_iinc (v := (nI (k2 + 1))) (lv' := [(3, .int (nI (k2 + 1))), (0, .ref o), (1, .int (nI le)), (2, .int step)]) hx hb dX8_waves_25 hl (k := 0) rfl (nI_1 _) (by decide) rfl (fun ls hl => ?_)
        refine lv_goto (tgt := 2) hx hb dX8_waves_28 (by decide) ?_
        exact ih_2 (k2 + 1) (vp_updL gq k2 y_7) (by omega) (by omega) _ _ _ V (lv_sub hl [0, 1, 2, 3] rfl)
  exact L_1 _ 0 fr (by omega) (Nat.lt_succ_self _) _ _ _ V (lv_sub hl [0, 1, 2, 3] rfl)

def q_m_wave (T : Nat → ClassId) (n : Nat) (o : Nat) (le : Int32) (step : Int32) (w0 : Int32) (g1 : Nat) (g2 : Nat) (g3 : Nat) (g4 : Nat) (tp : Nat) (w6 : Int32) (w7 : Int32) (w8 : Int32) (w9 : Int32) (w10 : Int32) (w11 : Int32) (w12 : Int32) (w13 : Int32) (w14 : Int32) (g15 : Nat) (w16 : Int32) (g17 : Nat) (w18 : Int32) (w19 : Int32) (g20 : Nat) (w21 : Int32) (g22 : Nat) (g23 : Nat) (g24 : Nat) (w25 : Int32) (w26 : Int32) (w27 : Int32) (g28 : Nat) (g29 : Nat) (w30 : Int32) (g31 : Nat) (g32 : Nat) (g33 : Nat) (fa : Nat → Int32) (fh : Nat → Int32) (fk : Nat → Int32) (fr : Nat → Int64) : Option Value → va_W → Prop := fun rr ww => (∃ (z : Int32) (wq : Int32) (gh : Nat → Int32) (gk : Nat → Int32) (gr : Nat → Int64), rr = some (.int z) ∧ ww = [(o, .inr (8, [.int (nI 0), .ref g1, .ref g2, .ref g3, .ref g4, .int (nI tp), .int w6, .int w7, .int w8, .int w9, .int w10, .int w11, .int w12, .int w13, .int w14, .ref g15, .int w16, .ref g17, .int w18, .int w19, .ref g20, .int wq, .ref g22, .ref g23, .ref g24, .int w25, .int w26, .int w27, .ref g28, .ref g29, .int w30, .ref g31, .ref g32, .ref g33])), (g1, .inl (T 0, 282, .inl fa)), (g15, .inl (T 0, 10, .inl gh)), (g17, .inl (T 0, 94, .inl gk)), (g20, .inl (T 1, 10, .inr (.inl gr)))])
set_option maxHeartbeats 4000000 in
set_option maxRecDepth 100000 in
theorem m_wave (l : Launch) (D : va_G) (T : Nat → ClassId) (n : Nat) (o : Nat) (le : Int32) (step : Int32) (w0 : Int32) (g1 : Nat) (g2 : Nat) (g3 : Nat) (g4 : Nat) (tp : Nat) (w6 : Int32) (w7 : Int32) (w8 : Int32) (w9 : Int32) (w10 : Int32) (w11 : Int32) (w12 : Int32) (w13 : Int32) (w14 : Int32) (g15 : Nat) (w16 : Int32) (g17 : Nat) (w18 : Int32) (w19 : Int32) (g20 : Nat) (w21 : Int32) (g22 : Nat) (g23 : Nat) (g24 : Nat) (w25 : Int32) (w26 : Int32) (w27 : Int32) (g28 : Nat) (g29 : Nat) (w30 : Int32) (g31 : Nat) (g32 : Nat) (g33 : Nat) (fa : Nat → Int32) (fh : Nat → Int32) (fk : Nat → Int32) (fr : Nat → Int64) (h_a : MI n fa) : Ct l yX8_wave cX8_wave 3 (some .int) 5 0 0 D T [.ref o, .int le, .int step] [(o, .inr (8, [.int w0, .ref g1, .ref g2, .ref g3, .ref g4, .int (nI tp), .int w6, .int w7, .int w8, .int w9, .int w10, .int w11, .int w12, .int w13, .int w14, .ref g15, .int w16, .ref g17, .int w18, .int w19, .ref g20, .int w21, .ref g22, .ref g23, .ref g24, .int w25, .int w26, .int w27, .ref g28, .ref g29, .int w30, .ref g31, .ref g32, .ref g33])), (g1, .inl (T 0, 282, .inl fa)), (g15, .inl (T 0, 10, .inl fh)), (g17, .inl (T 0, 94, .inl fk)), (g20, .inl (T 1, 10, .inr (.inl fr)))] (q_m_wave T n o le step w0 g1 g2 g3 g4 tp w6 w7 w8 w9 w10 w11 w12 w13 w14 g15 w16 g17 w18 w19 g20 w21 g22 g23 g24 w25 w26 w27 g28 g29 w30 g31 g32 g33 fa fh fk fr) := by
  refine Ct.of (cc := cX8_wave) (maxL := 3) (ret := (some .int)) (by decide) (Nat.le_of_ble_eq_true rfl) ?_
  intro p e s m args below meth c A ls hC hnm V hl
  obtain ⟨hx, hb, hr, hml, hown, hts, hlocks⟩ := id hC
  generalize hH : s.heap = H at V ⊢
  clear hH
  have hl : lv_has ls 3 [(0, .ref o), (1, .int le), (2, .int step)] := hl
  generalize hlo : ([] : List Loc) = locs at V ⊢
  clear hlo
  have ms0 := ms_rf h_a
  have hn10 := h_a.1
  refine lv_aload_n hx hb dX8_wave_0 rfl (lv_at hl 0 rfl) ?_
  refine lv_iconst (v := (nI 0)) hx hb dX8_wave_1 (by decide +kernel) ?_
  refine g_put hC V (ci := 8) uwX8 tyX8 tyX8_ok nmX8 0 rfl rfl 0 (by decide) w_912 rfl rfl rfl rfl (Nat.le_of_ble_eq_true rfl) (ws' := [(o, .inr (8, [.int (nI 0), .ref g1, .ref g2, .ref g3, .ref g4, .int (nI tp), .int w6, .int w7, .int w8, .int w9, .int w10, .int w11, .int w12, .int w13, .int w14, .ref g15, .int w16, .ref g17, .int w18, .int w19, .ref g20, .int w21, .ref g22, .ref g23, .ref g24, .int w25, .int w26, .int w27, .ref g28, .ref g29, .int w30, .ref g31, .ref g32, .ref g33])), (g1, .inl (T 0, 282, .inl fa)), (g15, .inl (T 0, 10, .inl fh)), (g17, .inl (T 0, 94, .inl fk)), (g20, .inl (T 1, 10, .inr (.inl fr)))]) rfl dX8_wave_2 (fun H locs V => ?_)
  refine lv_iload_n hx hb dX8_wave_5 rfl (lv_at hl 1 rfl) ?_
  refine lv_i2l (v := le.toInt64) hx hb dX8_wave_6 rfl ?_
  refine lv_lconst (v := (nI 1).toInt64) hx hb dX8_wave_7 (by decide +kernel) ?_
  refine lv_ldc2 (v := (12)) hx hb hown (hts _ w_1228) dX8_wave_8 ?_
  refine g_vl (y := (nI 12).toInt64) (by decide +kernel) ?_
  refine g_callSU (nA := 3) hC V hl.1 (m_within l D T le (nI 1) (nI 12)) w_1023 w_1024 w_9 w_1025 (by decide +kernel) rfl ⟨(Nat.le_of_ble_eq_true rfl), (Nat.le_of_ble_eq_true rfl)⟩ [] rfl rfl (Nat.le_of_ble_eq_true rfl) dX8_wave_11 ⟨(Nat.le_of_ble_eq_true rfl), (Nat.le_of_ble_eq_true rfl)⟩ rfl (fun r w1 H locs hQ V => ?_)
  rcases hQ with ⟨rfl, rfl, f_1, f_2⟩ | ⟨rfl, rfl, f_3⟩
  · have V : gW D T A s [(o, .inr (8, [.int (nI 0), .ref g1, .ref g2, .ref g3, .ref g4, .int (nI tp), .int w6, .int w7, .int w8, .int w9, .int w10, .int w11, .int w12, .int w13, .int w14, .ref g15, .int w16, .ref g17, .int w18, .int w19, .ref g20, .int w21, .ref g22, .ref g23, .ref g24, .int w25, .int w26, .int w27, .ref g28, .ref g29, .int w30, .ref g31, .ref g32, .ref g33])), (g1, .inl (T 0, 282, .inl fa)), (g15, .inl (T 0, 10, .inl fh)), (g17, .inl (T 0, 94, .inl fk)), (g20, .inl (T 1, 10, .inr (.inl fr)))] H locs := V _ [] rfl rfl rfl (by decide +kernel) rfl
    show W p l e _ s m args below meth c H locs _ _ _ (F0 m 14 ls [.int (nI 1)])
    obtain ⟨i, hi1, hi2, ei⟩ := g_rng (by first | decide | omega) (by first | decide | omega) f_1 f_2
    rw [ei] at hl
    refine lv_if_eq (tgt := 39) hx hb dX8_wave_14 (by decide) (fun c => absurd (show (nI 1) = 0 from c) (by decide +kernel)) (fun _ => ?_)
    refine lv_iload_n hx hb dX8_wave_17 rfl (lv_at hl 2 rfl) ?_
    refine lv_i2l (v := step.toInt64) hx hb dX8_wave_18 rfl ?_
    refine lv_lconst (v := (nI 0).toInt64) hx hb dX8_wave_19 (by decide +kernel) ?_
    refine lv_iload_n hx hb dX8_wave_20 rfl (lv_at hl 1 rfl) ?_
    refine lv_iconst (v := (nI 1)) hx hb dX8_wave_21 (by decide +kernel) ?_
    refine lv_isub hx hb dX8_wave_22 ?_
    refine lv_i2l (v := ((nI i) - (nI 1)).toInt64) hx hb dX8_wave_23 rfl ?_
    refine g_callSU (nA := 3) hC V hl.1 (m_within l D T step (nI 0) ((nI i) - (nI 1))) w_1023 w_1024 w_9 w_1025 (by decide +kernel) rfl ⟨(Nat.le_of_ble_eq_true rfl), (Nat.le_of_ble_eq_true rfl)⟩ [] rfl rfl (Nat.le_of_ble_eq_true rfl) dX8_wave_24 ⟨(Nat.le_of_ble_eq_true rfl), (Nat.le_of_ble_eq_true rfl)⟩ rfl (fun r w1 H locs hQ V => ?_)
    rcases hQ with ⟨rfl, rfl, f_4, f_5⟩ | ⟨rfl, rfl, f_6⟩
    · have V : gW D T A s [(o, .inr (8, [.int (nI 0), .ref g1, .ref g2, .ref g3, .ref g4, .int (nI tp), .int w6, .int w7, .int w8, .int w9, .int w10, .int w11, .int w12, .int w13, .int w14, .ref g15, .int w16, .ref g17, .int w18, .int w19, .ref g20, .int w21, .ref g22, .ref g23, .ref g24, .int w25, .int w26, .int w27, .ref g28, .ref g29, .int w30, .ref g31, .ref g32, .ref g33])), (g1, .inl (T 0, 282, .inl fa)), (g15, .inl (T 0, 10, .inl fh)), (g17, .inl (T 0, 94, .inl fk)), (g20, .inl (T 1, 10, .inr (.inl fr)))] H locs := V _ [] rfl rfl rfl (by decide +kernel) rfl
      show W p l e _ s m args below meth c H locs _ _ _ (F0 m 27 ls [.int (nI 1)])
      refine lv_if_eq (tgt := 39) hx hb dX8_wave_27 (by decide) (fun c => absurd (show (nI 1) = 0 from c) (by decide +kernel)) (fun _ => ?_)
      refine lv_aload_n hx hb dX8_wave_30 rfl (lv_at hl 0 rfl) ?_
      refine lv_iload_n hx hb dX8_wave_31 rfl (lv_at hl 1 rfl) ?_
      refine lv_iload_n hx hb dX8_wave_32 rfl (lv_at hl 2 rfl) ?_
      refine g_callV (wr := []) (nA := 2) hC V hl.1 (m_waves l D T n o i step (nI 0) g1 g2 g3 g4 tp w6 w7 w8 w9 w10 w11 w12 w13 w14 g15 w16 g17 w18 w19 g20 w21 g22 g23 g24 w25 w26 w27 g28 g29 w30 g31 g32 g33 fa fh fk fr h_a ⟨by omega, by omega⟩) w_1245 w_1247 w_s66 w_9 w_1248 (by decide +kernel) rfl ⟨(Nat.le_of_ble_eq_true rfl), (Nat.le_of_ble_eq_true rfl)⟩ 0 (ci := 8) rfl rfl [0, 1, 2, 3, 4] [] rfl rfl rfl rfl (by decide) (Nat.le_of_ble_eq_true rfl) dX8_wave_33 ⟨(Nat.le_of_ble_eq_true rfl), (Nat.le_of_ble_eq_true rfl)⟩ rfl (fun r w1 H locs hQ V => ?_)
      obtain ⟨z_7, wq_8, gh_9, gk_10, gr_11, rfl, rfl⟩ := hQ
      have V : gW D T A s [(o, .inr (8, [.int (nI 0), .ref g1, .ref g2, .ref g3, .ref g4, .int (nI tp), .int w6, .int w7, .int w8, .int w9, .int w10, .int w11, .int w12, .int w13, .int w14, .ref g15, .int w16, .ref g17, .int w18, .int w19, .ref g20, .int wq_8, .ref g22, .ref g23, .ref g24, .int w25, .int w26, .int w27, .ref g28, .ref g29, .int w30, .ref g31, .ref g32, .ref g33])), (g1, .inl (T 0, 282, .inl fa)), (g15, .inl (T 0, 10, .inl gh_9)), (g17, .inl (T 0, 94, .inl gk_10)), (g20, .inl (T 1, 10, .inr (.inl gr_11)))] H locs := V
      show W p l e _ s m args below meth c H locs _ _ _ (F0 m 36 ls [.int z_7])
      refine lv_goto (tgt := 41) hx hb dX8_wave_36 (by decide) ?_
      exact g_iret (Qr := (q_m_wave T n o le step w0 g1 g2 g3 g4 tp w6 w7 w8 w9 w10 w11 w12 w13 w14 g15 w16 g17 w18 w19 g20 w21 g22 g23 g24 w25 w26 w27 g28 g29 w30 g31 g32 g33 fa fh fk fr)) hC V ⟨(Nat.le_of_ble_eq_true rfl), (Nat.le_of_ble_eq_true rfl)⟩ ⟨z_7, wq_8, gh_9, gk_10, gr_11, rfl, rfl⟩ dX8_wave_41
    · have V : gW D T A s [(o, .inr (8, [.int (nI 0), .ref g1, .ref g2, .ref g3, .ref g4, .int (nI tp), .int w6, .int w7, .int w8, .int w9, .int w10, .int w11, .int w12, .int w13, .int w14, .ref g15, .int w16, .ref g17, .int w18, .int w19, .ref g20, .int w21, .ref g22, .ref g23, .ref g24, .int w25, .int w26, .int w27, .ref g28, .ref g29, .int w30, .ref g31, .ref g32, .ref g33])), (g1, .inl (T 0, 282, .inl fa)), (g15, .inl (T 0, 10, .inl fh)), (g17, .inl (T 0, 94, .inl fk)), (g20, .inl (T 1, 10, .inr (.inl fr)))] H locs := V _ [] rfl rfl rfl (by decide +kernel) rfl
      show W p l e _ s m args below meth c H locs _ _ _ (F0 m 27 ls [.int (nI 0)])
      refine lv_if_eq (tgt := 39) hx hb dX8_wave_27 (by decide) (fun _ => ?_) (fun c => absurd (show (nI 0) = 0 by decide +kernel) c)
      refine lv_bipush (v := (-3)) hx hb dX8_wave_39 (by decide +kernel) ?_
      exact g_iret (Qr := (q_m_wave T n o le step w0 g1 g2 g3 g4 tp w6 w7 w8 w9 w10 w11 w12 w13 w14 g15 w16 g17 w18 w19 g20 w21 g22 g23 g24 w25 w26 w27 g28 g29 w30 g31 g32 g33 fa fh fk fr)) hC V ⟨(Nat.le_of_ble_eq_true rfl), (Nat.le_of_ble_eq_true rfl)⟩ ⟨(-3), w21, fh, fk, fr, rfl, rfl⟩ dX8_wave_41
  · have V : gW D T A s [(o, .inr (8, [.int (nI 0), .ref g1, .ref g2, .ref g3, .ref g4, .int (nI tp), .int w6, .int w7, .int w8, .int w9, .int w10, .int w11, .int w12, .int w13, .int w14, .ref g15, .int w16, .ref g17, .int w18, .int w19, .ref g20, .int w21, .ref g22, .ref g23, .ref g24, .int w25, .int w26, .int w27, .ref g28, .ref g29, .int w30, .ref g31, .ref g32, .ref g33])), (g1, .inl (T 0, 282, .inl fa)), (g15, .inl (T 0, 10, .inl fh)), (g17, .inl (T 0, 94, .inl fk)), (g20, .inl (T 1, 10, .inr (.inl fr)))] H locs := V _ [] rfl rfl rfl (by decide +kernel) rfl
    show W p l e _ s m args below meth c H locs _ _ _ (F0 m 14 ls [.int (nI 0)])
    refine lv_if_eq (tgt := 39) hx hb dX8_wave_14 (by decide) (fun _ => ?_) (fun c => absurd (show (nI 0) = 0 by decide +kernel) c)
    refine lv_bipush (v := (-3)) hx hb dX8_wave_39 (by decide +kernel) ?_
    exact g_iret (Qr := (q_m_wave T n o le step w0 g1 g2 g3 g4 tp w6 w7 w8 w9 w10 w11 w12 w13 w14 g15 w16 g17 w18 w19 g20 w21 g22 g23 g24 w25 w26 w27 g28 g29 w30 g31 g32 g33 fa fh fk fr)) hC V ⟨(Nat.le_of_ble_eq_true rfl), (Nat.le_of_ble_eq_true rfl)⟩ ⟨(-3), w21, fh, fk, fr, rfl, rfl⟩ dX8_wave_41

def q_m_bestWave (T : Nat → ClassId) (n : Nat) (o : Nat) (le : Int32) (w0 : Int32) (g1 : Nat) (g2 : Nat) (g3 : Nat) (g4 : Nat) (tp : Nat) (w6 : Int32) (w7 : Int32) (w8 : Int32) (w9 : Int32) (w10 : Int32) (w11 : Int32) (w12 : Int32) (w13 : Int32) (w14 : Int32) (g15 : Nat) (w16 : Int32) (g17 : Nat) (w18 : Int32) (w19 : Int32) (g20 : Nat) (w21 : Int32) (g22 : Nat) (g23 : Nat) (g24 : Nat) (w25 : Int32) (w26 : Int32) (w27 : Int32) (g28 : Nat) (g29 : Nat) (w30 : Int32) (g31 : Nat) (g32 : Nat) (g33 : Nat) (fa : Nat → Int32) (fh : Nat → Int32) (fk : Nat → Int32) (fr : Nat → Int64) : Option Value → va_W → Prop := fun rr ww => (∃ (z : Int32) (wq : Int32) (gh : Nat → Int32) (gk : Nat → Int32) (gr : Nat → Int64), rr = some (.int z) ∧ ww = [(o, .inr (8, [.int (nI 0), .ref g1, .ref g2, .ref g3, .ref g4, .int (nI tp), .int w6, .int w7, .int w8, .int w9, .int w10, .int w11, .int w12, .int w13, .int w14, .ref g15, .int w16, .ref g17, .int w18, .int w19, .ref g20, .int wq, .ref g22, .ref g23, .ref g24, .int w25, .int w26, .int w27, .ref g28, .ref g29, .int w30, .ref g31, .ref g32, .ref g33])), (g1, .inl (T 0, 282, .inl fa)), (g15, .inl (T 0, 10, .inl gh)), (g17, .inl (T 0, 94, .inl gk)), (g20, .inl (T 1, 10, .inr (.inl gr)))])
set_option maxHeartbeats 4000000 in
set_option maxRecDepth 100000 in
theorem m_bestWave (l : Launch) (D : va_G) (T : Nat → ClassId) (n : Nat) (o : Nat) (le : Int32) (w0 : Int32) (g1 : Nat) (g2 : Nat) (g3 : Nat) (g4 : Nat) (tp : Nat) (w6 : Int32) (w7 : Int32) (w8 : Int32) (w9 : Int32) (w10 : Int32) (w11 : Int32) (w12 : Int32) (w13 : Int32) (w14 : Int32) (g15 : Nat) (w16 : Int32) (g17 : Nat) (w18 : Int32) (w19 : Int32) (g20 : Nat) (w21 : Int32) (g22 : Nat) (g23 : Nat) (g24 : Nat) (w25 : Int32) (w26 : Int32) (w27 : Int32) (g28 : Nat) (g29 : Nat) (w30 : Int32) (g31 : Nat) (g32 : Nat) (g33 : Nat) (fa : Nat → Int32) (fh : Nat → Int32) (fk : Nat → Int32) (fr : Nat → Int64) (h_a : MI n fa) : Ct l yX8_bestWave cX8_bestWave 6 (some .int) 5 0 0 D T [.ref o, .int le] [(o, .inr (8, [.int w0, .ref g1, .ref g2, .ref g3, .ref g4, .int (nI tp), .int w6, .int w7, .int w8, .int w9, .int w10, .int w11, .int w12, .int w13, .int w14, .ref g15, .int w16, .ref g17, .int w18, .int w19, .ref g20, .int w21, .ref g22, .ref g23, .ref g24, .int w25, .int w26, .int w27, .ref g28, .ref g29, .int w30, .ref g31, .ref g32, .ref g33])), (g1, .inl (T 0, 282, .inl fa)), (g15, .inl (T 0, 10, .inl fh)), (g17, .inl (T 0, 94, .inl fk)), (g20, .inl (T 1, 10, .inr (.inl fr)))] (q_m_bestWave T n o le w0 g1 g2 g3 g4 tp w6 w7 w8 w9 w10 w11 w12 w13 w14 g15 w16 g17 w18 w19 g20 w21 g22 g23 g24 w25 w26 w27 g28 g29 w30 g31 g32 g33 fa fh fk fr) := by
  refine Ct.of (cc := cX8_bestWave) (maxL := 6) (ret := (some .int)) (by decide) (Nat.le_of_ble_eq_true rfl) ?_
  intro p e s m args below meth c A ls hC hnm V hl
  obtain ⟨hx, hb, hr, hml, hown, hts, hlocks⟩ := id hC
  generalize hH : s.heap = H at V ⊢
  clear hH
  have hl : lv_has ls 6 [(0, .ref o), (1, .int le)] := hl
  generalize hlo : ([] : List Loc) = locs at V ⊢
  clear hlo
  have ms0 := ms_rf h_a
  have hn10 := h_a.1
  refine lv_aload_n hx hb dX8_bestWave_0 rfl (lv_at hl 0 rfl) ?_
  refine lv_iconst (v := (nI 0)) hx hb dX8_bestWave_1 (by decide +kernel) ?_
  refine g_put hC V (ci := 8) uwX8 tyX8 tyX8_ok nmX8 0 rfl rfl 0 (by decide) w_912 rfl rfl rfl rfl (Nat.le_of_ble_eq_true rfl) (ws' := [(o, .inr (8, [.int (nI 0), .ref g1, .ref g2, .ref g3, .ref g4, .int (nI tp), .int w6, .int w7, .int w8, .int w9, .int w10, .int w11, .int w12, .int w13, .int w14, .ref g15, .int w16, .ref g17, .int w18, .int w19, .ref g20, .int w21, .ref g22, .ref g23, .ref g24, .int w25, .int w26, .int w27, .ref g28, .ref g29, .int w30, .ref g31, .ref g32, .ref g33])), (g1, .inl (T 0, 282, .inl fa)), (g15, .inl (T 0, 10, .inl fh)), (g17, .inl (T 0, 94, .inl fk)), (g20, .inl (T 1, 10, .inr (.inl fr)))]) rfl dX8_bestWave_2 (fun H locs V => ?_)
  refine lv_iload_n hx hb dX8_bestWave_5 rfl (lv_at hl 1 rfl) ?_
  refine lv_i2l (v := le.toInt64) hx hb dX8_bestWave_6 rfl ?_
  refine lv_lconst (v := (nI 1).toInt64) hx hb dX8_bestWave_7 (by decide +kernel) ?_
  refine lv_ldc2 (v := (12)) hx hb hown (hts _ w_1228) dX8_bestWave_8 ?_
  refine g_vl (y := (nI 12).toInt64) (by decide +kernel) ?_
  refine g_callSU (nA := 3) hC V hl.1 (m_within l D T le (nI 1) (nI 12)) w_1023 w_1024 w_9 w_1025 (by decide +kernel) rfl ⟨(Nat.le_of_ble_eq_true rfl), (Nat.le_of_ble_eq_true rfl)⟩ [] rfl rfl (Nat.le_of_ble_eq_true rfl) dX8_bestWave_11 ⟨(Nat.le_of_ble_eq_true rfl), (Nat.le_of_ble_eq_true rfl)⟩ rfl (fun r w1 H locs hQ V => ?_)
  rcases hQ with ⟨rfl, rfl, f_1, f_2⟩ | ⟨rfl, rfl, f_3⟩
  · have V : gW D T A s [(o, .inr (8, [.int (nI 0), .ref g1, .ref g2, .ref g3, .ref g4, .int (nI tp), .int w6, .int w7, .int w8, .int w9, .int w10, .int w11, .int w12, .int w13, .int w14, .ref g15, .int w16, .ref g17, .int w18, .int w19, .ref g20, .int w21, .ref g22, .ref g23, .ref g24, .int w25, .int w26, .int w27, .ref g28, .ref g29, .int w30, .ref g31, .ref g32, .ref g33])), (g1, .inl (T 0, 282, .inl fa)), (g15, .inl (T 0, 10, .inl fh)), (g17, .inl (T 0, 94, .inl fk)), (g20, .inl (T 1, 10, .inr (.inl fr)))] H locs := V _ [] rfl rfl rfl (by decide +kernel) rfl
    show W p l e _ s m args below meth c H locs _ _ _ (F0 m 14 ls [.int (nI 1)])
    obtain ⟨i, hi1, hi2, ei⟩ := g_rng (by first | decide | omega) (by first | decide | omega) f_1 f_2
    rw [ei] at hl
    refine lv_if_ne (tgt := 20) hx hb dX8_bestWave_14 (by decide) (fun _ => ?_) (fun c => absurd (show (nI 1) = 0 from c) (by decide +kernel))
    refine lv_iconst (v := (nI 0)) hx hb dX8_bestWave_20 (by decide +kernel) ?_
    refine lv_istore_n (lv' := [(2, .int (nI 0)), (0, .ref o), (1, .int (nI i))]) hx hb dX8_bestWave_21 rfl hl (by decide) rfl (fun ls hl => ?_)
    refine lv_iconst (v := (nI 0)) hx hb dX8_bestWave_22 (by decide +kernel) ?_
    refine lv_istore_n (lv' := [(3, .int (nI 0)), (2, .int (nI 0)), (0, .ref o), (1, .int (nI i))]) hx hb dX8_bestWave_23 rfl hl (by decide) rfl (fun ls hl => ?_)
    refine lv_iconst (v := (nI 0)) hx hb dX8_bestWave_24 (by decide +kernel) ?_
    refine lv_istore (lv' := [(4, .int (nI 0)), (3, .int (nI 0)), (2, .int (nI 0)), (0, .ref o), (1, .int (nI i))]) hx hb dX8_bestWave_25 hl (by decide) rfl (fun ls hl => ?_)
    have L_4 : ∀ (fu : Nat) (k27 : Nat) (x27_3 : Int32) (x27_2 : Int32) (wv : Int32) (ga_ : Nat → Int32) (gb_ : Nat → Int32) (gc_ : Nat → Int64), k27 ≤ i → i - k27 < fu → ∀ (H : Heap) (locs : List Loc) (ls : Array Slot), gW D T A s [(o, .inr (8, [.int (nI 0), .ref g1, .ref g2, .ref g3, .ref g4, .int (nI tp), .int w6, .int w7, .int w8, .int w9, .int w10, .int w11, .int w12, .int w13, .int w14, .ref g15, .int w16, .ref g17, .int w18, .int w19, .ref g20, .int wv, .ref g22, .ref g23, .ref g24, .int w25, .int w26, .int w27, .ref g28, .ref g29, .int w30, .ref g31, .ref g32, .ref g33])), (g1, .inl (T 0, 282, .inl fa)), (g15, .inl (T 0, 10, .inl ga_)), (g17, .inl (T 0, 94, .inl gb_)), (g20, .inl (T 1, 10, .inr (.inl gc_)))] H locs → lv_has ls 6 [(4, .int (nI k27)), (3, .int x27_3), (2, .int x27_2), (0, .ref o), (1, .int (nI i))] → W p l e (rmD 5 0 0) s m args below meth c H locs 0 0 (MQ below (gQ D A (q_m_bestWave T n o le w0 g1 g2 g3 g4 tp w6 w7 w8 w9 w10 w11 w12 w13 w14 g15 w16 g17 w18 w19 g20 w21 g22 g23 g24 w25 w26 w27 g28 g29 w30 g31 g32 g33 fa fh fk fr)) args s 0 0 A) (F0 m 27 ls []) := by
      intro fu_27
      induction fu_27 with
      | zero => intro k27 x27_3 x27_2 wv ga_ gb_ gc_ hk27 hmu; exact absurd hmu (Nat.not_lt_zero _)
      | succ fu_27 ih_27 =>
        intro k27 x27_3 x27_2 wv ga_ gb_ gc_ hk27 hmu_27 H locs ls V hl
        refine lv_iload hx hb dX8_bestWave_27 (lv_at hl 0 rfl) ?_
        refine lv_iload_n hx hb dX8_bestWave_29 rfl (lv_at hl 4 rfl) ?_
        refine lv_icmp_ge (tgt := 72) hx hb dX8_bestWave_30 (by decide) (fun c_5 => ?_) (fun c_5 => ?_)
        · skip
          have c_5 := b_le (by omega) (by omega) c_5
          refine lv_iload_n hx hb dX8_bestWave_72 rfl (lv_at hl 2 rfl) ?_
          exact g_iret (Qr := (q_m_bestWave T n o le w0 g1 g2 g3 g4 tp w6 w7 w8 w9 w10 w11 w12 w13 w14 g15 w16 g17 w18 w19 g20 w21 g22 g23 g24 w25 w26 w27 g28 g29 w30 g31 g32 g33 fa fh fk fr)) hC V ⟨(Nat.le_of_ble_eq_true rfl), (Nat.le_of_ble_eq_true rfl)⟩ ⟨x27_2, wv, ga_, gb_, gc_, rfl, rfl⟩ dX8_bestWave_73
        · skip
          have c_5 := b_nle (by omega) (by omega) c_5
          refine lv_aload_n hx hb dX8_bestWave_33 rfl (lv_at hl 3 rfl) ?_
          refine lv_iload_n hx hb dX8_bestWave_34 rfl (lv_at hl 4 rfl) ?_
          refine lv_iload hx hb dX8_bestWave_35 (lv_at hl 0 rfl) ?_
          refine g_callV (wr := []) (nA := 2) hC V hl.1 (m_waves l D T n o i (nI k27) (nI 0) g1 g2 g3 g4 tp w6 w7 w8 w9 w10 w11 w12 w13 w14 g15 w16 g17 w18 w19 g20 wv g22 g23 g24 w25 w26 w27 g28 g29 w30 g31 g32 g33 fa ga_ gb_ gc_ h_a ⟨by omega, by omega⟩) w_1245 w_1247 w_s66 w_9 w_1248 (by decide +kernel) rfl ⟨(Nat.le_of_ble_eq_true rfl), (Nat.le_of_ble_eq_true rfl)⟩ 0 (ci := 8) rfl rfl [0, 1, 2, 3, 4] [] rfl rfl rfl rfl (by decide) (Nat.le_of_ble_eq_true rfl) dX8_bestWave_37 ⟨(Nat.le_of_ble_eq_true rfl), (Nat.le_of_ble_eq_true rfl)⟩ rfl (fun r w1 H locs hQ V => ?_)
          obtain ⟨z_6, wq_7, gh_8, gk_9, gr_10, rfl, rfl⟩ := hQ
          have V : gW D T A s [(o, .inr (8, [.int (nI 0), .ref g1, .ref g2, .ref g3, .ref g4, .int (nI tp), .int w6, .int w7, .int w8, .int w9, .int w10, .int w11, .int w12, .int w13, .int w14, .ref g15, .int w16, .ref g17, .int w18, .int w19, .ref g20, .int wq_7, .ref g22, .ref g23, .ref g24, .int w25, .int w26, .int w27, .ref g28, .ref g29, .int w30, .ref g31, .ref g32, .ref g33])), (g1, .inl (T 0, 282, .inl fa)), (g15, .inl (T 0, 10, .inl gh_8)), (g17, .inl (T 0, 94, .inl gk_9)), (g20, .inl (T 1, 10, .inr (.inl gr_10)))] H locs := V
          show W p l e _ s m args below meth c H locs _ _ _ (F0 m 40 ls [.int z_6])
          refine lv_istore (lv' := [(5, .int z_6), (4, .int (nI k27)), (3, .int x27_3), (2, .int x27_2), (0, .ref o), (1, .int (nI i))]) hx hb dX8_bestWave_40 hl (by decide) rfl (fun ls hl => ?_)
          refine lv_iload hx hb dX8_bestWave_42 (lv_at hl 0 rfl) ?_
          refine lv_iconst (v := (-1)) hx hb dX8_bestWave_44 (by decide +kernel) ?_
          refine lv_icmp_ne (tgt := 51) hx hb dX8_bestWave_45 (by decide) (fun c_11 => ?_) (fun c_11 => ?_)
          · skip
            refine lv_iload hx hb dX8_bestWave_51 (lv_at hl 0 rfl) ?_
            refine lv_iload_n hx hb dX8_bestWave_53 rfl (lv_at hl 2 rfl) ?_
            refine lv_icmp_gt (tgt := 60) hx hb dX8_bestWave_54 (by decide) (fun c_12 => ?_) (fun c_12 => ?_)
            · skip
              refine lv_iload hx hb dX8_bestWave_60 (lv_at hl 0 rfl) ?_
              refine lv_istore_n (lv' := [(3, .int z_6), (5, .int z_6), (4, .int (nI k27)), (2, .int x27_2), (0, .ref o), (1, .int (nI i))]) hx hb dX8_bestWave_62 rfl hl (by decide) rfl (fun ls hl => ?_)
              refine lv_iload hx hb dX8_bestWave_63 (lv_at hl 2 rfl) ?_
              refine lv_istore_n (lv' := [(2, .int (nI k27)), (3, .int z_6), (5, .int z_6), (4, .int (nI k27)), (0, .ref o), (1, .int (nI i))]) hx hb dX8_bestWave_65 rfl hl (by decide) rfl (fun ls hl => ?_)
              refine lv_iinc (v := (nI (k27 + 1))) (lv' := [(4, .int (nI (k27 + 1))), (2, .int (nI k27)), (3, .int z_6), (5, .int z_6), (0, .ref o), (1, .int (nI i))]) hx hb dX8_bestWave_66 hl (k := 3) rfl (nI_1 _) (by decide) rfl (fun ls hl => ?_)
              refine lv_goto (tgt := 27) hx hb dX8_bestWave_69 (by decide) ?_
              exact ih_27 (k27 + 1) z_6 (nI k27) wq_7 gh_8 gk_9 gr_10 (by omega) (by omega) _ _ _ V (lv_sub hl [0, 2, 1, 4, 5] rfl)
            · skip
              refine lv_goto (tgt := 66) hx hb dX8_bestWave_57 (by decide) ?_
              refine lv_iinc (v := (nI (k27 + 1))) (lv' := [(4, .int (nI (k27 + 1))), (5, .int z_6), (3, .int x27_3), (2, .int x27_2), (0, .ref o), (1, .int (nI i))]) hx hb dX8_bestWave_66 hl (k := 1) rfl (nI_1 _) (by decide) rfl (fun ls hl => ?_)
              refine lv_goto (tgt := 27) hx hb dX8_bestWave_69 (by decide) ?_
              exact ih_27 (k27 + 1) x27_3 x27_2 wq_7 gh_8 gk_9 gr_10 (by omega) (by omega) _ _ _ V (lv_sub hl [0, 2, 3, 4, 5] rfl)
          · skip
            refine lv_iload hx hb dX8_bestWave_48 (lv_at hl 1 rfl) ?_
            exact g_iret (Qr := (q_m_bestWave T n o le w0 g1 g2 g3 g4 tp w6 w7 w8 w9 w10 w11 w12 w13 w14 g15 w16 g17 w18 w19 g20 w21 g22 g23 g24 w25 w26 w27 g28 g29 w30 g31 g32 g33 fa fh fk fr)) hC V ⟨(Nat.le_of_ble_eq_true rfl), (Nat.le_of_ble_eq_true rfl)⟩ ⟨(nI k27), wq_7, gh_8, gk_9, gr_10, rfl, rfl⟩ dX8_bestWave_50
    exact L_4 _ 0 (nI 0) (nI 0) w21 fh fk fr (by omega) (Nat.lt_succ_self _) _ _ _ V (lv_sub hl [0, 1, 2, 3, 4] rfl)
  · have V : gW D T A s [(o, .inr (8, [.int (nI 0), .ref g1, .ref g2, .ref g3, .ref g4, .int (nI tp), .int w6, .int w7, .int w8, .int w9, .int w10, .int w11, .int w12, .int w13, .int w14, .ref g15, .int w16, .ref g17, .int w18, .int w19, .ref g20, .int w21, .ref g22, .ref g23, .ref g24, .int w25, .int w26, .int w27, .ref g28, .ref g29, .int w30, .ref g31, .ref g32, .ref g33])), (g1, .inl (T 0, 282, .inl fa)), (g15, .inl (T 0, 10, .inl fh)), (g17, .inl (T 0, 94, .inl fk)), (g20, .inl (T 1, 10, .inr (.inl fr)))] H locs := V _ [] rfl rfl rfl (by decide +kernel) rfl
    show W p l e _ s m args below meth c H locs _ _ _ (F0 m 14 ls [.int (nI 0)])
    refine lv_if_ne (tgt := 20) hx hb dX8_bestWave_14 (by decide) (fun c => absurd (show (nI 0) = 0 by decide +kernel) c) (fun _ => ?_)
    refine lv_bipush (v := (-3)) hx hb dX8_bestWave_17 (by decide +kernel) ?_
    exact g_iret (Qr := (q_m_bestWave T n o le w0 g1 g2 g3 g4 tp w6 w7 w8 w9 w10 w11 w12 w13 w14 g15 w16 g17 w18 w19 g20 w21 g22 g23 g24 w25 w26 w27 g28 g29 w30 g31 g32 g33 fa fh fk fr)) hC V ⟨(Nat.le_of_ble_eq_true rfl), (Nat.le_of_ble_eq_true rfl)⟩ ⟨(-3), w21, fh, fk, fr, rfl, rfl⟩ dX8_bestWave_19

theorem w_ten {w : Int32} {n : Nat} (hn : n ≤ 10) (h1 : ¬ w < nI 10) (h2 : ¬ nI (9 + n) < w) : ∃ j, j < n ∧ w - nI 10 = nI j := by
  obtain ⟨k, k1, k2, e⟩ := g_rng (by decide) (by omega) h1 h2
  exact ⟨k - 10, by omega, by rw [e, nI_sub (by omega)]⟩

def q_m_bestRound (T : Nat → ClassId) (n : Nat) (o : Nat) (le : Int32) (wh : Int32) (w0 : Int32) (g1 : Nat) (g2 : Nat) (g3 : Nat) (g4 : Nat) (tp : Nat) (w6 : Int32) (w7 : Int32) (w8 : Int32) (w9 : Int32) (w10 : Int32) (w11 : Int32) (w12 : Int32) (w13 : Int32) (w14 : Int32) (g15 : Nat) (w16 : Int32) (g17 : Nat) (w18 : Int32) (w19 : Int32) (g20 : Nat) (w21 : Int32) (g22 : Nat) (g23 : Nat) (g24 : Nat) (w25 : Int32) (w26 : Int32) (w27 : Int32) (g28 : Nat) (g29 : Nat) (w30 : Int32) (g31 : Nat) (g32 : Nat) (g33 : Nat) (fa : Nat → Int32) (fh : Nat → Int32) (fk : Nat → Int32) (fr : Nat → Int64) (fb : Nat → Int64) : Option Value → va_W → Prop := fun rr ww => (∃ (z : Int32) (wq : Int32) (gh : Nat → Int32) (gk : Nat → Int32) (gr : Nat → Int64) (gs : Nat → Int64), rr = some (.int z) ∧ ww = [(o, .inr (8, [.int (nI 0), .ref g1, .ref g2, .ref g3, .ref g4, .int (nI tp), .int w6, .int w7, .int w8, .int w9, .int w10, .int w11, .int w12, .int w13, .int w14, .ref g15, .int w16, .ref g17, .int w18, .int w19, .ref g20, .int wq, .ref g22, .ref g23, .ref g24, .int w25, .int w26, .int w27, .ref g28, .ref g29, .int w30, .ref g31, .ref g32, .ref g33])), (g1, .inl (T 0, 282, .inl fa)), (g15, .inl (T 0, 10, .inl gh)), (g17, .inl (T 0, 94, .inl gk)), (g20, .inl (T 1, 10, .inr (.inl gr))), (g22, .inl (T 1, 10, .inr (.inl gs)))])
set_option maxHeartbeats 4000000 in
set_option maxRecDepth 100000 in
theorem m_bestRound (l : Launch) (D : va_G) (T : Nat → ClassId) (n : Nat) (o : Nat) (le : Int32) (wh : Int32) (w0 : Int32) (g1 : Nat) (g2 : Nat) (g3 : Nat) (g4 : Nat) (tp : Nat) (w6 : Int32) (w7 : Int32) (w8 : Int32) (w9 : Int32) (w10 : Int32) (w11 : Int32) (w12 : Int32) (w13 : Int32) (w14 : Int32) (g15 : Nat) (w16 : Int32) (g17 : Nat) (w18 : Int32) (w19 : Int32) (g20 : Nat) (w21 : Int32) (g22 : Nat) (g23 : Nat) (g24 : Nat) (w25 : Int32) (w26 : Int32) (w27 : Int32) (g28 : Nat) (g29 : Nat) (w30 : Int32) (g31 : Nat) (g32 : Nat) (g33 : Nat) (fa : Nat → Int32) (fh : Nat → Int32) (fk : Nat → Int32) (fr : Nat → Int64) (fb : Nat → Int64) (h_a : MI n fa) : Ct l yX8_bestRound cX8_bestRound 7 (some .int) 4 0 0 D T [.ref o, .int le, .int wh] [(o, .inr (8, [.int w0, .ref g1, .ref g2, .ref g3, .ref g4, .int (nI tp), .int w6, .int w7, .int w8, .int w9, .int w10, .int w11, .int w12, .int w13, .int w14, .ref g15, .int w16, .ref g17, .int w18, .int w19, .ref g20, .int w21, .ref g22, .ref g23, .ref g24, .int w25, .int w26, .int w27, .ref g28, .ref g29, .int w30, .ref g31, .ref g32, .ref g33])), (g1, .inl (T 0, 282, .inl fa)), (g15, .inl (T 0, 10, .inl fh)), (g17, .inl (T 0, 94, .inl fk)), (g20, .inl (T 1, 10, .inr (.inl fr))), (g22, .inl (T 1, 10, .inr (.inl fb)))] (q_m_bestRound T n o le wh w0 g1 g2 g3 g4 tp w6 w7 w8 w9 w10 w11 w12 w13 w14 g15 w16 g17 w18 w19 g20 w21 g22 g23 g24 w25 w26 w27 g28 g29 w30 g31 g32 g33 fa fh fk fr fb) := by
  refine Ct.of (cc := cX8_bestRound) (maxL := 7) (ret := (some .int)) (by decide) (Nat.le_of_ble_eq_true rfl) ?_
  intro p e s m args below meth c A ls hC hnm V hl
  obtain ⟨hx, hb, hr, hml, hown, hts, hlocks⟩ := id hC
  generalize hH : s.heap = H at V ⊢
  clear hH
  have hl : lv_has ls 7 [(0, .ref o), (1, .int le), (2, .int wh)] := hl
  generalize hlo : ([] : List Loc) = locs at V ⊢
  clear hlo
  have ms0 := ms_rf h_a
  have hn10 := h_a.1
  refine lv_aload_n hx hb dX8_bestRound_0 rfl (lv_at hl 0 rfl) ?_
  refine lv_iconst (v := (nI 0)) hx hb dX8_bestRound_1 (by decide +kernel) ?_
  refine g_put hC V (ci := 8) uwX8 tyX8 tyX8_ok nmX8 0 rfl rfl 0 (by decide) w_912 rfl rfl rfl rfl (Nat.le_of_ble_eq_true rfl) (ws' := [(o, .inr (8, [.int (nI 0), .ref g1, .ref g2, .ref g3, .ref g4, .int (nI tp), .int w6, .int w7, .int w8, .int w9, .int w10, .int w11, .int w12, .int w13, .int w14, .ref g15, .int w16, .ref g17, .int w18, .int w19, .ref g20, .int w21, .ref g22, .ref g23, .ref g24, .int w25, .int w26, .int w27, .ref g28, .ref g29, .int w30, .ref g31, .ref g32, .ref g33])), (g1, .inl (T 0, 282, .inl fa)), (g15, .inl (T 0, 10, .inl fh)), (g17, .inl (T 0, 94, .inl fk)), (g20, .inl (T 1, 10, .inr (.inl fr))), (g22, .inl (T 1, 10, .inr (.inl fb)))]) rfl dX8_bestRound_2 (fun H locs V => ?_)
  refine lv_iload_n hx hb dX8_bestRound_5 rfl (lv_at hl 2 rfl) ?_
  refine lv_if_eq (tgt := 33) hx hb dX8_bestRound_6 (by decide) (fun c_1 => ?_) (fun c_1 => ?_)
  · skip
    refine lv_iload_n hx hb dX8_bestRound_33 rfl (lv_at hl 1 rfl) ?_
    refine lv_i2l (v := le.toInt64) hx hb dX8_bestRound_34 rfl ?_
    refine lv_lconst (v := (nI 1).toInt64) hx hb dX8_bestRound_35 (by decide +kernel) ?_
    refine lv_ldc2 (v := (10)) hx hb hown (hts _ w_1257) dX8_bestRound_36 ?_
    refine g_vl (y := (nI 10).toInt64) (by decide +kernel) ?_
    refine g_callSU (nA := 3) hC V hl.1 (m_within l D T le (nI 1) (nI 10)) w_1023 w_1024 w_9 w_1025 (by decide +kernel) rfl ⟨(Nat.le_of_ble_eq_true rfl), (Nat.le_of_ble_eq_true rfl)⟩ [] rfl rfl (Nat.le_of_ble_eq_true rfl) dX8_bestRound_39 ⟨(Nat.le_of_ble_eq_true rfl), (Nat.le_of_ble_eq_true rfl)⟩ rfl (fun r w1 H locs hQ V => ?_)
    rcases hQ with ⟨rfl, rfl, f_2, f_3⟩ | ⟨rfl, rfl, f_4⟩
    · have V : gW D T A s [(o, .inr (8, [.int (nI 0), .ref g1, .ref g2, .ref g3, .ref g4, .int (nI tp), .int w6, .int w7, .int w8, .int w9, .int w10, .int w11, .int w12, .int w13, .int w14, .ref g15, .int w16, .ref g17, .int w18, .int w19, .ref g20, .int w21, .ref g22, .ref g23, .ref g24, .int w25, .int w26, .int w27, .ref g28, .ref g29, .int w30, .ref g31, .ref g32, .ref g33])), (g1, .inl (T 0, 282, .inl fa)), (g15, .inl (T 0, 10, .inl fh)), (g17, .inl (T 0, 94, .inl fk)), (g20, .inl (T 1, 10, .inr (.inl fr))), (g22, .inl (T 1, 10, .inr (.inl fb)))] H locs := V _ [] rfl rfl rfl (by decide +kernel) rfl
      show W p l e _ s m args below meth c H locs _ _ _ (F0 m 42 ls [.int (nI 1)])
      obtain ⟨i, hi1, hi2, ei⟩ := g_rng (by first | decide | omega) (by first | decide | omega) f_2 f_3
      rw [ei] at hl
      have hmul : n * i ≤ 10 * 10 := Nat.mul_le_mul hn10 (by omega)
      refine lv_if_ne (tgt := 48) hx hb dX8_bestRound_42 (by decide) (fun _ => ?_) (fun c => absurd (show (nI 1) = 0 from c) (by decide +kernel))
      refine lv_aload_n hx hb dX8_bestRound_48 rfl (lv_at hl 0 rfl) ?_
      refine g_get hC V (ci := 8) uwX8 0 rfl rfl 1 (by decide) w_913 rfl rfl dX8_bestRound_49 ?_
      refine lv_iconst (v := (nI 0)) hx hb dX8_bestRound_52 (by decide +kernel) ?_
      refine g_iald hC V 1 rfl (vp_in_nI (by decide) (by decide)) (v := (nI n)) (by rw [nI_clamp (by decide)]; first | rfl | exact h_a.2.1) dX8_bestRound_53 ?_
      refine lv_iload_n hx hb dX8_bestRound_54 rfl (lv_at hl 1 rfl) ?_
      refine lv_imul hx hb dX8_bestRound_55 ?_
      refine g_vi (y := (nI (n * i))) (pk_mul _ _) ?_
      refine lv_bipush (v := (nI 10)) hx hb dX8_bestRound_56 (by decide +kernel) ?_
      refine lv_icmp_le (tgt := 64) hx hb dX8_bestRound_58 (by decide) (fun c_5 => ?_) (fun c_5 => ?_)
      · skip
        have c_5 := b_le (by omega) (by omega) c_5
        have hpw := pw10 c_5
        refine lv_iconst (v := (-1)) hx hb dX8_bestRound_64 (by decide +kernel) ?_
        refine lv_istore_n (lv' := [(3, .int (-1)), (0, .ref o), (1, .int (nI i)), (2, .int wh)]) hx hb dX8_bestRound_65 rfl hl (by decide) rfl (fun ls hl => ?_)
        refine lv_iconst (v := (nI 0)) hx hb dX8_bestRound_66 (by decide +kernel) ?_
        refine lv_istore (lv' := [(4, .int (nI 0)), (3, .int (-1)), (0, .ref o), (1, .int (nI i)), (2, .int wh)]) hx hb dX8_bestRound_67 hl (by decide) rfl (fun ls hl => ?_)
        have L_6 : ∀ (fu : Nat) (k69 : Nat) (x69_3 : Int32) (wv : Int32) (ga_ : Nat → Int32) (gb_ : Nat → Int32) (gc_ : Nat → Int64) (gd_ : Nat → Int64), k69 ≤ 2 ^ (n * i) → 2 ^ (n * i) - k69 < fu → ∀ (H : Heap) (locs : List Loc) (ls : Array Slot), gW D T A s [(o, .inr (8, [.int (nI 0), .ref g1, .ref g2, .ref g3, .ref g4, .int (nI tp), .int w6, .int w7, .int w8, .int w9, .int w10, .int w11, .int w12, .int w13, .int w14, .ref g15, .int w16, .ref g17, .int w18, .int w19, .ref g20, .int wv, .ref g22, .ref g23, .ref g24, .int w25, .int w26, .int w27, .ref g28, .ref g29, .int w30, .ref g31, .ref g32, .ref g33])), (g1, .inl (T 0, 282, .inl fa)), (g15, .inl (T 0, 10, .inl ga_)), (g17, .inl (T 0, 94, .inl gb_)), (g20, .inl (T 1, 10, .inr (.inl gc_))), (g22, .inl (T 1, 10, .inr (.inl gd_)))] H locs → lv_has ls 7 [(4, .int (nI k69)), (3, .int x69_3), (0, .ref o), (1, .int (nI i)), (2, .int wh)] → W p l e (rmD 4 0 0) s m args below meth c H locs 0 0 (MQ below (gQ D A (q_m_bestRound T n o le wh w0 g1 g2 g3 g4 tp w6 w7 w8 w9 w10 w11 w12 w13 w14 g15 w16 g17 w18 w19 g20 w21 g22 g23 g24 w25 w26 w27 g28 g29 w30 g31 g32 g33 fa fh fk fr fb)) args s 0 0 A) (F0 m 69 ls []) := by
          intro fu_69
          induction fu_69 with
          | zero => intro k69 x69_3 wv ga_ gb_ gc_ gd_ hk69 hmu; exact absurd hmu (Nat.not_lt_zero _)
          | succ fu_69 ih_69 =>
            intro k69 x69_3 wv ga_ gb_ gc_ gd_ hk69 hmu_69 H locs ls V hl
            refine lv_iload hx hb dX8_bestRound_69 (lv_at hl 0 rfl) ?_
            refine lv_iconst (v := (nI 1)) hx hb dX8_bestRound_71 (by decide +kernel) ?_
            refine lv_aload_n hx hb dX8_bestRound_72 rfl (lv_at hl 2 rfl) ?_
            refine g_get hC V (ci := 8) uwX8 0 rfl rfl 1 (by decide) w_913 rfl rfl dX8_bestRound_73 ?_
            refine lv_iconst (v := (nI 0)) hx hb dX8_bestRound_76 (by decide +kernel) ?_
            refine g_iald hC V 1 rfl (vp_in_nI (by decide) (by decide)) (v := (nI n)) (by rw [nI_clamp (by decide)]; first | rfl | exact h_a.2.1) dX8_bestRound_77 ?_
            refine lv_iload_n hx hb dX8_bestRound_78 rfl (lv_at hl 3 rfl) ?_
            refine lv_imul hx hb dX8_bestRound_79 ?_
            refine g_vi (y := (nI (n * i))) (pk_mul _ _) ?_
            refine lv_ishl hx hb dX8_bestRound_80 ?_
            refine g_vi (y := (nI (2 ^ (n * i)))) (shl_pow (by omega)) ?_
            refine lv_icmp_ge (tgt := 211) hx hb dX8_bestRound_81 (by decide) (fun c_7 => ?_) (fun c_7 => ?_)
            · skip
              have c_7 := b_le (by omega) (by omega) c_7
              refine lv_iload_n hx hb dX8_bestRound_211 rfl (lv_at hl 1 rfl) ?_
              refine lv_iconst (v := (-1)) hx hb dX8_bestRound_212 (by decide +kernel) ?_
              refine lv_icmp_eq (tgt := 220) hx hb dX8_bestRound_213 (by decide) (fun c_8 => ?_) (fun c_8 => ?_)
              · skip
                refine lv_iload_n hx hb dX8_bestRound_220 rfl (lv_at hl 1 rfl) ?_
                refine lv_goto (tgt := 234) hx hb dX8_bestRound_221 (by decide) ?_
                exact g_iret (Qr := (q_m_bestRound T n o le wh w0 g1 g2 g3 g4 tp w6 w7 w8 w9 w10 w11 w12 w13 w14 g15 w16 g17 w18 w19 g20 w21 g22 g23 g24 w25 w26 w27 g28 g29 w30 g31 g32 g33 fa fh fk fr fb)) hC V ⟨(Nat.le_of_ble_eq_true rfl), (Nat.le_of_ble_eq_true rfl)⟩ ⟨x69_3, wv, ga_, gb_, gc_, gd_, rfl, rfl⟩ dX8_bestRound_234
              · skip
                refine lv_iload_n hx hb dX8_bestRound_216 rfl (lv_at hl 4 rfl) ?_
                refine lv_if_ne (tgt := 224) hx hb dX8_bestRound_217 (by decide) (fun c_9 => ?_) (fun c_9 => ?_)
                · skip
                  refine lv_aload_n hx hb dX8_bestRound_224 rfl (lv_at hl 2 rfl) ?_
                  refine g_get hC V (ci := 8) uwX8 0 rfl rfl 22 (by decide) w_934 rfl rfl dX8_bestRound_225 ?_
                  refine lv_iload_n hx hb dX8_bestRound_228 rfl (lv_at hl 4 rfl) ?_
                  refine lv_bipush (v := (nI 10)) hx hb dX8_bestRound_229 (by decide +kernel) ?_
                  refine lv_isub hx hb dX8_bestRound_231 ?_
                  exact absurd (by assumption) ‹¬ wh = 0›
                · skip
                  refine lv_iload_n hx hb dX8_bestRound_220 rfl (lv_at hl 1 rfl) ?_
                  refine lv_goto (tgt := 234) hx hb dX8_bestRound_221 (by decide) ?_
                  exact g_iret (Qr := (q_m_bestRound T n o le wh w0 g1 g2 g3 g4 tp w6 w7 w8 w9 w10 w11 w12 w13 w14 g15 w16 g17 w18 w19 g20 w21 g22 g23 g24 w25 w26 w27 g28 g29 w30 g31 g32 g33 fa fh fk fr fb)) hC V ⟨(Nat.le_of_ble_eq_true rfl), (Nat.le_of_ble_eq_true rfl)⟩ ⟨x69_3, wv, ga_, gb_, gc_, gd_, rfl, rfl⟩ dX8_bestRound_234
            · skip
              have c_7 := b_nle (by omega) (by omega) c_7
              refine lv_iload hx hb dX8_bestRound_84 (lv_at hl 0 rfl) ?_
              refine lv_i2l (v := (nI k69).toInt64) hx hb dX8_bestRound_86 rfl ?_
              refine g_callSU (nA := 1) hC V hl.1 (m_bitsOf l D T ((nI k69).toInt64)) w_1258 w_1259 w_9 w_1260 (by decide +kernel) rfl ⟨(Nat.le_of_ble_eq_true rfl), (Nat.le_of_ble_eq_true rfl)⟩ [] rfl rfl (Nat.le_of_ble_eq_true rfl) dX8_bestRound_87 ⟨(Nat.le_of_ble_eq_true rfl), (Nat.le_of_ble_eq_true rfl)⟩ rfl (fun r w1 H locs hQ V => ?_)
              obtain ⟨z_10, rfl, rfl⟩ := hQ
              have V : gW D T A s [(o, .inr (8, [.int (nI 0), .ref g1, .ref g2, .ref g3, .ref g4, .int (nI tp), .int w6, .int w7, .int w8, .int w9, .int w10, .int w11, .int w12, .int w13, .int w14, .ref g15, .int w16, .ref g17, .int w18, .int w19, .ref g20, .int wv, .ref g22, .ref g23, .ref g24, .int w25, .int w26, .int w27, .ref g28, .ref g29, .int w30, .ref g31, .ref g32, .ref g33])), (g1, .inl (T 0, 282, .inl fa)), (g15, .inl (T 0, 10, .inl ga_)), (g17, .inl (T 0, 94, .inl gb_)), (g20, .inl (T 1, 10, .inr (.inl gc_))), (g22, .inl (T 1, 10, .inr (.inl gd_)))] H locs := V _ [] rfl rfl rfl (by decide +kernel) rfl
              show W p l e _ s m args below meth c H locs _ _ _ (F0 m 90 ls [.int z_10])
              refine lv_istore (lv' := [(5, .int z_10), (4, .int (nI k69)), (3, .int x69_3), (0, .ref o), (1, .int (nI i)), (2, .int wh)]) hx hb dX8_bestRound_90 hl (by decide) rfl (fun ls hl => ?_)
              refine lv_iload_n hx hb dX8_bestRound_92 rfl (lv_at hl 2 rfl) ?_
              refine lv_iconst (v := (-1)) hx hb dX8_bestRound_93 (by decide +kernel) ?_
              refine lv_icmp_eq (tgt := 106) hx hb dX8_bestRound_94 (by decide) (fun c_11 => ?_) (fun c_11 => ?_)
              · skip
                refine lv_iconst (v := (nI 0)) hx hb dX8_bestRound_106 (by decide +kernel) ?_
                refine lv_istore (lv' := [(6, .int (nI 0)), (5, .int z_10), (4, .int (nI k69)), (3, .int x69_3), (0, .ref o), (1, .int (nI i)), (2, .int wh)]) hx hb dX8_bestRound_107 hl (by decide) rfl (fun ls hl => ?_)
                have L_12 : ∀ (fu : Nat) (k109 : Nat) (ge_ : Nat → Int64), k109 ≤ n → n - k109 < fu → ∀ (H : Heap) (locs : List Loc) (ls : Array Slot), gW D T A s [(o, .inr (8, [.int (nI 0), .ref g1, .ref g2, .ref g3, .ref g4, .int (nI tp), .int w6, .int w7, .int w8, .int w9, .int w10, .int w11, .int w12, .int w13, .int w14, .ref g15, .int w16, .ref g17, .int w18, .int w19, .ref g20, .int wv, .ref g22, .ref g23, .ref g24, .int w25, .int w26, .int w27, .ref g28, .ref g29, .int w30, .ref g31, .ref g32, .ref g33])), (g1, .inl (T 0, 282, .inl fa)), (g15, .inl (T 0, 10, .inl ga_)), (g17, .inl (T 0, 94, .inl gb_)), (g20, .inl (T 1, 10, .inr (.inl ge_))), (g22, .inl (T 1, 10, .inr (.inl gd_)))] H locs → lv_has ls 7 [(6, .int (nI k109)), (5, .int z_10), (4, .int (nI k69)), (3, .int x69_3), (0, .ref o), (1, .int (nI i)), (2, .int wh)] → W p l e (rmD 4 0 0) s m args below meth c H locs 0 0 (MQ below (gQ D A (q_m_bestRound T n o le wh w0 g1 g2 g3 g4 tp w6 w7 w8 w9 w10 w11 w12 w13 w14 g15 w16 g17 w18 w19 g20 w21 g22 g23 g24 w25 w26 w27 g28 g29 w30 g31 g32 g33 fa fh fk fr fb)) args s 0 0 A) (F0 m 109 ls []) := by
                  intro fu_109
                  induction fu_109 with
                  | zero => intro k109 ge_ hk109 hmu; exact absurd hmu (Nat.not_lt_zero _)
                  | succ fu_109 ih_109 =>
                    intro k109 ge_ hk109 hmu_109 H locs ls V hl
                    refine lv_iload hx hb dX8_bestRound_109 (lv_at hl 0 rfl) ?_
                    refine lv_aload_n hx hb dX8_bestRound_111 rfl (lv_at hl 4 rfl) ?_
                    refine g_get hC V (ci := 8) uwX8 0 rfl rfl 1 (by decide) w_913 rfl rfl dX8_bestRound_112 ?_
                    refine lv_iconst (v := (nI 0)) hx hb dX8_bestRound_115 (by decide +kernel) ?_
                    refine g_iald hC V 1 rfl (vp_in_nI (by decide) (by decide)) (v := (nI n)) (by rw [nI_clamp (by decide)]; first | rfl | exact h_a.2.1) dX8_bestRound_116 ?_
                    refine lv_icmp_ge (tgt := 156) hx hb dX8_bestRound_117 (by decide) (fun c_13 => ?_) (fun c_13 => ?_)
                    · skip
                      have c_13 := b_le (by omega) (by omega) c_13
                      refine lv_aload_n hx hb dX8_bestRound_156 rfl (lv_at hl 4 rfl) ?_
                      refine lv_iload_n hx hb dX8_bestRound_157 rfl (lv_at hl 5 rfl) ?_
                      refine g_callVU (nA := 1) hC V hl.1 (m_holdsBy l D T n o i (nI 0) g1 g2 g3 g4 tp w6 w7 w8 w9 w10 w11 w12 w13 w14 g15 w16 g17 w18 w19 g20 wv g22 g23 g24 w25 w26 w27 g28 g29 w30 g31 g32 g33 fa ga_ gb_ ge_ h_a ⟨by omega, by omega⟩) w_1229 w_1231 w_s64 w_9 w_1232 (by decide +kernel) rfl ⟨(Nat.le_of_ble_eq_true rfl), (Nat.le_of_ble_eq_true rfl)⟩ 0 (ci := 8) rfl rfl [0, 1, 2, 3, 4] rfl rfl (Nat.le_of_ble_eq_true rfl) dX8_bestRound_158 ⟨(Nat.le_of_ble_eq_true rfl), (Nat.le_of_ble_eq_true rfl)⟩ rfl (fun r w1 H locs hQ V => ?_)
                      obtain ⟨z_14, wq_15, gh_16, gk_17, rfl, rfl⟩ := hQ
                      have V : gW D T A s [(o, .inr (8, [.int (nI 0), .ref g1, .ref g2, .ref g3, .ref g4, .int (nI tp), .int w6, .int w7, .int w8, .int w9, .int w10, .int w11, .int w12, .int w13, .int w14, .ref g15, .int w16, .ref g17, .int w18, .int w19, .ref g20, .int wq_15, .ref g22, .ref g23, .ref g24, .int w25, .int w26, .int w27, .ref g28, .ref g29, .int w30, .ref g31, .ref g32, .ref g33])), (g1, .inl (T 0, 282, .inl fa)), (g15, .inl (T 0, 10, .inl gh_16)), (g17, .inl (T 0, 94, .inl gk_17)), (g20, .inl (T 1, 10, .inr (.inl ge_))), (g22, .inl (T 1, 10, .inr (.inl gd_)))] H locs := V _ [0, 0, 0, 0, 0] rfl rfl rfl (by decide +kernel) rfl
                      show W p l e _ s m args below meth c H locs _ _ _ (F0 m 161 ls [.int z_14])
                      refine lv_iconst (v := (-1)) hx hb dX8_bestRound_161 (by decide +kernel) ?_
                      refine lv_icmp_eq (tgt := 168) hx hb dX8_bestRound_162 (by decide) (fun c_18 => ?_) (fun c_18 => ?_)
                      · skip
                        refine lv_iload hx hb dX8_bestRound_168 (lv_at hl 1 rfl) ?_
                        refine lv_istore_n (lv' := [(3, .int z_10), (6, .int (nI k109)), (5, .int z_10), (4, .int (nI k69)), (0, .ref o), (1, .int (nI i)), (2, .int wh)]) hx hb dX8_bestRound_170 rfl hl (by decide) rfl (fun ls hl => ?_)
                        refine lv_iconst (v := (nI 0)) hx hb dX8_bestRound_171 (by decide +kernel) ?_
                        refine lv_istore (lv' := [(6, .int (nI 0)), (3, .int z_10), (5, .int z_10), (4, .int (nI k69)), (0, .ref o), (1, .int (nI i)), (2, .int wh)]) hx hb dX8_bestRound_172 hl (by decide) rfl (fun ls hl => ?_)
                        have L_19 : ∀ (fu : Nat) (k174 : Nat) (gf_ : Nat → Int64), k174 ≤ n → n - k174 < fu → ∀ (H : Heap) (locs : List Loc) (ls : Array Slot), gW D T A s [(o, .inr (8, [.int (nI 0), .ref g1, .ref g2, .ref g3, .ref g4, .int (nI tp), .int w6, .int w7, .int w8, .int w9, .int w10, .int w11, .int w12, .int w13, .int w14, .ref g15, .int w16, .ref g17, .int w18, .int w19, .ref g20, .int wq_15, .ref g22, .ref g23, .ref g24, .int w25, .int w26, .int w27, .ref g28, .ref g29, .int w30, .ref g31, .ref g32, .ref g33])), (g1, .inl (T 0, 282, .inl fa)), (g15, .inl (T 0, 10, .inl gh_16)), (g17, .inl (T 0, 94, .inl gk_17)), (g20, .inl (T 1, 10, .inr (.inl ge_))), (g22, .inl (T 1, 10, .inr (.inl gf_)))] H locs → lv_has ls 7 [(6, .int (nI k174)), (3, .int z_10), (5, .int z_10), (4, .int (nI k69)), (0, .ref o), (1, .int (nI i)), (2, .int wh)] → W p l e (rmD 4 0 0) s m args below meth c H locs 0 0 (MQ below (gQ D A (q_m_bestRound T n o le wh w0 g1 g2 g3 g4 tp w6 w7 w8 w9 w10 w11 w12 w13 w14 g15 w16 g17 w18 w19 g20 w21 g22 g23 g24 w25 w26 w27 g28 g29 w30 g31 g32 g33 fa fh fk fr fb)) args s 0 0 A) (F0 m 174 ls []) := by
                          intro fu_174
                          induction fu_174 with
                          | zero => intro k174 gf_ hk174 hmu; exact absurd hmu (Nat.not_lt_zero _)
                          | succ fu_174 ih_174 =>
                            intro k174 gf_ hk174 hmu_174 H locs ls V hl
                            refine lv_iload hx hb dX8_bestRound_174 (lv_at hl 0 rfl) ?_
                            refine lv_aload_n hx hb dX8_bestRound_176 rfl (lv_at hl 4 rfl) ?_
                            refine g_get hC V (ci := 8) uwX8 0 rfl rfl 1 (by decide) w_913 rfl rfl dX8_bestRound_177 ?_
                            refine lv_iconst (v := (nI 0)) hx hb dX8_bestRound_180 (by decide +kernel) ?_
                            refine g_iald hC V 1 rfl (vp_in_nI (by decide) (by decide)) (v := (nI n)) (by rw [nI_clamp (by decide)]; first | rfl | exact h_a.2.1) dX8_bestRound_181 ?_
                            refine lv_icmp_ge (tgt := 205) hx hb dX8_bestRound_182 (by decide) (fun c_20 => ?_) (fun c_20 => ?_)
                            · skip
                              have c_20 := b_le (by omega) (by omega) c_20
                              refine lv_iinc (v := (nI (k69 + 1))) (lv' := [(4, .int (nI (k69 + 1))), (6, .int (nI k174)), (3, .int z_10), (5, .int z_10), (0, .ref o), (1, .int (nI i)), (2, .int wh)]) hx hb dX8_bestRound_205 hl (k := 3) rfl (nI_1 _) (by decide) rfl (fun ls hl => ?_)
                              refine lv_goto (tgt := 69) hx hb dX8_bestRound_208 (by decide) ?_
                              exact ih_69 (k69 + 1) z_10 wq_15 gh_16 gk_17 ge_ gf_ (by omega) (by omega) _ _ _ V (lv_sub hl [0, 2, 4, 5, 6] rfl)
                            · skip
                              have c_20 := b_nle (by omega) (by omega) c_20
                              refine lv_aload_n hx hb dX8_bestRound_185 rfl (lv_at hl 4 rfl) ?_
                              refine g_get hC V (ci := 8) uwX8 0 rfl rfl 22 (by decide) w_934 rfl rfl dX8_bestRound_186 ?_
                              refine lv_iload hx hb dX8_bestRound_189 (lv_at hl 0 rfl) ?_
                              refine lv_aload_n hx hb dX8_bestRound_191 rfl (lv_at hl 4 rfl) ?_
                              refine g_get hC V (ci := 8) uwX8 0 rfl rfl 20 (by decide) w_932 rfl rfl dX8_bestRound_192 ?_
                              refine lv_iload hx hb dX8_bestRound_195 (lv_at hl 0 rfl) ?_
                              refine g_lald hC V 4 rfl (vp_in_nI (by omega) (by omega)) (v := (ge_ k174)) (congrArg _ (nI_clamp (by omega))) dX8_bestRound_197 ?_
                              refine g_last hC V 5 rfl (vp_in_nI (by omega) (by omega)) (f' := (vp_updL gf_ k174 (ge_ k174))) (by rw [nI_clamp (by omega)]) (ws' := [(o, .inr (8, [.int (nI 0), .ref g1, .ref g2, .ref g3, .ref g4, .int (nI tp), .int w6, .int w7, .int w8, .int w9, .int w10, .int w11, .int w12, .int w13, .int w14, .ref g15, .int w16, .ref g17, .int w18, .int w19, .ref g20, .int wq_15, .ref g22, .ref g23, .ref g24, .int w25, .int w26, .int w27, .ref g28, .ref g29, .int w30, .ref g31, .ref g32, .ref g33])), (g1, .inl (T 0, 282, .inl fa)), (g15, .inl (T 0, 10, .inl gh_16)), (g17, .inl (T 0, 94, .inl gk_17)), (g20, .inl (T 1, 10, .inr (.inl ge_))), (g22, .inl (T 1, 10, .inr (.inl (vp_updL gf_ k174 (ge_ k174)))))]) rfl dX8_bestRound_198 (fun H locs V => ?_)
                              refine lv_iinc (v := (nI (k174 + 1))) (lv' := [(6, .int (nI (k174 + 1))), (3, .int z_10), (5, .int z_10), (4, .int (nI k69)), (0, .ref o), (1, .int (nI i)), (2, .int wh)]) hx hb dX8_bestRound_199 hl (k := 0) rfl (nI_1 _) (by decide) rfl (fun ls hl => ?_)
                              refine lv_goto (tgt := 174) hx hb dX8_bestRound_202 (by decide) ?_
                              exact ih_174 (k174 + 1) (vp_updL gf_ k174 (ge_ k174)) (by omega) (by omega) _ _ _ V (lv_sub hl [0, 1, 2, 3, 4, 5, 6] rfl)
                        exact L_19 _ 0 gd_ (by omega) (Nat.lt_succ_self _) _ _ _ V (lv_sub hl [0, 1, 2, 3, 4, 5, 6] rfl)
                      · skip
                        refine lv_goto (tgt := 205) hx hb dX8_bestRound_165 (by decide) ?_
                        refine lv_iinc (v := (nI (k69 + 1))) (lv' := [(4, .int (nI (k69 + 1))), (6, .int (nI k109)), (5, .int z_10), (3, .int x69_3), (0, .ref o), (1, .int (nI i)), (2, .int wh)]) hx hb dX8_bestRound_205 hl (k := 2) rfl (nI_1 _) (by decide) rfl (fun ls hl => ?_)
                        refine lv_goto (tgt := 69) hx hb dX8_bestRound_208 (by decide) ?_
                        exact ih_69 (k69 + 1) x69_3 wq_15 gh_16 gk_17 ge_ gd_ (by omega) (by omega) _ _ _ V (lv_sub hl [0, 3, 4, 5, 6] rfl)
                    · skip
                      have c_13 := b_nle (by omega) (by omega) c_13
                      refine lv_aload_n hx hb dX8_bestRound_120 rfl (lv_at hl 4 rfl) ?_
                      refine g_get hC V (ci := 8) uwX8 0 rfl rfl 20 (by decide) w_932 rfl rfl dX8_bestRound_121 ?_
                      refine lv_iload hx hb dX8_bestRound_124 (lv_at hl 0 rfl) ?_
                      refine lv_iload hx hb dX8_bestRound_126 (lv_at hl 2 rfl) ?_
                      refine lv_aload_n hx hb dX8_bestRound_128 rfl (lv_at hl 4 rfl) ?_
                      refine g_get hC V (ci := 8) uwX8 0 rfl rfl 1 (by decide) w_913 rfl rfl dX8_bestRound_129 ?_
                      refine lv_iconst (v := (nI 0)) hx hb dX8_bestRound_132 (by decide +kernel) ?_
                      refine g_iald hC V 1 rfl (vp_in_nI (by decide) (by decide)) (v := (nI n)) (by rw [nI_clamp (by decide)]; first | rfl | exact h_a.2.1) dX8_bestRound_133 ?_
                      refine lv_iconst (v := (nI 1)) hx hb dX8_bestRound_134 (by decide +kernel) ?_
                      refine lv_isub hx hb dX8_bestRound_135 ?_
                      refine lv_iload hx hb dX8_bestRound_136 (lv_at hl 0 rfl) ?_
                      refine lv_isub hx hb dX8_bestRound_138 ?_
                      refine lv_iload_n hx hb dX8_bestRound_139 rfl (lv_at hl 5 rfl) ?_
                      refine lv_imul hx hb dX8_bestRound_140 ?_
                      refine lv_ishr hx hb dX8_bestRound_141 ?_
                      refine lv_topi (fun x_21 ex_21 => ?_)
                      refine lv_iconst (v := (nI 1)) hx hb dX8_bestRound_142 (by decide +kernel) ?_
                      refine lv_iload_n hx hb dX8_bestRound_143 rfl (lv_at hl 5 rfl) ?_
                      refine lv_ishl hx hb dX8_bestRound_144 ?_
                      refine lv_iconst (v := (nI 1)) hx hb dX8_bestRound_145 (by decide +kernel) ?_
                      refine lv_isub hx hb dX8_bestRound_146 ?_
                      refine lv_iand hx hb dX8_bestRound_147 ?_
                      refine lv_i2l (v := (x_21 &&& (((nI 1) <<< ((nI i) &&& 31)) - (nI 1))).toInt64) hx hb dX8_bestRound_148 rfl ?_
                      refine g_last hC V 4 rfl (vp_in_nI (by omega) (by omega)) (f' := (vp_updL ge_ k109 ((x_21 &&& (((nI 1) <<< ((nI i) &&& 31)) - (nI 1))).toInt64))) (by rw [nI_clamp (by omega)]) (ws' := [(o, .inr (8, [.int (nI 0), .ref g1, .ref g2, .ref g3, .ref g4, .int (nI tp), .int w6, .int w7, .int w8, .int w9, .int w10, .int w11, .int w12, .int w13, .int w14, .ref g15, .int w16, .ref g17, .int w18, .int w19, .ref g20, .int wv, .ref g22, .ref g23, .ref g24, .int w25, .int w26, .int w27, .ref g28, .ref g29, .int w30, .ref g31, .ref g32, .ref g33])), (g1, .inl (T 0, 282, .inl fa)), (g15, .inl (T 0, 10, .inl ga_)), (g17, .inl (T 0, 94, .inl gb_)), (g20, .inl (T 1, 10, .inr (.inl (vp_updL ge_ k109 ((x_21 &&& (((nI 1) <<< ((nI i) &&& 31)) - (nI 1))).toInt64))))), (g22, .inl (T 1, 10, .inr (.inl gd_)))]) rfl dX8_bestRound_149 (fun H locs V => ?_)
                      refine lv_iinc (v := (nI (k109 + 1))) (lv' := [(6, .int (nI (k109 + 1))), (5, .int z_10), (4, .int (nI k69)), (3, .int x69_3), (0, .ref o), (1, .int (nI i)), (2, .int wh)]) hx hb dX8_bestRound_150 hl (k := 0) rfl (nI_1 _) (by decide) rfl (fun ls hl => ?_)
                      refine lv_goto (tgt := 109) hx hb dX8_bestRound_153 (by decide) ?_
                      exact ih_109 (k109 + 1) (vp_updL ge_ k109 ((x_21 &&& (((nI 1) <<< ((nI i) &&& 31)) - (nI 1))).toInt64)) (by omega) (by omega) _ _ _ V (lv_sub hl [0, 1, 2, 3, 4, 5, 6] rfl)
                exact L_12 _ 0 gc_ (by omega) (Nat.lt_succ_self _) _ _ _ V (lv_sub hl [0, 1, 2, 3, 4, 5, 6] rfl)
              · skip
                refine lv_iload hx hb dX8_bestRound_97 (lv_at hl 0 rfl) ?_
                refine lv_iload_n hx hb dX8_bestRound_99 rfl (lv_at hl 2 rfl) ?_
                refine lv_icmp_lt (tgt := 106) hx hb dX8_bestRound_100 (by decide) (fun c_22 => ?_) (fun c_22 => ?_)
                · skip
                  refine lv_iconst (v := (nI 0)) hx hb dX8_bestRound_106 (by decide +kernel) ?_
                  refine lv_istore (lv' := [(6, .int (nI 0)), (5, .int z_10), (4, .int (nI k69)), (3, .int x69_3), (0, .ref o), (1, .int (nI i)), (2, .int wh)]) hx hb dX8_bestRound_107 hl (by decide) rfl (fun ls hl => ?_)
                  have L_23 : ∀ (fu : Nat) (k109 : Nat) (ge_ : Nat → Int64), k109 ≤ n → n - k109 < fu → ∀ (H : Heap) (locs : List Loc) (ls : Array Slot), gW D T A s [(o, .inr (8, [.int (nI 0), .ref g1, .ref g2, .ref g3, .ref g4, .int (nI tp), .int w6, .int w7, .int w8, .int w9, .int w10, .int w11, .int w12, .int w13, .int w14, .ref g15, .int w16, .ref g17, .int w18, .int w19, .ref g20, .int wv, .ref g22, .ref g23, .ref g24, .int w25, .int w26, .int w27, .ref g28, .ref g29, .int w30, .ref g31, .ref g32, .ref g33])), (g1, .inl (T 0, 282, .inl fa)), (g15, .inl (T 0, 10, .inl ga_)), (g17, .inl (T 0, 94, .inl gb_)), (g20, .inl (T 1, 10, .inr (.inl ge_))), (g22, .inl (T 1, 10, .inr (.inl gd_)))] H locs → lv_has ls 7 [(6, .int (nI k109)), (5, .int z_10), (4, .int (nI k69)), (3, .int x69_3), (0, .ref o), (1, .int (nI i)), (2, .int wh)] → W p l e (rmD 4 0 0) s m args below meth c H locs 0 0 (MQ below (gQ D A (q_m_bestRound T n o le wh w0 g1 g2 g3 g4 tp w6 w7 w8 w9 w10 w11 w12 w13 w14 g15 w16 g17 w18 w19 g20 w21 g22 g23 g24 w25 w26 w27 g28 g29 w30 g31 g32 g33 fa fh fk fr fb)) args s 0 0 A) (F0 m 109 ls []) := by
                    intro fu_109
                    induction fu_109 with
                    | zero => intro k109 ge_ hk109 hmu; exact absurd hmu (Nat.not_lt_zero _)
                    | succ fu_109 ih_109 =>
                      intro k109 ge_ hk109 hmu_109 H locs ls V hl
                      refine lv_iload hx hb dX8_bestRound_109 (lv_at hl 0 rfl) ?_
                      refine lv_aload_n hx hb dX8_bestRound_111 rfl (lv_at hl 4 rfl) ?_
                      refine g_get hC V (ci := 8) uwX8 0 rfl rfl 1 (by decide) w_913 rfl rfl dX8_bestRound_112 ?_
                      refine lv_iconst (v := (nI 0)) hx hb dX8_bestRound_115 (by decide +kernel) ?_
                      refine g_iald hC V 1 rfl (vp_in_nI (by decide) (by decide)) (v := (nI n)) (by rw [nI_clamp (by decide)]; first | rfl | exact h_a.2.1) dX8_bestRound_116 ?_
                      refine lv_icmp_ge (tgt := 156) hx hb dX8_bestRound_117 (by decide) (fun c_24 => ?_) (fun c_24 => ?_)
                      · skip
                        have c_24 := b_le (by omega) (by omega) c_24
                        refine lv_aload_n hx hb dX8_bestRound_156 rfl (lv_at hl 4 rfl) ?_
                        refine lv_iload_n hx hb dX8_bestRound_157 rfl (lv_at hl 5 rfl) ?_
                        refine g_callVU (nA := 1) hC V hl.1 (m_holdsBy l D T n o i (nI 0) g1 g2 g3 g4 tp w6 w7 w8 w9 w10 w11 w12 w13 w14 g15 w16 g17 w18 w19 g20 wv g22 g23 g24 w25 w26 w27 g28 g29 w30 g31 g32 g33 fa ga_ gb_ ge_ h_a ⟨by omega, by omega⟩) w_1229 w_1231 w_s64 w_9 w_1232 (by decide +kernel) rfl ⟨(Nat.le_of_ble_eq_true rfl), (Nat.le_of_ble_eq_true rfl)⟩ 0 (ci := 8) rfl rfl [0, 1, 2, 3, 4] rfl rfl (Nat.le_of_ble_eq_true rfl) dX8_bestRound_158 ⟨(Nat.le_of_ble_eq_true rfl), (Nat.le_of_ble_eq_true rfl)⟩ rfl (fun r w1 H locs hQ V => ?_)
                        obtain ⟨z_25, wq_26, gh_27, gk_28, rfl, rfl⟩ := hQ
                        have V : gW D T A s [(o, .inr (8, [.int (nI 0), .ref g1, .ref g2, .ref g3, .ref g4, .int (nI tp), .int w6, .int w7, .int w8, .int w9, .int w10, .int w11, .int w12, .int w13, .int w14, .ref g15, .int w16, .ref g17, .int w18, .int w19, .ref g20, .int wq_26, .ref g22, .ref g23, .ref g24, .int w25, .int w26, .int w27, .ref g28, .ref g29, .int w30, .ref g31, .ref g32, .ref g33])), (g1, .inl (T 0, 282, .inl fa)), (g15, .inl (T 0, 10, .inl gh_27)), (g17, .inl (T 0, 94, .inl gk_28)), (g20, .inl (T 1, 10, .inr (.inl ge_))), (g22, .inl (T 1, 10, .inr (.inl gd_)))] H locs := V _ [0, 0, 0, 0, 0] rfl rfl rfl (by decide +kernel) rfl
                        show W p l e _ s m args below meth c H locs _ _ _ (F0 m 161 ls [.int z_25])
                        refine lv_iconst (v := (-1)) hx hb dX8_bestRound_161 (by decide +kernel) ?_
                        refine lv_icmp_eq (tgt := 168) hx hb dX8_bestRound_162 (by decide) (fun c_29 => ?_) (fun c_29 => ?_)
                        · skip
                          refine lv_iload hx hb dX8_bestRound_168 (lv_at hl 1 rfl) ?_
                          refine lv_istore_n (lv' := [(3, .int z_10), (6, .int (nI k109)), (5, .int z_10), (4, .int (nI k69)), (0, .ref o), (1, .int (nI i)), (2, .int wh)]) hx hb dX8_bestRound_170 rfl hl (by decide) rfl (fun ls hl => ?_)
                          refine lv_iconst (v := (nI 0)) hx hb dX8_bestRound_171 (by decide +kernel) ?_
                          refine lv_istore (lv' := [(6, .int (nI 0)), (3, .int z_10), (5, .int z_10), (4, .int (nI k69)), (0, .ref o), (1, .int (nI i)), (2, .int wh)]) hx hb dX8_bestRound_172 hl (by decide) rfl (fun ls hl => ?_)
                          have L_30 : ∀ (fu : Nat) (k174 : Nat) (gf_ : Nat → Int64), k174 ≤ n → n - k174 < fu → ∀ (H : Heap) (locs : List Loc) (ls : Array Slot), gW D T A s [(o, .inr (8, [.int (nI 0), .ref g1, .ref g2, .ref g3, .ref g4, .int (nI tp), .int w6, .int w7, .int w8, .int w9, .int w10, .int w11, .int w12, .int w13, .int w14, .ref g15, .int w16, .ref g17, .int w18, .int w19, .ref g20, .int wq_26, .ref g22, .ref g23, .ref g24, .int w25, .int w26, .int w27, .ref g28, .ref g29, .int w30, .ref g31, .ref g32, .ref g33])), (g1, .inl (T 0, 282, .inl fa)), (g15, .inl (T 0, 10, .inl gh_27)), (g17, .inl (T 0, 94, .inl gk_28)), (g20, .inl (T 1, 10, .inr (.inl ge_))), (g22, .inl (T 1, 10, .inr (.inl gf_)))] H locs → lv_has ls 7 [(6, .int (nI k174)), (3, .int z_10), (5, .int z_10), (4, .int (nI k69)), (0, .ref o), (1, .int (nI i)), (2, .int wh)] → W p l e (rmD 4 0 0) s m args below meth c H locs 0 0 (MQ below (gQ D A (q_m_bestRound T n o le wh w0 g1 g2 g3 g4 tp w6 w7 w8 w9 w10 w11 w12 w13 w14 g15 w16 g17 w18 w19 g20 w21 g22 g23 g24 w25 w26 w27 g28 g29 w30 g31 g32 g33 fa fh fk fr fb)) args s 0 0 A) (F0 m 174 ls []) := by
                            intro fu_174
                            induction fu_174 with
                            | zero => intro k174 gf_ hk174 hmu; exact absurd hmu (Nat.not_lt_zero _)
                            | succ fu_174 ih_174 =>
                              intro k174 gf_ hk174 hmu_174 H locs ls V hl
                              refine lv_iload hx hb dX8_bestRound_174 (lv_at hl 0 rfl) ?_
                              refine lv_aload_n hx hb dX8_bestRound_176 rfl (lv_at hl 4 rfl) ?_
                              refine g_get hC V (ci := 8) uwX8 0 rfl rfl 1 (by decide) w_913 rfl rfl dX8_bestRound_177 ?_
                              refine lv_iconst (v := (nI 0)) hx hb dX8_bestRound_180 (by decide +kernel) ?_
                              refine g_iald hC V 1 rfl (vp_in_nI (by decide) (by decide)) (v := (nI n)) (by rw [nI_clamp (by decide)]; first | rfl | exact h_a.2.1) dX8_bestRound_181 ?_
                              refine lv_icmp_ge (tgt := 205) hx hb dX8_bestRound_182 (by decide) (fun c_31 => ?_) (fun c_31 => ?_)
                              · skip
                                have c_31 := b_le (by omega) (by omega) c_31
                                refine lv_iinc (v := (nI (k69 + 1))) (lv' := [(4, .int (nI (k69 + 1))), (6, .int (nI k174)), (3, .int z_10), (5, .int z_10), (0, .ref o), (1, .int (nI i)), (2, .int wh)]) hx hb dX8_bestRound_205 hl (k := 3) rfl (nI_1 _) (by decide) rfl (fun ls hl => ?_)
                                refine lv_goto (tgt := 69) hx hb dX8_bestRound_208 (by decide) ?_
                                exact ih_69 (k69 + 1) z_10 wq_26 gh_27 gk_28 ge_ gf_ (by omega) (by omega) _ _ _ V (lv_sub hl [0, 2, 4, 5, 6] rfl)
                              · skip
                                have c_31 := b_nle (by omega) (by omega) c_31
                                refine lv_aload_n hx hb dX8_bestRound_185 rfl (lv_at hl 4 rfl) ?_
                                refine g_get hC V (ci := 8) uwX8 0 rfl rfl 22 (by decide) w_934 rfl rfl dX8_bestRound_186 ?_
                                refine lv_iload hx hb dX8_bestRound_189 (lv_at hl 0 rfl) ?_
                                refine lv_aload_n hx hb dX8_bestRound_191 rfl (lv_at hl 4 rfl) ?_
                                refine g_get hC V (ci := 8) uwX8 0 rfl rfl 20 (by decide) w_932 rfl rfl dX8_bestRound_192 ?_
                                refine lv_iload hx hb dX8_bestRound_195 (lv_at hl 0 rfl) ?_
                                refine g_lald hC V 4 rfl (vp_in_nI (by omega) (by omega)) (v := (ge_ k174)) (congrArg _ (nI_clamp (by omega))) dX8_bestRound_197 ?_
                                refine g_last hC V 5 rfl (vp_in_nI (by omega) (by omega)) (f' := (vp_updL gf_ k174 (ge_ k174))) (by rw [nI_clamp (by omega)]) (ws' := [(o, .inr (8, [.int (nI 0), .ref g1, .ref g2, .ref g3, .ref g4, .int (nI tp), .int w6, .int w7, .int w8, .int w9, .int w10, .int w11, .int w12, .int w13, .int w14, .ref g15, .int w16, .ref g17, .int w18, .int w19, .ref g20, .int wq_26, .ref g22, .ref g23, .ref g24, .int w25, .int w26, .int w27, .ref g28, .ref g29, .int w30, .ref g31, .ref g32, .ref g33])), (g1, .inl (T 0, 282, .inl fa)), (g15, .inl (T 0, 10, .inl gh_27)), (g17, .inl (T 0, 94, .inl gk_28)), (g20, .inl (T 1, 10, .inr (.inl ge_))), (g22, .inl (T 1, 10, .inr (.inl (vp_updL gf_ k174 (ge_ k174)))))]) rfl dX8_bestRound_198 (fun H locs V => ?_)
                                refine lv_iinc (v := (nI (k174 + 1))) (lv' := [(6, .int (nI (k174 + 1))), (3, .int z_10), (5, .int z_10), (4, .int (nI k69)), (0, .ref o), (1, .int (nI i)), (2, .int wh)]) hx hb dX8_bestRound_199 hl (k := 0) rfl (nI_1 _) (by decide) rfl (fun ls hl => ?_)
                                refine lv_goto (tgt := 174) hx hb dX8_bestRound_202 (by decide) ?_
                                exact ih_174 (k174 + 1) (vp_updL gf_ k174 (ge_ k174)) (by omega) (by omega) _ _ _ V (lv_sub hl [0, 1, 2, 3, 4, 5, 6] rfl)
                          exact L_30 _ 0 gd_ (by omega) (Nat.lt_succ_self _) _ _ _ V (lv_sub hl [0, 1, 2, 3, 4, 5, 6] rfl)
                        · skip
                          refine lv_goto (tgt := 205) hx hb dX8_bestRound_165 (by decide) ?_
                          refine lv_iinc (v := (nI (k69 + 1))) (lv' := [(4, .int (nI (k69 + 1))), (6, .int (nI k109)), (5, .int z_10), (3, .int x69_3), (0, .ref o), (1, .int (nI i)), (2, .int wh)]) hx hb dX8_bestRound_205 hl (k := 2) rfl (nI_1 _) (by decide) rfl (fun ls hl => ?_)
                          refine lv_goto (tgt := 69) hx hb dX8_bestRound_208 (by decide) ?_
                          exact ih_69 (k69 + 1) x69_3 wq_26 gh_27 gk_28 ge_ gd_ (by omega) (by omega) _ _ _ V (lv_sub hl [0, 3, 4, 5, 6] rfl)
                      · skip
                        have c_24 := b_nle (by omega) (by omega) c_24
                        refine lv_aload_n hx hb dX8_bestRound_120 rfl (lv_at hl 4 rfl) ?_
                        refine g_get hC V (ci := 8) uwX8 0 rfl rfl 20 (by decide) w_932 rfl rfl dX8_bestRound_121 ?_
                        refine lv_iload hx hb dX8_bestRound_124 (lv_at hl 0 rfl) ?_
                        refine lv_iload hx hb dX8_bestRound_126 (lv_at hl 2 rfl) ?_
                        refine lv_aload_n hx hb dX8_bestRound_128 rfl (lv_at hl 4 rfl) ?_
                        refine g_get hC V (ci := 8) uwX8 0 rfl rfl 1 (by decide) w_913 rfl rfl dX8_bestRound_129 ?_
                        refine lv_iconst (v := (nI 0)) hx hb dX8_bestRound_132 (by decide +kernel) ?_
                        refine g_iald hC V 1 rfl (vp_in_nI (by decide) (by decide)) (v := (nI n)) (by rw [nI_clamp (by decide)]; first | rfl | exact h_a.2.1) dX8_bestRound_133 ?_
                        refine lv_iconst (v := (nI 1)) hx hb dX8_bestRound_134 (by decide +kernel) ?_
                        refine lv_isub hx hb dX8_bestRound_135 ?_
                        refine lv_iload hx hb dX8_bestRound_136 (lv_at hl 0 rfl) ?_
                        refine lv_isub hx hb dX8_bestRound_138 ?_
                        refine lv_iload_n hx hb dX8_bestRound_139 rfl (lv_at hl 5 rfl) ?_
                        refine lv_imul hx hb dX8_bestRound_140 ?_
                        refine lv_ishr hx hb dX8_bestRound_141 ?_
                        refine lv_topi (fun x_32 ex_32 => ?_)
                        refine lv_iconst (v := (nI 1)) hx hb dX8_bestRound_142 (by decide +kernel) ?_
                        refine lv_iload_n hx hb dX8_bestRound_143 rfl (lv_at hl 5 rfl) ?_
                        refine lv_ishl hx hb dX8_bestRound_144 ?_
                        refine lv_iconst (v := (nI 1)) hx hb dX8_bestRound_145 (by decide +kernel) ?_
                        refine lv_isub hx hb dX8_bestRound_146 ?_
                        refine lv_iand hx hb dX8_bestRound_147 ?_
                        refine lv_i2l (v := (x_32 &&& (((nI 1) <<< ((nI i) &&& 31)) - (nI 1))).toInt64) hx hb dX8_bestRound_148 rfl ?_
                        refine g_last hC V 4 rfl (vp_in_nI (by omega) (by omega)) (f' := (vp_updL ge_ k109 ((x_32 &&& (((nI 1) <<< ((nI i) &&& 31)) - (nI 1))).toInt64))) (by rw [nI_clamp (by omega)]) (ws' := [(o, .inr (8, [.int (nI 0), .ref g1, .ref g2, .ref g3, .ref g4, .int (nI tp), .int w6, .int w7, .int w8, .int w9, .int w10, .int w11, .int w12, .int w13, .int w14, .ref g15, .int w16, .ref g17, .int w18, .int w19, .ref g20, .int wv, .ref g22, .ref g23, .ref g24, .int w25, .int w26, .int w27, .ref g28, .ref g29, .int w30, .ref g31, .ref g32, .ref g33])), (g1, .inl (T 0, 282, .inl fa)), (g15, .inl (T 0, 10, .inl ga_)), (g17, .inl (T 0, 94, .inl gb_)), (g20, .inl (T 1, 10, .inr (.inl (vp_updL ge_ k109 ((x_32 &&& (((nI 1) <<< ((nI i) &&& 31)) - (nI 1))).toInt64))))), (g22, .inl (T 1, 10, .inr (.inl gd_)))]) rfl dX8_bestRound_149 (fun H locs V => ?_)
                        refine lv_iinc (v := (nI (k109 + 1))) (lv' := [(6, .int (nI (k109 + 1))), (5, .int z_10), (4, .int (nI k69)), (3, .int x69_3), (0, .ref o), (1, .int (nI i)), (2, .int wh)]) hx hb dX8_bestRound_150 hl (k := 0) rfl (nI_1 _) (by decide) rfl (fun ls hl => ?_)
                        refine lv_goto (tgt := 109) hx hb dX8_bestRound_153 (by decide) ?_
                        exact ih_109 (k109 + 1) (vp_updL ge_ k109 ((x_32 &&& (((nI 1) <<< ((nI i) &&& 31)) - (nI 1))).toInt64)) (by omega) (by omega) _ _ _ V (lv_sub hl [0, 1, 2, 3, 4, 5, 6] rfl)
                  exact L_23 _ 0 gc_ (by omega) (Nat.lt_succ_self _) _ _ _ V (lv_sub hl [0, 1, 2, 3, 4, 5, 6] rfl)
                · skip
                  refine lv_goto (tgt := 205) hx hb dX8_bestRound_103 (by decide) ?_
                  refine lv_iinc (v := (nI (k69 + 1))) (lv' := [(4, .int (nI (k69 + 1))), (5, .int z_10), (3, .int x69_3), (0, .ref o), (1, .int (nI i)), (2, .int wh)]) hx hb dX8_bestRound_205 hl (k := 1) rfl (nI_1 _) (by decide) rfl (fun ls hl => ?_)
                  refine lv_goto (tgt := 69) hx hb dX8_bestRound_208 (by decide) ?_
                  exact ih_69 (k69 + 1) x69_3 wv ga_ gb_ gc_ gd_ (by omega) (by omega) _ _ _ V (lv_sub hl [0, 2, 3, 4, 5] rfl)
        exact L_6 _ 0 (-1) w21 fh fk fr fb (by omega) (Nat.lt_succ_self _) _ _ _ V (lv_sub hl [0, 1, 2, 3, 4] rfl)
      · skip
        have c_5 := b_nle (by omega) (by omega) c_5
        refine lv_bipush (v := (-4)) hx hb dX8_bestRound_61 (by decide +kernel) ?_
        exact g_iret (Qr := (q_m_bestRound T n o le wh w0 g1 g2 g3 g4 tp w6 w7 w8 w9 w10 w11 w12 w13 w14 g15 w16 g17 w18 w19 g20 w21 g22 g23 g24 w25 w26 w27 g28 g29 w30 g31 g32 g33 fa fh fk fr fb)) hC V ⟨(Nat.le_of_ble_eq_true rfl), (Nat.le_of_ble_eq_true rfl)⟩ ⟨(-4), w21, fh, fk, fr, fb, rfl, rfl⟩ dX8_bestRound_63
    · have V : gW D T A s [(o, .inr (8, [.int (nI 0), .ref g1, .ref g2, .ref g3, .ref g4, .int (nI tp), .int w6, .int w7, .int w8, .int w9, .int w10, .int w11, .int w12, .int w13, .int w14, .ref g15, .int w16, .ref g17, .int w18, .int w19, .ref g20, .int w21, .ref g22, .ref g23, .ref g24, .int w25, .int w26, .int w27, .ref g28, .ref g29, .int w30, .ref g31, .ref g32, .ref g33])), (g1, .inl (T 0, 282, .inl fa)), (g15, .inl (T 0, 10, .inl fh)), (g17, .inl (T 0, 94, .inl fk)), (g20, .inl (T 1, 10, .inr (.inl fr))), (g22, .inl (T 1, 10, .inr (.inl fb)))] H locs := V _ [] rfl rfl rfl (by decide +kernel) rfl
      show W p l e _ s m args below meth c H locs _ _ _ (F0 m 42 ls [.int (nI 0)])
      refine lv_if_ne (tgt := 48) hx hb dX8_bestRound_42 (by decide) (fun c => absurd (show (nI 0) = 0 by decide +kernel) c) (fun _ => ?_)
      refine lv_bipush (v := (-3)) hx hb dX8_bestRound_45 (by decide +kernel) ?_
      exact g_iret (Qr := (q_m_bestRound T n o le wh w0 g1 g2 g3 g4 tp w6 w7 w8 w9 w10 w11 w12 w13 w14 g15 w16 g17 w18 w19 g20 w21 g22 g23 g24 w25 w26 w27 g28 g29 w30 g31 g32 g33 fa fh fk fr fb)) hC V ⟨(Nat.le_of_ble_eq_true rfl), (Nat.le_of_ble_eq_true rfl)⟩ ⟨(-3), w21, fh, fk, fr, fb, rfl, rfl⟩ dX8_bestRound_47
  · skip
    refine lv_iload_n hx hb dX8_bestRound_9 rfl (lv_at hl 2 rfl) ?_
    refine lv_i2l (v := wh.toInt64) hx hb dX8_bestRound_10 rfl ?_
    refine lv_ldc2 (v := (10)) hx hb hown (hts _ w_1257) dX8_bestRound_11 ?_
    refine g_vl (y := (nI 10).toInt64) (by decide +kernel) ?_
    refine lv_bipush (v := (nI 9)) hx hb dX8_bestRound_14 (by decide +kernel) ?_
    refine lv_aload_n hx hb dX8_bestRound_16 rfl (lv_at hl 0 rfl) ?_
    refine g_get hC V (ci := 8) uwX8 0 rfl rfl 1 (by decide) w_913 rfl rfl dX8_bestRound_17 ?_
    refine lv_iconst (v := (nI 0)) hx hb dX8_bestRound_20 (by decide +kernel) ?_
    refine g_iald hC V 1 rfl (vp_in_nI (by decide) (by decide)) (v := (nI n)) (by rw [nI_clamp (by decide)]; first | rfl | exact h_a.2.1) dX8_bestRound_21 ?_
    refine lv_iadd hx hb dX8_bestRound_22 ?_
    refine g_vi (y := (nI (9 + n))) (nI_add _ _) ?_
    refine lv_i2l (v := (nI (9 + n)).toInt64) hx hb dX8_bestRound_23 rfl ?_
    refine g_callSU (nA := 3) hC V hl.1 (m_within l D T wh (nI 10) (nI (9 + n))) w_1023 w_1024 w_9 w_1025 (by decide +kernel) rfl ⟨(Nat.le_of_ble_eq_true rfl), (Nat.le_of_ble_eq_true rfl)⟩ [] rfl rfl (Nat.le_of_ble_eq_true rfl) dX8_bestRound_24 ⟨(Nat.le_of_ble_eq_true rfl), (Nat.le_of_ble_eq_true rfl)⟩ rfl (fun r w1 H locs hQ V => ?_)
    rcases hQ with ⟨rfl, rfl, f_33, f_34⟩ | ⟨rfl, rfl, f_35⟩
    · have V : gW D T A s [(o, .inr (8, [.int (nI 0), .ref g1, .ref g2, .ref g3, .ref g4, .int (nI tp), .int w6, .int w7, .int w8, .int w9, .int w10, .int w11, .int w12, .int w13, .int w14, .ref g15, .int w16, .ref g17, .int w18, .int w19, .ref g20, .int w21, .ref g22, .ref g23, .ref g24, .int w25, .int w26, .int w27, .ref g28, .ref g29, .int w30, .ref g31, .ref g32, .ref g33])), (g1, .inl (T 0, 282, .inl fa)), (g15, .inl (T 0, 10, .inl fh)), (g17, .inl (T 0, 94, .inl fk)), (g20, .inl (T 1, 10, .inr (.inl fr))), (g22, .inl (T 1, 10, .inr (.inl fb)))] H locs := V _ [] rfl rfl rfl (by decide +kernel) rfl
      show W p l e _ s m args below meth c H locs _ _ _ (F0 m 27 ls [.int (nI 1)])
      obtain ⟨jw_36, hjw_36, ejw_36⟩ := w_ten hn10 f_33 f_34
      refine lv_if_ne (tgt := 33) hx hb dX8_bestRound_27 (by decide) (fun _ => ?_) (fun c => absurd (show (nI 1) = 0 from c) (by decide +kernel))
      refine lv_iload_n hx hb dX8_bestRound_33 rfl (lv_at hl 1 rfl) ?_
      refine lv_i2l (v := le.toInt64) hx hb dX8_bestRound_34 rfl ?_
      refine lv_lconst (v := (nI 1).toInt64) hx hb dX8_bestRound_35 (by decide +kernel) ?_
      refine lv_ldc2 (v := (10)) hx hb hown (hts _ w_1257) dX8_bestRound_36 ?_
      refine g_vl (y := (nI 10).toInt64) (by decide +kernel) ?_
      refine g_callSU (nA := 3) hC V hl.1 (m_within l D T le (nI 1) (nI 10)) w_1023 w_1024 w_9 w_1025 (by decide +kernel) rfl ⟨(Nat.le_of_ble_eq_true rfl), (Nat.le_of_ble_eq_true rfl)⟩ [] rfl rfl (Nat.le_of_ble_eq_true rfl) dX8_bestRound_39 ⟨(Nat.le_of_ble_eq_true rfl), (Nat.le_of_ble_eq_true rfl)⟩ rfl (fun r w1 H locs hQ V => ?_)
      rcases hQ with ⟨rfl, rfl, f_37, f_38⟩ | ⟨rfl, rfl, f_39⟩
      · have V : gW D T A s [(o, .inr (8, [.int (nI 0), .ref g1, .ref g2, .ref g3, .ref g4, .int (nI tp), .int w6, .int w7, .int w8, .int w9, .int w10, .int w11, .int w12, .int w13, .int w14, .ref g15, .int w16, .ref g17, .int w18, .int w19, .ref g20, .int w21, .ref g22, .ref g23, .ref g24, .int w25, .int w26, .int w27, .ref g28, .ref g29, .int w30, .ref g31, .ref g32, .ref g33])), (g1, .inl (T 0, 282, .inl fa)), (g15, .inl (T 0, 10, .inl fh)), (g17, .inl (T 0, 94, .inl fk)), (g20, .inl (T 1, 10, .inr (.inl fr))), (g22, .inl (T 1, 10, .inr (.inl fb)))] H locs := V _ [] rfl rfl rfl (by decide +kernel) rfl
        show W p l e _ s m args below meth c H locs _ _ _ (F0 m 42 ls [.int (nI 1)])
        obtain ⟨i, hi1, hi2, ei⟩ := g_rng (by first | decide | omega) (by first | decide | omega) f_37 f_38
        rw [ei] at hl
        have hmul : n * i ≤ 10 * 10 := Nat.mul_le_mul hn10 (by omega)
        refine lv_if_ne (tgt := 48) hx hb dX8_bestRound_42 (by decide) (fun _ => ?_) (fun c => absurd (show (nI 1) = 0 from c) (by decide +kernel))
        refine lv_aload_n hx hb dX8_bestRound_48 rfl (lv_at hl 0 rfl) ?_
        refine g_get hC V (ci := 8) uwX8 0 rfl rfl 1 (by decide) w_913 rfl rfl dX8_bestRound_49 ?_
        refine lv_iconst (v := (nI 0)) hx hb dX8_bestRound_52 (by decide +kernel) ?_
        refine g_iald hC V 1 rfl (vp_in_nI (by decide) (by decide)) (v := (nI n)) (by rw [nI_clamp (by decide)]; first | rfl | exact h_a.2.1) dX8_bestRound_53 ?_
        refine lv_iload_n hx hb dX8_bestRound_54 rfl (lv_at hl 1 rfl) ?_
        refine lv_imul hx hb dX8_bestRound_55 ?_
        refine g_vi (y := (nI (n * i))) (pk_mul _ _) ?_
        refine lv_bipush (v := (nI 10)) hx hb dX8_bestRound_56 (by decide +kernel) ?_
        refine lv_icmp_le (tgt := 64) hx hb dX8_bestRound_58 (by decide) (fun c_40 => ?_) (fun c_40 => ?_)
        · skip
          have c_40 := b_le (by omega) (by omega) c_40
          have hpw := pw10 c_40
          refine lv_iconst (v := (-1)) hx hb dX8_bestRound_64 (by decide +kernel) ?_
          refine lv_istore_n (lv' := [(3, .int (-1)), (0, .ref o), (1, .int (nI i)), (2, .int wh)]) hx hb dX8_bestRound_65 rfl hl (by decide) rfl (fun ls hl => ?_)
          refine lv_iconst (v := (nI 0)) hx hb dX8_bestRound_66 (by decide +kernel) ?_
          refine lv_istore (lv' := [(4, .int (nI 0)), (3, .int (-1)), (0, .ref o), (1, .int (nI i)), (2, .int wh)]) hx hb dX8_bestRound_67 hl (by decide) rfl (fun ls hl => ?_)
          have L_41 : ∀ (fu : Nat) (k69 : Nat) (x69_3 : Int32) (wv : Int32) (ga_ : Nat → Int32) (gb_ : Nat → Int32) (gc_ : Nat → Int64) (gd_ : Nat → Int64), k69 ≤ 2 ^ (n * i) → 2 ^ (n * i) - k69 < fu → ∀ (H : Heap) (locs : List Loc) (ls : Array Slot), gW D T A s [(o, .inr (8, [.int (nI 0), .ref g1, .ref g2, .ref g3, .ref g4, .int (nI tp), .int w6, .int w7, .int w8, .int w9, .int w10, .int w11, .int w12, .int w13, .int w14, .ref g15, .int w16, .ref g17, .int w18, .int w19, .ref g20, .int wv, .ref g22, .ref g23, .ref g24, .int w25, .int w26, .int w27, .ref g28, .ref g29, .int w30, .ref g31, .ref g32, .ref g33])), (g1, .inl (T 0, 282, .inl fa)), (g15, .inl (T 0, 10, .inl ga_)), (g17, .inl (T 0, 94, .inl gb_)), (g20, .inl (T 1, 10, .inr (.inl gc_))), (g22, .inl (T 1, 10, .inr (.inl gd_)))] H locs → lv_has ls 7 [(4, .int (nI k69)), (3, .int x69_3), (0, .ref o), (1, .int (nI i)), (2, .int wh)] → W p l e (rmD 4 0 0) s m args below meth c H locs 0 0 (MQ below (gQ D A (q_m_bestRound T n o le wh w0 g1 g2 g3 g4 tp w6 w7 w8 w9 w10 w11 w12 w13 w14 g15 w16 g17 w18 w19 g20 w21 g22 g23 g24 w25 w26 w27 g28 g29 w30 g31 g32 g33 fa fh fk fr fb)) args s 0 0 A) (F0 m 69 ls []) := by
            intro fu_69
            induction fu_69 with
            | zero => intro k69 x69_3 wv ga_ gb_ gc_ gd_ hk69 hmu; exact absurd hmu (Nat.not_lt_zero _)
            | succ fu_69 ih_69 =>
              intro k69 x69_3 wv ga_ gb_ gc_ gd_ hk69 hmu_69 H locs ls V hl
              refine lv_iload hx hb dX8_bestRound_69 (lv_at hl 0 rfl) ?_
              refine lv_iconst (v := (nI 1)) hx hb dX8_bestRound_71 (by decide +kernel) ?_
              refine lv_aload_n hx hb dX8_bestRound_72 rfl (lv_at hl 2 rfl) ?_
              refine g_get hC V (ci := 8) uwX8 0 rfl rfl 1 (by decide) w_913 rfl rfl dX8_bestRound_73 ?_
              refine lv_iconst (v := (nI 0)) hx hb dX8_bestRound_76 (by decide +kernel) ?_
              refine g_iald hC V 1 rfl (vp_in_nI (by decide) (by decide)) (v := (nI n)) (by rw [nI_clamp (by decide)]; first | rfl | exact h_a.2.1) dX8_bestRound_77 ?_
              refine lv_iload_n hx hb dX8_bestRound_78 rfl (lv_at hl 3 rfl) ?_
              refine lv_imul hx hb dX8_bestRound_79 ?_
              refine g_vi (y := (nI (n * i))) (pk_mul _ _) ?_
              refine lv_ishl hx hb dX8_bestRound_80 ?_
              refine g_vi (y := (nI (2 ^ (n * i)))) (shl_pow (by omega)) ?_
              refine lv_icmp_ge (tgt := 211) hx hb dX8_bestRound_81 (by decide) (fun c_42 => ?_) (fun c_42 => ?_)
              · skip
                have c_42 := b_le (by omega) (by omega) c_42
                refine lv_iload_n hx hb dX8_bestRound_211 rfl (lv_at hl 1 rfl) ?_
                refine lv_iconst (v := (-1)) hx hb dX8_bestRound_212 (by decide +kernel) ?_
                refine lv_icmp_eq (tgt := 220) hx hb dX8_bestRound_213 (by decide) (fun c_43 => ?_) (fun c_43 => ?_)
                · skip
                  refine lv_iload_n hx hb dX8_bestRound_220 rfl (lv_at hl 1 rfl) ?_
                  refine lv_goto (tgt := 234) hx hb dX8_bestRound_221 (by decide) ?_
                  exact g_iret (Qr := (q_m_bestRound T n o le wh w0 g1 g2 g3 g4 tp w6 w7 w8 w9 w10 w11 w12 w13 w14 g15 w16 g17 w18 w19 g20 w21 g22 g23 g24 w25 w26 w27 g28 g29 w30 g31 g32 g33 fa fh fk fr fb)) hC V ⟨(Nat.le_of_ble_eq_true rfl), (Nat.le_of_ble_eq_true rfl)⟩ ⟨x69_3, wv, ga_, gb_, gc_, gd_, rfl, rfl⟩ dX8_bestRound_234
                · skip
                  refine lv_iload_n hx hb dX8_bestRound_216 rfl (lv_at hl 4 rfl) ?_
                  refine lv_if_ne (tgt := 224) hx hb dX8_bestRound_217 (by decide) (fun c_44 => ?_) (fun c_44 => ?_)
                  · skip
                    refine lv_aload_n hx hb dX8_bestRound_224 rfl (lv_at hl 2 rfl) ?_
                    refine g_get hC V (ci := 8) uwX8 0 rfl rfl 22 (by decide) w_934 rfl rfl dX8_bestRound_225 ?_
                    refine lv_iload_n hx hb dX8_bestRound_228 rfl (lv_at hl 4 rfl) ?_
                    refine lv_bipush (v := (nI 10)) hx hb dX8_bestRound_229 (by decide +kernel) ?_
                    refine lv_isub hx hb dX8_bestRound_231 ?_
                    refine g_vi (y := nI jw_36) ejw_36 ?_
                    refine g_lald hC V 5 rfl (vp_in_nI (by omega) (by omega)) (v := (gd_ jw_36)) (congrArg _ (nI_clamp (by omega))) dX8_bestRound_232 ?_
                    refine lv_l2i hx hb dX8_bestRound_233 rfl ?_
                    exact g_iret (Qr := (q_m_bestRound T n o le wh w0 g1 g2 g3 g4 tp w6 w7 w8 w9 w10 w11 w12 w13 w14 g15 w16 g17 w18 w19 g20 w21 g22 g23 g24 w25 w26 w27 g28 g29 w30 g31 g32 g33 fa fh fk fr fb)) hC V ⟨(Nat.le_of_ble_eq_true rfl), (Nat.le_of_ble_eq_true rfl)⟩ ⟨((gd_ jw_36).toInt32), wv, ga_, gb_, gc_, gd_, rfl, rfl⟩ dX8_bestRound_234
                  · skip
                    refine lv_iload_n hx hb dX8_bestRound_220 rfl (lv_at hl 1 rfl) ?_
                    refine lv_goto (tgt := 234) hx hb dX8_bestRound_221 (by decide) ?_
                    exact g_iret (Qr := (q_m_bestRound T n o le wh w0 g1 g2 g3 g4 tp w6 w7 w8 w9 w10 w11 w12 w13 w14 g15 w16 g17 w18 w19 g20 w21 g22 g23 g24 w25 w26 w27 g28 g29 w30 g31 g32 g33 fa fh fk fr fb)) hC V ⟨(Nat.le_of_ble_eq_true rfl), (Nat.le_of_ble_eq_true rfl)⟩ ⟨x69_3, wv, ga_, gb_, gc_, gd_, rfl, rfl⟩ dX8_bestRound_234
              · skip
                have c_42 := b_nle (by omega) (by omega) c_42
                refine lv_iload hx hb dX8_bestRound_84 (lv_at hl 0 rfl) ?_
                refine lv_i2l (v := (nI k69).toInt64) hx hb dX8_bestRound_86 rfl ?_
                refine g_callSU (nA := 1) hC V hl.1 (m_bitsOf l D T ((nI k69).toInt64)) w_1258 w_1259 w_9 w_1260 (by decide +kernel) rfl ⟨(Nat.le_of_ble_eq_true rfl), (Nat.le_of_ble_eq_true rfl)⟩ [] rfl rfl (Nat.le_of_ble_eq_true rfl) dX8_bestRound_87 ⟨(Nat.le_of_ble_eq_true rfl), (Nat.le_of_ble_eq_true rfl)⟩ rfl (fun r w1 H locs hQ V => ?_)
                obtain ⟨z_45, rfl, rfl⟩ := hQ
                have V : gW D T A s [(o, .inr (8, [.int (nI 0), .ref g1, .ref g2, .ref g3, .ref g4, .int (nI tp), .int w6, .int w7, .int w8, .int w9, .int w10, .int w11, .int w12, .int w13, .int w14, .ref g15, .int w16, .ref g17, .int w18, .int w19, .ref g20, .int wv, .ref g22, .ref g23, .ref g24, .int w25, .int w26, .int w27, .ref g28, .ref g29, .int w30, .ref g31, .ref g32, .ref g33])), (g1, .inl (T 0, 282, .inl fa)), (g15, .inl (T 0, 10, .inl ga_)), (g17, .inl (T 0, 94, .inl gb_)), (g20, .inl (T 1, 10, .inr (.inl gc_))), (g22, .inl (T 1, 10, .inr (.inl gd_)))] H locs := V _ [] rfl rfl rfl (by decide +kernel) rfl
                show W p l e _ s m args below meth c H locs _ _ _ (F0 m 90 ls [.int z_45])
                refine lv_istore (lv' := [(5, .int z_45), (4, .int (nI k69)), (3, .int x69_3), (0, .ref o), (1, .int (nI i)), (2, .int wh)]) hx hb dX8_bestRound_90 hl (by decide) rfl (fun ls hl => ?_)
                refine lv_iload_n hx hb dX8_bestRound_92 rfl (lv_at hl 2 rfl) ?_
                refine lv_iconst (v := (-1)) hx hb dX8_bestRound_93 (by decide +kernel) ?_
                refine lv_icmp_eq (tgt := 106) hx hb dX8_bestRound_94 (by decide) (fun c_46 => ?_) (fun c_46 => ?_)
                · skip
                  refine lv_iconst (v := (nI 0)) hx hb dX8_bestRound_106 (by decide +kernel) ?_
                  refine lv_istore (lv' := [(6, .int (nI 0)), (5, .int z_45), (4, .int (nI k69)), (3, .int x69_3), (0, .ref o), (1, .int (nI i)), (2, .int wh)]) hx hb dX8_bestRound_107 hl (by decide) rfl (fun ls hl => ?_)
                  have L_47 : ∀ (fu : Nat) (k109 : Nat) (ge_ : Nat → Int64), k109 ≤ n → n - k109 < fu → ∀ (H : Heap) (locs : List Loc) (ls : Array Slot), gW D T A s [(o, .inr (8, [.int (nI 0), .ref g1, .ref g2, .ref g3, .ref g4, .int (nI tp), .int w6, .int w7, .int w8, .int w9, .int w10, .int w11, .int w12, .int w13, .int w14, .ref g15, .int w16, .ref g17, .int w18, .int w19, .ref g20, .int wv, .ref g22, .ref g23, .ref g24, .int w25, .int w26, .int w27, .ref g28, .ref g29, .int w30, .ref g31, .ref g32, .ref g33])), (g1, .inl (T 0, 282, .inl fa)), (g15, .inl (T 0, 10, .inl ga_)), (g17, .inl (T 0, 94, .inl gb_)), (g20, .inl (T 1, 10, .inr (.inl ge_))), (g22, .inl (T 1, 10, .inr (.inl gd_)))] H locs → lv_has ls 7 [(6, .int (nI k109)), (5, .int z_45), (4, .int (nI k69)), (3, .int x69_3), (0, .ref o), (1, .int (nI i)), (2, .int wh)] → W p l e (rmD 4 0 0) s m args below meth c H locs 0 0 (MQ below (gQ D A (q_m_bestRound T n o le wh w0 g1 g2 g3 g4 tp w6 w7 w8 w9 w10 w11 w12 w13 w14 g15 w16 g17 w18 w19 g20 w21 g22 g23 g24 w25 w26 w27 g28 g29 w30 g31 g32 g33 fa fh fk fr fb)) args s 0 0 A) (F0 m 109 ls []) := by
                    intro fu_109
                    induction fu_109 with
                    | zero => intro k109 ge_ hk109 hmu; exact absurd hmu (Nat.not_lt_zero _)
                    | succ fu_109 ih_109 =>
                      intro k109 ge_ hk109 hmu_109 H locs ls V hl
                      refine lv_iload hx hb dX8_bestRound_109 (lv_at hl 0 rfl) ?_
                      refine lv_aload_n hx hb dX8_bestRound_111 rfl (lv_at hl 4 rfl) ?_
                      refine g_get hC V (ci := 8) uwX8 0 rfl rfl 1 (by decide) w_913 rfl rfl dX8_bestRound_112 ?_
                      refine lv_iconst (v := (nI 0)) hx hb dX8_bestRound_115 (by decide +kernel) ?_
                      refine g_iald hC V 1 rfl (vp_in_nI (by decide) (by decide)) (v := (nI n)) (by rw [nI_clamp (by decide)]; first | rfl | exact h_a.2.1) dX8_bestRound_116 ?_
                      refine lv_icmp_ge (tgt := 156) hx hb dX8_bestRound_117 (by decide) (fun c_48 => ?_) (fun c_48 => ?_)
                      · skip
                        have c_48 := b_le (by omega) (by omega) c_48
                        refine lv_aload_n hx hb dX8_bestRound_156 rfl (lv_at hl 4 rfl) ?_
                        refine lv_iload_n hx hb dX8_bestRound_157 rfl (lv_at hl 5 rfl) ?_
                        refine g_callVU (nA := 1) hC V hl.1 (m_holdsBy l D T n o i (nI 0) g1 g2 g3 g4 tp w6 w7 w8 w9 w10 w11 w12 w13 w14 g15 w16 g17 w18 w19 g20 wv g22 g23 g24 w25 w26 w27 g28 g29 w30 g31 g32 g33 fa ga_ gb_ ge_ h_a ⟨by omega, by omega⟩) w_1229 w_1231 w_s64 w_9 w_1232 (by decide +kernel) rfl ⟨(Nat.le_of_ble_eq_true rfl), (Nat.le_of_ble_eq_true rfl)⟩ 0 (ci := 8) rfl rfl [0, 1, 2, 3, 4] rfl rfl (Nat.le_of_ble_eq_true rfl) dX8_bestRound_158 ⟨(Nat.le_of_ble_eq_true rfl), (Nat.le_of_ble_eq_true rfl)⟩ rfl (fun r w1 H locs hQ V => ?_)
                        obtain ⟨z_49, wq_50, gh_51, gk_52, rfl, rfl⟩ := hQ
                        have V : gW D T A s [(o, .inr (8, [.int (nI 0), .ref g1, .ref g2, .ref g3, .ref g4, .int (nI tp), .int w6, .int w7, .int w8, .int w9, .int w10, .int w11, .int w12, .int w13, .int w14, .ref g15, .int w16, .ref g17, .int w18, .int w19, .ref g20, .int wq_50, .ref g22, .ref g23, .ref g24, .int w25, .int w26, .int w27, .ref g28, .ref g29, .int w30, .ref g31, .ref g32, .ref g33])), (g1, .inl (T 0, 282, .inl fa)), (g15, .inl (T 0, 10, .inl gh_51)), (g17, .inl (T 0, 94, .inl gk_52)), (g20, .inl (T 1, 10, .inr (.inl ge_))), (g22, .inl (T 1, 10, .inr (.inl gd_)))] H locs := V _ [0, 0, 0, 0, 0] rfl rfl rfl (by decide +kernel) rfl
                        show W p l e _ s m args below meth c H locs _ _ _ (F0 m 161 ls [.int z_49])
                        refine lv_iconst (v := (-1)) hx hb dX8_bestRound_161 (by decide +kernel) ?_
                        refine lv_icmp_eq (tgt := 168) hx hb dX8_bestRound_162 (by decide) (fun c_53 => ?_) (fun c_53 => ?_)
                        · skip
                          refine lv_iload hx hb dX8_bestRound_168 (lv_at hl 1 rfl) ?_
                          refine lv_istore_n (lv' := [(3, .int z_45), (6, .int (nI k109)), (5, .int z_45), (4, .int (nI k69)), (0, .ref o), (1, .int (nI i)), (2, .int wh)]) hx hb dX8_bestRound_170 rfl hl (by decide) rfl (fun ls hl => ?_)
                          refine lv_iconst (v := (nI 0)) hx hb dX8_bestRound_171 (by decide +kernel) ?_
                          refine lv_istore (lv' := [(6, .int (nI 0)), (3, .int z_45), (5, .int z_45), (4, .int (nI k69)), (0, .ref o), (1, .int (nI i)), (2, .int wh)]) hx hb dX8_bestRound_172 hl (by decide) rfl (fun ls hl => ?_)
                          have L_54 : ∀ (fu : Nat) (k174 : Nat) (gf_ : Nat → Int64), k174 ≤ n → n - k174 < fu → ∀ (H : Heap) (locs : List Loc) (ls : Array Slot), gW D T A s [(o, .inr (8, [.int (nI 0), .ref g1, .ref g2, .ref g3, .ref g4, .int (nI tp), .int w6, .int w7, .int w8, .int w9, .int w10, .int w11, .int w12, .int w13, .int w14, .ref g15, .int w16, .ref g17, .int w18, .int w19, .ref g20, .int wq_50, .ref g22, .ref g23, .ref g24, .int w25, .int w26, .int w27, .ref g28, .ref g29, .int w30, .ref g31, .ref g32, .ref g33])), (g1, .inl (T 0, 282, .inl fa)), (g15, .inl (T 0, 10, .inl gh_51)), (g17, .inl (T 0, 94, .inl gk_52)), (g20, .inl (T 1, 10, .inr (.inl ge_))), (g22, .inl (T 1, 10, .inr (.inl gf_)))] H locs → lv_has ls 7 [(6, .int (nI k174)), (3, .int z_45), (5, .int z_45), (4, .int (nI k69)), (0, .ref o), (1, .int (nI i)), (2, .int wh)] → W p l e (rmD 4 0 0) s m args below meth c H locs 0 0 (MQ below (gQ D A (q_m_bestRound T n o le wh w0 g1 g2 g3 g4 tp w6 w7 w8 w9 w10 w11 w12 w13 w14 g15 w16 g17 w18 w19 g20 w21 g22 g23 g24 w25 w26 w27 g28 g29 w30 g31 g32 g33 fa fh fk fr fb)) args s 0 0 A) (F0 m 174 ls []) := by
                            intro fu_174
                            induction fu_174 with
                            | zero => intro k174 gf_ hk174 hmu; exact absurd hmu (Nat.not_lt_zero _)
                            | succ fu_174 ih_174 =>
                              intro k174 gf_ hk174 hmu_174 H locs ls V hl
                              refine lv_iload hx hb dX8_bestRound_174 (lv_at hl 0 rfl) ?_
                              refine lv_aload_n hx hb dX8_bestRound_176 rfl (lv_at hl 4 rfl) ?_
                              refine g_get hC V (ci := 8) uwX8 0 rfl rfl 1 (by decide) w_913 rfl rfl dX8_bestRound_177 ?_
                              refine lv_iconst (v := (nI 0)) hx hb dX8_bestRound_180 (by decide +kernel) ?_
                              refine g_iald hC V 1 rfl (vp_in_nI (by decide) (by decide)) (v := (nI n)) (by rw [nI_clamp (by decide)]; first | rfl | exact h_a.2.1) dX8_bestRound_181 ?_
                              refine lv_icmp_ge (tgt := 205) hx hb dX8_bestRound_182 (by decide) (fun c_55 => ?_) (fun c_55 => ?_)
                              · skip
                                have c_55 := b_le (by omega) (by omega) c_55
                                refine lv_iinc (v := (nI (k69 + 1))) (lv' := [(4, .int (nI (k69 + 1))), (6, .int (nI k174)), (3, .int z_45), (5, .int z_45), (0, .ref o), (1, .int (nI i)), (2, .int wh)]) hx hb dX8_bestRound_205 hl (k := 3) rfl (nI_1 _) (by decide) rfl (fun ls hl => ?_)
                                refine lv_goto (tgt := 69) hx hb dX8_bestRound_208 (by decide) ?_
                                exact ih_69 (k69 + 1) z_45 wq_50 gh_51 gk_52 ge_ gf_ (by omega) (by omega) _ _ _ V (lv_sub hl [0, 2, 4, 5, 6] rfl)
                              · skip
                                have c_55 := b_nle (by omega) (by omega) c_55
                                refine lv_aload_n hx hb dX8_bestRound_185 rfl (lv_at hl 4 rfl) ?_
                                refine g_get hC V (ci := 8) uwX8 0 rfl rfl 22 (by decide) w_934 rfl rfl dX8_bestRound_186 ?_
                                refine lv_iload hx hb dX8_bestRound_189 (lv_at hl 0 rfl) ?_
                                refine lv_aload_n hx hb dX8_bestRound_191 rfl (lv_at hl 4 rfl) ?_
                                refine g_get hC V (ci := 8) uwX8 0 rfl rfl 20 (by decide) w_932 rfl rfl dX8_bestRound_192 ?_
                                refine lv_iload hx hb dX8_bestRound_195 (lv_at hl 0 rfl) ?_
                                refine g_lald hC V 4 rfl (vp_in_nI (by omega) (by omega)) (v := (ge_ k174)) (congrArg _ (nI_clamp (by omega))) dX8_bestRound_197 ?_
                                refine g_last hC V 5 rfl (vp_in_nI (by omega) (by omega)) (f' := (vp_updL gf_ k174 (ge_ k174))) (by rw [nI_clamp (by omega)]) (ws' := [(o, .inr (8, [.int (nI 0), .ref g1, .ref g2, .ref g3, .ref g4, .int (nI tp), .int w6, .int w7, .int w8, .int w9, .int w10, .int w11, .int w12, .int w13, .int w14, .ref g15, .int w16, .ref g17, .int w18, .int w19, .ref g20, .int wq_50, .ref g22, .ref g23, .ref g24, .int w25, .int w26, .int w27, .ref g28, .ref g29, .int w30, .ref g31, .ref g32, .ref g33])), (g1, .inl (T 0, 282, .inl fa)), (g15, .inl (T 0, 10, .inl gh_51)), (g17, .inl (T 0, 94, .inl gk_52)), (g20, .inl (T 1, 10, .inr (.inl ge_))), (g22, .inl (T 1, 10, .inr (.inl (vp_updL gf_ k174 (ge_ k174)))))]) rfl dX8_bestRound_198 (fun H locs V => ?_)
                                refine lv_iinc (v := (nI (k174 + 1))) (lv' := [(6, .int (nI (k174 + 1))), (3, .int z_45), (5, .int z_45), (4, .int (nI k69)), (0, .ref o), (1, .int (nI i)), (2, .int wh)]) hx hb dX8_bestRound_199 hl (k := 0) rfl (nI_1 _) (by decide) rfl (fun ls hl => ?_)
                                refine lv_goto (tgt := 174) hx hb dX8_bestRound_202 (by decide) ?_
                                exact ih_174 (k174 + 1) (vp_updL gf_ k174 (ge_ k174)) (by omega) (by omega) _ _ _ V (lv_sub hl [0, 1, 2, 3, 4, 5, 6] rfl)
                          exact L_54 _ 0 gd_ (by omega) (Nat.lt_succ_self _) _ _ _ V (lv_sub hl [0, 1, 2, 3, 4, 5, 6] rfl)
                        · skip
                          refine lv_goto (tgt := 205) hx hb dX8_bestRound_165 (by decide) ?_
                          refine lv_iinc (v := (nI (k69 + 1))) (lv' := [(4, .int (nI (k69 + 1))), (6, .int (nI k109)), (5, .int z_45), (3, .int x69_3), (0, .ref o), (1, .int (nI i)), (2, .int wh)]) hx hb dX8_bestRound_205 hl (k := 2) rfl (nI_1 _) (by decide) rfl (fun ls hl => ?_)
                          refine lv_goto (tgt := 69) hx hb dX8_bestRound_208 (by decide) ?_
                          exact ih_69 (k69 + 1) x69_3 wq_50 gh_51 gk_52 ge_ gd_ (by omega) (by omega) _ _ _ V (lv_sub hl [0, 3, 4, 5, 6] rfl)
                      · skip
                        have c_48 := b_nle (by omega) (by omega) c_48
                        refine lv_aload_n hx hb dX8_bestRound_120 rfl (lv_at hl 4 rfl) ?_
                        refine g_get hC V (ci := 8) uwX8 0 rfl rfl 20 (by decide) w_932 rfl rfl dX8_bestRound_121 ?_
                        refine lv_iload hx hb dX8_bestRound_124 (lv_at hl 0 rfl) ?_
                        refine lv_iload hx hb dX8_bestRound_126 (lv_at hl 2 rfl) ?_
                        refine lv_aload_n hx hb dX8_bestRound_128 rfl (lv_at hl 4 rfl) ?_
                        refine g_get hC V (ci := 8) uwX8 0 rfl rfl 1 (by decide) w_913 rfl rfl dX8_bestRound_129 ?_
                        refine lv_iconst (v := (nI 0)) hx hb dX8_bestRound_132 (by decide +kernel) ?_
                        refine g_iald hC V 1 rfl (vp_in_nI (by decide) (by decide)) (v := (nI n)) (by rw [nI_clamp (by decide)]; first | rfl | exact h_a.2.1) dX8_bestRound_133 ?_
                        refine lv_iconst (v := (nI 1)) hx hb dX8_bestRound_134 (by decide +kernel) ?_
                        refine lv_isub hx hb dX8_bestRound_135 ?_
                        refine lv_iload hx hb dX8_bestRound_136 (lv_at hl 0 rfl) ?_
                        refine lv_isub hx hb dX8_bestRound_138 ?_
                        refine lv_iload_n hx hb dX8_bestRound_139 rfl (lv_at hl 5 rfl) ?_
                        refine lv_imul hx hb dX8_bestRound_140 ?_
                        refine lv_ishr hx hb dX8_bestRound_141 ?_
                        refine lv_topi (fun x_56 ex_56 => ?_)
                        refine lv_iconst (v := (nI 1)) hx hb dX8_bestRound_142 (by decide +kernel) ?_
                        refine lv_iload_n hx hb dX8_bestRound_143 rfl (lv_at hl 5 rfl) ?_
                        refine lv_ishl hx hb dX8_bestRound_144 ?_
                        refine lv_iconst (v := (nI 1)) hx hb dX8_bestRound_145 (by decide +kernel) ?_
                        refine lv_isub hx hb dX8_bestRound_146 ?_
                        refine lv_iand hx hb dX8_bestRound_147 ?_
                        refine lv_i2l (v := (x_56 &&& (((nI 1) <<< ((nI i) &&& 31)) - (nI 1))).toInt64) hx hb dX8_bestRound_148 rfl ?_
                        refine g_last hC V 4 rfl (vp_in_nI (by omega) (by omega)) (f' := (vp_updL ge_ k109 ((x_56 &&& (((nI 1) <<< ((nI i) &&& 31)) - (nI 1))).toInt64))) (by rw [nI_clamp (by omega)]) (ws' := [(o, .inr (8, [.int (nI 0), .ref g1, .ref g2, .ref g3, .ref g4, .int (nI tp), .int w6, .int w7, .int w8, .int w9, .int w10, .int w11, .int w12, .int w13, .int w14, .ref g15, .int w16, .ref g17, .int w18, .int w19, .ref g20, .int wv, .ref g22, .ref g23, .ref g24, .int w25, .int w26, .int w27, .ref g28, .ref g29, .int w30, .ref g31, .ref g32, .ref g33])), (g1, .inl (T 0, 282, .inl fa)), (g15, .inl (T 0, 10, .inl ga_)), (g17, .inl (T 0, 94, .inl gb_)), (g20, .inl (T 1, 10, .inr (.inl (vp_updL ge_ k109 ((x_56 &&& (((nI 1) <<< ((nI i) &&& 31)) - (nI 1))).toInt64))))), (g22, .inl (T 1, 10, .inr (.inl gd_)))]) rfl dX8_bestRound_149 (fun H locs V => ?_)
                        refine lv_iinc (v := (nI (k109 + 1))) (lv' := [(6, .int (nI (k109 + 1))), (5, .int z_45), (4, .int (nI k69)), (3, .int x69_3), (0, .ref o), (1, .int (nI i)), (2, .int wh)]) hx hb dX8_bestRound_150 hl (k := 0) rfl (nI_1 _) (by decide) rfl (fun ls hl => ?_)
                        refine lv_goto (tgt := 109) hx hb dX8_bestRound_153 (by decide) ?_
                        exact ih_109 (k109 + 1) (vp_updL ge_ k109 ((x_56 &&& (((nI 1) <<< ((nI i) &&& 31)) - (nI 1))).toInt64)) (by omega) (by omega) _ _ _ V (lv_sub hl [0, 1, 2, 3, 4, 5, 6] rfl)
                  exact L_47 _ 0 gc_ (by omega) (Nat.lt_succ_self _) _ _ _ V (lv_sub hl [0, 1, 2, 3, 4, 5, 6] rfl)
                · skip
                  refine lv_iload hx hb dX8_bestRound_97 (lv_at hl 0 rfl) ?_
                  refine lv_iload_n hx hb dX8_bestRound_99 rfl (lv_at hl 2 rfl) ?_
                  refine lv_icmp_lt (tgt := 106) hx hb dX8_bestRound_100 (by decide) (fun c_57 => ?_) (fun c_57 => ?_)
                  · skip
                    refine lv_iconst (v := (nI 0)) hx hb dX8_bestRound_106 (by decide +kernel) ?_
                    refine lv_istore (lv' := [(6, .int (nI 0)), (5, .int z_45), (4, .int (nI k69)), (3, .int x69_3), (0, .ref o), (1, .int (nI i)), (2, .int wh)]) hx hb dX8_bestRound_107 hl (by decide) rfl (fun ls hl => ?_)
                    have L_58 : ∀ (fu : Nat) (k109 : Nat) (ge_ : Nat → Int64), k109 ≤ n → n - k109 < fu → ∀ (H : Heap) (locs : List Loc) (ls : Array Slot), gW D T A s [(o, .inr (8, [.int (nI 0), .ref g1, .ref g2, .ref g3, .ref g4, .int (nI tp), .int w6, .int w7, .int w8, .int w9, .int w10, .int w11, .int w12, .int w13, .int w14, .ref g15, .int w16, .ref g17, .int w18, .int w19, .ref g20, .int wv, .ref g22, .ref g23, .ref g24, .int w25, .int w26, .int w27, .ref g28, .ref g29, .int w30, .ref g31, .ref g32, .ref g33])), (g1, .inl (T 0, 282, .inl fa)), (g15, .inl (T 0, 10, .inl ga_)), (g17, .inl (T 0, 94, .inl gb_)), (g20, .inl (T 1, 10, .inr (.inl ge_))), (g22, .inl (T 1, 10, .inr (.inl gd_)))] H locs → lv_has ls 7 [(6, .int (nI k109)), (5, .int z_45), (4, .int (nI k69)), (3, .int x69_3), (0, .ref o), (1, .int (nI i)), (2, .int wh)] → W p l e (rmD 4 0 0) s m args below meth c H locs 0 0 (MQ below (gQ D A (q_m_bestRound T n o le wh w0 g1 g2 g3 g4 tp w6 w7 w8 w9 w10 w11 w12 w13 w14 g15 w16 g17 w18 w19 g20 w21 g22 g23 g24 w25 w26 w27 g28 g29 w30 g31 g32 g33 fa fh fk fr fb)) args s 0 0 A) (F0 m 109 ls []) := by
                      intro fu_109
                      induction fu_109 with
                      | zero => intro k109 ge_ hk109 hmu; exact absurd hmu (Nat.not_lt_zero _)
                      | succ fu_109 ih_109 =>
                        intro k109 ge_ hk109 hmu_109 H locs ls V hl
                        refine lv_iload hx hb dX8_bestRound_109 (lv_at hl 0 rfl) ?_
                        refine lv_aload_n hx hb dX8_bestRound_111 rfl (lv_at hl 4 rfl) ?_
                        refine g_get hC V (ci := 8) uwX8 0 rfl rfl 1 (by decide) w_913 rfl rfl dX8_bestRound_112 ?_
                        refine lv_iconst (v := (nI 0)) hx hb dX8_bestRound_115 (by decide +kernel) ?_
                        refine g_iald hC V 1 rfl (vp_in_nI (by decide) (by decide)) (v := (nI n)) (by rw [nI_clamp (by decide)]; first | rfl | exact h_a.2.1) dX8_bestRound_116 ?_
                        refine lv_icmp_ge (tgt := 156) hx hb dX8_bestRound_117 (by decide) (fun c_59 => ?_) (fun c_59 => ?_)
                        · skip
                          have c_59 := b_le (by omega) (by omega) c_59
                          refine lv_aload_n hx hb dX8_bestRound_156 rfl (lv_at hl 4 rfl) ?_
                          refine lv_iload_n hx hb dX8_bestRound_157 rfl (lv_at hl 5 rfl) ?_
                          refine g_callVU (nA := 1) hC V hl.1 (m_holdsBy l D T n o i (nI 0) g1 g2 g3 g4 tp w6 w7 w8 w9 w10 w11 w12 w13 w14 g15 w16 g17 w18 w19 g20 wv g22 g23 g24 w25 w26 w27 g28 g29 w30 g31 g32 g33 fa ga_ gb_ ge_ h_a ⟨by omega, by omega⟩) w_1229 w_1231 w_s64 w_9 w_1232 (by decide +kernel) rfl ⟨(Nat.le_of_ble_eq_true rfl), (Nat.le_of_ble_eq_true rfl)⟩ 0 (ci := 8) rfl rfl [0, 1, 2, 3, 4] rfl rfl (Nat.le_of_ble_eq_true rfl) dX8_bestRound_158 ⟨(Nat.le_of_ble_eq_true rfl), (Nat.le_of_ble_eq_true rfl)⟩ rfl (fun r w1 H locs hQ V => ?_)
                          obtain ⟨z_60, wq_61, gh_62, gk_63, rfl, rfl⟩ := hQ
                          have V : gW D T A s [(o, .inr (8, [.int (nI 0), .ref g1, .ref g2, .ref g3, .ref g4, .int (nI tp), .int w6, .int w7, .int w8, .int w9, .int w10, .int w11, .int w12, .int w13, .int w14, .ref g15, .int w16, .ref g17, .int w18, .int w19, .ref g20, .int wq_61, .ref g22, .ref g23, .ref g24, .int w25, .int w26, .int w27, .ref g28, .ref g29, .int w30, .ref g31, .ref g32, .ref g33])), (g1, .inl (T 0, 282, .inl fa)), (g15, .inl (T 0, 10, .inl gh_62)), (g17, .inl (T 0, 94, .inl gk_63)), (g20, .inl (T 1, 10, .inr (.inl ge_))), (g22, .inl (T 1, 10, .inr (.inl gd_)))] H locs := V _ [0, 0, 0, 0, 0] rfl rfl rfl (by decide +kernel) rfl
                          show W p l e _ s m args below meth c H locs _ _ _ (F0 m 161 ls [.int z_60])
                          refine lv_iconst (v := (-1)) hx hb dX8_bestRound_161 (by decide +kernel) ?_
                          refine lv_icmp_eq (tgt := 168) hx hb dX8_bestRound_162 (by decide) (fun c_64 => ?_) (fun c_64 => ?_)
                          · skip
                            refine lv_iload hx hb dX8_bestRound_168 (lv_at hl 1 rfl) ?_
                            refine lv_istore_n (lv' := [(3, .int z_45), (6, .int (nI k109)), (5, .int z_45), (4, .int (nI k69)), (0, .ref o), (1, .int (nI i)), (2, .int wh)]) hx hb dX8_bestRound_170 rfl hl (by decide) rfl (fun ls hl => ?_)
                            refine lv_iconst (v := (nI 0)) hx hb dX8_bestRound_171 (by decide +kernel) ?_
                            refine lv_istore (lv' := [(6, .int (nI 0)), (3, .int z_45), (5, .int z_45), (4, .int (nI k69)), (0, .ref o), (1, .int (nI i)), (2, .int wh)]) hx hb dX8_bestRound_172 hl (by decide) rfl (fun ls hl => ?_)
                            have L_65 : ∀ (fu : Nat) (k174 : Nat) (gf_ : Nat → Int64), k174 ≤ n → n - k174 < fu → ∀ (H : Heap) (locs : List Loc) (ls : Array Slot), gW D T A s [(o, .inr (8, [.int (nI 0), .ref g1, .ref g2, .ref g3, .ref g4, .int (nI tp), .int w6, .int w7, .int w8, .int w9, .int w10, .int w11, .int w12, .int w13, .int w14, .ref g15, .int w16, .ref g17, .int w18, .int w19, .ref g20, .int wq_61, .ref g22, .ref g23, .ref g24, .int w25, .int w26, .int w27, .ref g28, .ref g29, .int w30, .ref g31, .ref g32, .ref g33])), (g1, .inl (T 0, 282, .inl fa)), (g15, .inl (T 0, 10, .inl gh_62)), (g17, .inl (T 0, 94, .inl gk_63)), (g20, .inl (T 1, 10, .inr (.inl ge_))), (g22, .inl (T 1, 10, .inr (.inl gf_)))] H locs → lv_has ls 7 [(6, .int (nI k174)), (3, .int z_45), (5, .int z_45), (4, .int (nI k69)), (0, .ref o), (1, .int (nI i)), (2, .int wh)] → W p l e (rmD 4 0 0) s m args below meth c H locs 0 0 (MQ below (gQ D A (q_m_bestRound T n o le wh w0 g1 g2 g3 g4 tp w6 w7 w8 w9 w10 w11 w12 w13 w14 g15 w16 g17 w18 w19 g20 w21 g22 g23 g24 w25 w26 w27 g28 g29 w30 g31 g32 g33 fa fh fk fr fb)) args s 0 0 A) (F0 m 174 ls []) := by
                              intro fu_174
                              induction fu_174 with
                              | zero => intro k174 gf_ hk174 hmu; exact absurd hmu (Nat.not_lt_zero _)
                              | succ fu_174 ih_174 =>
                                intro k174 gf_ hk174 hmu_174 H locs ls V hl
                                refine lv_iload hx hb dX8_bestRound_174 (lv_at hl 0 rfl) ?_
                                refine lv_aload_n hx hb dX8_bestRound_176 rfl (lv_at hl 4 rfl) ?_
                                refine g_get hC V (ci := 8) uwX8 0 rfl rfl 1 (by decide) w_913 rfl rfl dX8_bestRound_177 ?_
                                refine lv_iconst (v := (nI 0)) hx hb dX8_bestRound_180 (by decide +kernel) ?_
                                refine g_iald hC V 1 rfl (vp_in_nI (by decide) (by decide)) (v := (nI n)) (by rw [nI_clamp (by decide)]; first | rfl | exact h_a.2.1) dX8_bestRound_181 ?_
                                refine lv_icmp_ge (tgt := 205) hx hb dX8_bestRound_182 (by decide) (fun c_66 => ?_) (fun c_66 => ?_)
                                · skip
                                  have c_66 := b_le (by omega) (by omega) c_66
                                  refine lv_iinc (v := (nI (k69 + 1))) (lv' := [(4, .int (nI (k69 + 1))), (6, .int (nI k174)), (3, .int z_45), (5, .int z_45), (0, .ref o), (1, .int (nI i)), (2, .int wh)]) hx hb dX8_bestRound_205 hl (k := 3) rfl (nI_1 _) (by decide) rfl (fun ls hl => ?_)
                                  refine lv_goto (tgt := 69) hx hb dX8_bestRound_208 (by decide) ?_
                                  exact ih_69 (k69 + 1) z_45 wq_61 gh_62 gk_63 ge_ gf_ (by omega) (by omega) _ _ _ V (lv_sub hl [0, 2, 4, 5, 6] rfl)
                                · skip
                                  have c_66 := b_nle (by omega) (by omega) c_66
                                  refine lv_aload_n hx hb dX8_bestRound_185 rfl (lv_at hl 4 rfl) ?_
                                  refine g_get hC V (ci := 8) uwX8 0 rfl rfl 22 (by decide) w_934 rfl rfl dX8_bestRound_186 ?_
                                  refine lv_iload hx hb dX8_bestRound_189 (lv_at hl 0 rfl) ?_
                                  refine lv_aload_n hx hb dX8_bestRound_191 rfl (lv_at hl 4 rfl) ?_
                                  refine g_get hC V (ci := 8) uwX8 0 rfl rfl 20 (by decide) w_932 rfl rfl dX8_bestRound_192 ?_
                                  refine lv_iload hx hb dX8_bestRound_195 (lv_at hl 0 rfl) ?_
                                  refine g_lald hC V 4 rfl (vp_in_nI (by omega) (by omega)) (v := (ge_ k174)) (congrArg _ (nI_clamp (by omega))) dX8_bestRound_197 ?_
                                  refine g_last hC V 5 rfl (vp_in_nI (by omega) (by omega)) (f' := (vp_updL gf_ k174 (ge_ k174))) (by rw [nI_clamp (by omega)]) (ws' := [(o, .inr (8, [.int (nI 0), .ref g1, .ref g2, .ref g3, .ref g4, .int (nI tp), .int w6, .int w7, .int w8, .int w9, .int w10, .int w11, .int w12, .int w13, .int w14, .ref g15, .int w16, .ref g17, .int w18, .int w19, .ref g20, .int wq_61, .ref g22, .ref g23, .ref g24, .int w25, .int w26, .int w27, .ref g28, .ref g29, .int w30, .ref g31, .ref g32, .ref g33])), (g1, .inl (T 0, 282, .inl fa)), (g15, .inl (T 0, 10, .inl gh_62)), (g17, .inl (T 0, 94, .inl gk_63)), (g20, .inl (T 1, 10, .inr (.inl ge_))), (g22, .inl (T 1, 10, .inr (.inl (vp_updL gf_ k174 (ge_ k174)))))]) rfl dX8_bestRound_198 (fun H locs V => ?_)
                                  refine lv_iinc (v := (nI (k174 + 1))) (lv' := [(6, .int (nI (k174 + 1))), (3, .int z_45), (5, .int z_45), (4, .int (nI k69)), (0, .ref o), (1, .int (nI i)), (2, .int wh)]) hx hb dX8_bestRound_199 hl (k := 0) rfl (nI_1 _) (by decide) rfl (fun ls hl => ?_)
                                  refine lv_goto (tgt := 174) hx hb dX8_bestRound_202 (by decide) ?_
                                  exact ih_174 (k174 + 1) (vp_updL gf_ k174 (ge_ k174)) (by omega) (by omega) _ _ _ V (lv_sub hl [0, 1, 2, 3, 4, 5, 6] rfl)
                            exact L_65 _ 0 gd_ (by omega) (Nat.lt_succ_self _) _ _ _ V (lv_sub hl [0, 1, 2, 3, 4, 5, 6] rfl)
                          · skip
                            refine lv_goto (tgt := 205) hx hb dX8_bestRound_165 (by decide) ?_
                            refine lv_iinc (v := (nI (k69 + 1))) (lv' := [(4, .int (nI (k69 + 1))), (6, .int (nI k109)), (5, .int z_45), (3, .int x69_3), (0, .ref o), (1, .int (nI i)), (2, .int wh)]) hx hb dX8_bestRound_205 hl (k := 2) rfl (nI_1 _) (by decide) rfl (fun ls hl => ?_)
                            refine lv_goto (tgt := 69) hx hb dX8_bestRound_208 (by decide) ?_
                            exact ih_69 (k69 + 1) x69_3 wq_61 gh_62 gk_63 ge_ gd_ (by omega) (by omega) _ _ _ V (lv_sub hl [0, 3, 4, 5, 6] rfl)
                        · skip
                          have c_59 := b_nle (by omega) (by omega) c_59
                          refine lv_aload_n hx hb dX8_bestRound_120 rfl (lv_at hl 4 rfl) ?_
                          refine g_get hC V (ci := 8) uwX8 0 rfl rfl 20 (by decide) w_932 rfl rfl dX8_bestRound_121 ?_
                          refine lv_iload hx hb dX8_bestRound_124 (lv_at hl 0 rfl) ?_
                          refine lv_iload hx hb dX8_bestRound_126 (lv_at hl 2 rfl) ?_
                          refine lv_aload_n hx hb dX8_bestRound_128 rfl (lv_at hl 4 rfl) ?_
                          refine g_get hC V (ci := 8) uwX8 0 rfl rfl 1 (by decide) w_913 rfl rfl dX8_bestRound_129 ?_
                          refine lv_iconst (v := (nI 0)) hx hb dX8_bestRound_132 (by decide +kernel) ?_
                          refine g_iald hC V 1 rfl (vp_in_nI (by decide) (by decide)) (v := (nI n)) (by rw [nI_clamp (by decide)]; first | rfl | exact h_a.2.1) dX8_bestRound_133 ?_
                          refine lv_iconst (v := (nI 1)) hx hb dX8_bestRound_134 (by decide +kernel) ?_
                          refine lv_isub hx hb dX8_bestRound_135 ?_
                          refine lv_iload hx hb dX8_bestRound_136 (lv_at hl 0 rfl) ?_
                          refine lv_isub hx hb dX8_bestRound_138 ?_
                          refine lv_iload_n hx hb dX8_bestRound_139 rfl (lv_at hl 5 rfl) ?_
                          refine lv_imul hx hb dX8_bestRound_140 ?_
                          refine lv_ishr hx hb dX8_bestRound_141 ?_
                          refine lv_topi (fun x_67 ex_67 => ?_)
                          refine lv_iconst (v := (nI 1)) hx hb dX8_bestRound_142 (by decide +kernel) ?_
                          refine lv_iload_n hx hb dX8_bestRound_143 rfl (lv_at hl 5 rfl) ?_
                          refine lv_ishl hx hb dX8_bestRound_144 ?_
                          refine lv_iconst (v := (nI 1)) hx hb dX8_bestRound_145 (by decide +kernel) ?_
                          refine lv_isub hx hb dX8_bestRound_146 ?_
                          refine lv_iand hx hb dX8_bestRound_147 ?_
                          refine lv_i2l (v := (x_67 &&& (((nI 1) <<< ((nI i) &&& 31)) - (nI 1))).toInt64) hx hb dX8_bestRound_148 rfl ?_
                          refine g_last hC V 4 rfl (vp_in_nI (by omega) (by omega)) (f' := (vp_updL ge_ k109 ((x_67 &&& (((nI 1) <<< ((nI i) &&& 31)) - (nI 1))).toInt64))) (by rw [nI_clamp (by omega)]) (ws' := [(o, .inr (8, [.int (nI 0), .ref g1, .ref g2, .ref g3, .ref g4, .int (nI tp), .int w6, .int w7, .int w8, .int w9, .int w10, .int w11, .int w12, .int w13, .int w14, .ref g15, .int w16, .ref g17, .int w18, .int w19, .ref g20, .int wv, .ref g22, .ref g23, .ref g24, .int w25, .int w26, .int w27, .ref g28, .ref g29, .int w30, .ref g31, .ref g32, .ref g33])), (g1, .inl (T 0, 282, .inl fa)), (g15, .inl (T 0, 10, .inl ga_)), (g17, .inl (T 0, 94, .inl gb_)), (g20, .inl (T 1, 10, .inr (.inl (vp_updL ge_ k109 ((x_67 &&& (((nI 1) <<< ((nI i) &&& 31)) - (nI 1))).toInt64))))), (g22, .inl (T 1, 10, .inr (.inl gd_)))]) rfl dX8_bestRound_149 (fun H locs V => ?_)
                          refine lv_iinc (v := (nI (k109 + 1))) (lv' := [(6, .int (nI (k109 + 1))), (5, .int z_45), (4, .int (nI k69)), (3, .int x69_3), (0, .ref o), (1, .int (nI i)), (2, .int wh)]) hx hb dX8_bestRound_150 hl (k := 0) rfl (nI_1 _) (by decide) rfl (fun ls hl => ?_)
                          refine lv_goto (tgt := 109) hx hb dX8_bestRound_153 (by decide) ?_
                          exact ih_109 (k109 + 1) (vp_updL ge_ k109 ((x_67 &&& (((nI 1) <<< ((nI i) &&& 31)) - (nI 1))).toInt64)) (by omega) (by omega) _ _ _ V (lv_sub hl [0, 1, 2, 3, 4, 5, 6] rfl)
                    exact L_58 _ 0 gc_ (by omega) (Nat.lt_succ_self _) _ _ _ V (lv_sub hl [0, 1, 2, 3, 4, 5, 6] rfl)
                  · skip
                    refine lv_goto (tgt := 205) hx hb dX8_bestRound_103 (by decide) ?_
                    refine lv_iinc (v := (nI (k69 + 1))) (lv' := [(4, .int (nI (k69 + 1))), (5, .int z_45), (3, .int x69_3), (0, .ref o), (1, .int (nI i)), (2, .int wh)]) hx hb dX8_bestRound_205 hl (k := 1) rfl (nI_1 _) (by decide) rfl (fun ls hl => ?_)
                    refine lv_goto (tgt := 69) hx hb dX8_bestRound_208 (by decide) ?_
                    exact ih_69 (k69 + 1) x69_3 wv ga_ gb_ gc_ gd_ (by omega) (by omega) _ _ _ V (lv_sub hl [0, 2, 3, 4, 5] rfl)
          exact L_41 _ 0 (-1) w21 fh fk fr fb (by omega) (Nat.lt_succ_self _) _ _ _ V (lv_sub hl [0, 1, 2, 3, 4] rfl)
        · skip
          have c_40 := b_nle (by omega) (by omega) c_40
          refine lv_bipush (v := (-4)) hx hb dX8_bestRound_61 (by decide +kernel) ?_
          exact g_iret (Qr := (q_m_bestRound T n o le wh w0 g1 g2 g3 g4 tp w6 w7 w8 w9 w10 w11 w12 w13 w14 g15 w16 g17 w18 w19 g20 w21 g22 g23 g24 w25 w26 w27 g28 g29 w30 g31 g32 g33 fa fh fk fr fb)) hC V ⟨(Nat.le_of_ble_eq_true rfl), (Nat.le_of_ble_eq_true rfl)⟩ ⟨(-4), w21, fh, fk, fr, fb, rfl, rfl⟩ dX8_bestRound_63
      · have V : gW D T A s [(o, .inr (8, [.int (nI 0), .ref g1, .ref g2, .ref g3, .ref g4, .int (nI tp), .int w6, .int w7, .int w8, .int w9, .int w10, .int w11, .int w12, .int w13, .int w14, .ref g15, .int w16, .ref g17, .int w18, .int w19, .ref g20, .int w21, .ref g22, .ref g23, .ref g24, .int w25, .int w26, .int w27, .ref g28, .ref g29, .int w30, .ref g31, .ref g32, .ref g33])), (g1, .inl (T 0, 282, .inl fa)), (g15, .inl (T 0, 10, .inl fh)), (g17, .inl (T 0, 94, .inl fk)), (g20, .inl (T 1, 10, .inr (.inl fr))), (g22, .inl (T 1, 10, .inr (.inl fb)))] H locs := V _ [] rfl rfl rfl (by decide +kernel) rfl
        show W p l e _ s m args below meth c H locs _ _ _ (F0 m 42 ls [.int (nI 0)])
        refine lv_if_ne (tgt := 48) hx hb dX8_bestRound_42 (by decide) (fun c => absurd (show (nI 0) = 0 by decide +kernel) c) (fun _ => ?_)
        refine lv_bipush (v := (-3)) hx hb dX8_bestRound_45 (by decide +kernel) ?_
        exact g_iret (Qr := (q_m_bestRound T n o le wh w0 g1 g2 g3 g4 tp w6 w7 w8 w9 w10 w11 w12 w13 w14 g15 w16 g17 w18 w19 g20 w21 g22 g23 g24 w25 w26 w27 g28 g29 w30 g31 g32 g33 fa fh fk fr fb)) hC V ⟨(Nat.le_of_ble_eq_true rfl), (Nat.le_of_ble_eq_true rfl)⟩ ⟨(-3), w21, fh, fk, fr, fb, rfl, rfl⟩ dX8_bestRound_47
    · have V : gW D T A s [(o, .inr (8, [.int (nI 0), .ref g1, .ref g2, .ref g3, .ref g4, .int (nI tp), .int w6, .int w7, .int w8, .int w9, .int w10, .int w11, .int w12, .int w13, .int w14, .ref g15, .int w16, .ref g17, .int w18, .int w19, .ref g20, .int w21, .ref g22, .ref g23, .ref g24, .int w25, .int w26, .int w27, .ref g28, .ref g29, .int w30, .ref g31, .ref g32, .ref g33])), (g1, .inl (T 0, 282, .inl fa)), (g15, .inl (T 0, 10, .inl fh)), (g17, .inl (T 0, 94, .inl fk)), (g20, .inl (T 1, 10, .inr (.inl fr))), (g22, .inl (T 1, 10, .inr (.inl fb)))] H locs := V _ [] rfl rfl rfl (by decide +kernel) rfl
      show W p l e _ s m args below meth c H locs _ _ _ (F0 m 27 ls [.int (nI 0)])
      refine lv_if_ne (tgt := 33) hx hb dX8_bestRound_27 (by decide) (fun c => absurd (show (nI 0) = 0 by decide +kernel) c) (fun _ => ?_)
      refine lv_bipush (v := (-2)) hx hb dX8_bestRound_30 (by decide +kernel) ?_
      exact g_iret (Qr := (q_m_bestRound T n o le wh w0 g1 g2 g3 g4 tp w6 w7 w8 w9 w10 w11 w12 w13 w14 g15 w16 g17 w18 w19 g20 w21 g22 g23 g24 w25 w26 w27 g28 g29 w30 g31 g32 g33 fa fh fk fr fb)) hC V ⟨(Nat.le_of_ble_eq_true rfl), (Nat.le_of_ble_eq_true rfl)⟩ ⟨(-2), w21, fh, fk, fr, fb, rfl, rfl⟩ dX8_bestRound_32

def q_m_payOf (T : Nat → ClassId) (n : Nat) (o : Nat) (j : Nat) (pl : Int32) (w0 : Int32) (g1 : Nat) (g2 : Nat) (g3 : Nat) (g4 : Nat) (tp : Nat) (w6 : Int32) (w7 : Int32) (w8 : Int32) (w9 : Int32) (w10 : Int32) (w11 : Int32) (w12 : Int32) (w13 : Int32) (w14 : Int32) (g15 : Nat) (w16 : Int32) (g17 : Nat) (w18 : Int32) (w19 : Int32) (g20 : Nat) (w21 : Int32) (g22 : Nat) (g23 : Nat) (g24 : Nat) (w25 : Int32) (w26 : Int32) (w27 : Int32) (g28 : Nat) (g29 : Nat) (w30 : Int32) (g31 : Nat) (g32 : Nat) (g33 : Nat) (fa : Nat → Int32) : Option Value → va_W → Prop := fun rr ww => (∃ (z : Int32), rr = some (.int z) ∧ ww = [(o, .inr (8, [.int w0, .ref g1, .ref g2, .ref g3, .ref g4, .int (nI tp), .int w6, .int w7, .int w8, .int w9, .int w10, .int w11, .int w12, .int w13, .int w14, .ref g15, .int w16, .ref g17, .int w18, .int w19, .ref g20, .int w21, .ref g22, .ref g23, .ref g24, .int w25, .int w26, .int w27, .ref g28, .ref g29, .int w30, .ref g31, .ref g32, .ref g33])), (g1, .inl (T 0, 282, .inl fa))])
set_option maxHeartbeats 4000000 in
set_option maxRecDepth 100000 in
theorem m_payOf (l : Launch) (D : va_G) (T : Nat → ClassId) (n : Nat) (o : Nat) (j : Nat) (pl : Int32) (w0 : Int32) (g1 : Nat) (g2 : Nat) (g3 : Nat) (g4 : Nat) (tp : Nat) (w6 : Int32) (w7 : Int32) (w8 : Int32) (w9 : Int32) (w10 : Int32) (w11 : Int32) (w12 : Int32) (w13 : Int32) (w14 : Int32) (g15 : Nat) (w16 : Int32) (g17 : Nat) (w18 : Int32) (w19 : Int32) (g20 : Nat) (w21 : Int32) (g22 : Nat) (g23 : Nat) (g24 : Nat) (w25 : Int32) (w26 : Int32) (w27 : Int32) (g28 : Nat) (g29 : Nat) (w30 : Int32) (g31 : Nat) (g32 : Nat) (g33 : Nat) (fa : Nat → Int32) (h_a : MI n fa) (h_j : j < n) : Ct l yX8_payOf cX8_payOf 4 (some .int) 2 0 0 D T [.ref o, .int (nI j), .int pl] [(o, .inr (8, [.int w0, .ref g1, .ref g2, .ref g3, .ref g4, .int (nI tp), .int w6, .int w7, .int w8, .int w9, .int w10, .int w11, .int w12, .int w13, .int w14, .ref g15, .int w16, .ref g17, .int w18, .int w19, .ref g20, .int w21, .ref g22, .ref g23, .ref g24, .int w25, .int w26, .int w27, .ref g28, .ref g29, .int w30, .ref g31, .ref g32, .ref g33])), (g1, .inl (T 0, 282, .inl fa))] (q_m_payOf T n o j pl w0 g1 g2 g3 g4 tp w6 w7 w8 w9 w10 w11 w12 w13 w14 g15 w16 g17 w18 w19 g20 w21 g22 g23 g24 w25 w26 w27 g28 g29 w30 g31 g32 g33 fa) := by
  refine Ct.of (cc := cX8_payOf) (maxL := 4) (ret := (some .int)) (by decide) (Nat.le_of_ble_eq_true rfl) ?_
  intro p e s m args below meth c A ls hC hnm V hl
  obtain ⟨hx, hb, hr, hml, hown, hts, hlocks⟩ := id hC
  generalize hH : s.heap = H at V ⊢
  clear hH
  have hl : lv_has ls 4 [(0, .ref o), (1, .int (nI j)), (2, .int pl)] := hl
  generalize hlo : ([] : List Loc) = locs at V ⊢
  clear hlo
  have ms0 := ms_rf h_a
  have hn10 := h_a.1
  refine lv_aload_n hx hb dX8_payOf_0 rfl (lv_at hl 0 rfl) ?_
  refine lv_iload_n hx hb dX8_payOf_1 rfl (lv_at hl 1 rfl) ?_
  refine lv_iload_n hx hb dX8_payOf_2 rfl (lv_at hl 2 rfl) ?_
  refine lv_iconst (v := (nI 0)) hx hb dX8_payOf_3 (by decide +kernel) ?_
  refine g_callV (wr := []) (nA := 3) hC V hl.1 (m_heatThen l D T n o j pl (nI 0) w0 g1 g2 g3 g4 tp w6 w7 w8 w9 w10 w11 w12 w13 w14 g15 w16 g17 w18 w19 g20 w21 g22 g23 g24 w25 w26 w27 g28 g29 w30 g31 g32 g33 fa h_a (by first | assumption | omega)) w_1126 w_1128 w_s51 w_9 w_1129 (by decide +kernel) rfl ⟨(Nat.le_of_ble_eq_true rfl), (Nat.le_of_ble_eq_true rfl)⟩ 0 (ci := 8) rfl rfl [0, 1] [] rfl rfl rfl rfl (by decide) (Nat.le_of_ble_eq_true rfl) dX8_payOf_4 ⟨(Nat.le_of_ble_eq_true rfl), (Nat.le_of_ble_eq_true rfl)⟩ rfl (fun r w1 H locs hQ V => ?_)
  obtain ⟨z_1, rfl, rfl, f_2⟩ := hQ
  have V : gW D T A s [(o, .inr (8, [.int w0, .ref g1, .ref g2, .ref g3, .ref g4, .int (nI tp), .int w6, .int w7, .int w8, .int w9, .int w10, .int w11, .int w12, .int w13, .int w14, .ref g15, .int w16, .ref g17, .int w18, .int w19, .ref g20, .int w21, .ref g22, .ref g23, .ref g24, .int w25, .int w26, .int w27, .ref g28, .ref g29, .int w30, .ref g31, .ref g32, .ref g33])), (g1, .inl (T 0, 282, .inl fa))] H locs := V
  show W p l e _ s m args below meth c H locs _ _ _ (F0 m 7 ls [.int z_1])
  refine lv_istore_n (lv' := [(3, .int z_1), (0, .ref o), (1, .int (nI j)), (2, .int pl)]) hx hb dX8_payOf_7 rfl hl (by decide) rfl (fun ls hl => ?_)
  refine lv_iload_n hx hb dX8_payOf_8 rfl (lv_at hl 0 rfl) ?_
  refine lv_aload_n hx hb dX8_payOf_9 rfl (lv_at hl 1 rfl) ?_
  refine g_get hC V (ci := 8) uwX8 0 rfl rfl 1 (by decide) w_913 rfl rfl dX8_payOf_10 ?_
  refine lv_bipush (v := (nI 34)) hx hb dX8_payOf_13 (by decide +kernel) ?_
  refine lv_iload_n hx hb dX8_payOf_15 rfl (lv_at hl 2 rfl) ?_
  refine lv_iadd hx hb dX8_payOf_16 ?_
  refine g_vi (y := (nI (34 + j))) (nI_add _ _) ?_
  refine g_iald hC V 1 rfl (vp_in_nI (by omega) (by omega)) (v := (fa (34 + j))) (congrArg _ (nI_clamp (by omega))) dX8_payOf_17 ?_
  refine lv_icmp_lt (tgt := 38) hx hb dX8_payOf_18 (by decide) (fun c_3 => ?_) (fun c_3 => ?_)
  · skip
    refine lv_iconst (v := (nI 0)) hx hb dX8_payOf_38 (by decide +kernel) ?_
    refine lv_iload_n hx hb dX8_payOf_39 rfl (lv_at hl 3 rfl) ?_
    refine lv_i2l (v := pl.toInt64) hx hb dX8_payOf_40 rfl ?_
    refine lv_iload_n hx hb dX8_payOf_41 rfl (lv_at hl 2 rfl) ?_
    refine g_callSU (nA := 2) hC V hl.1 (m_isIn l D T pl.toInt64 (nI j)) w_1130 w_1131 w_9 w_1132 (by decide +kernel) rfl ⟨(Nat.le_of_ble_eq_true rfl), (Nat.le_of_ble_eq_true rfl)⟩ [] rfl rfl (Nat.le_of_ble_eq_true rfl) dX8_payOf_42 ⟨(Nat.le_of_ble_eq_true rfl), (Nat.le_of_ble_eq_true rfl)⟩ rfl (fun r w1 H locs hQ V => ?_)
    rcases hQ with ⟨rfl, rfl⟩ | ⟨rfl, rfl⟩
    · have V : gW D T A s [(o, .inr (8, [.int w0, .ref g1, .ref g2, .ref g3, .ref g4, .int (nI tp), .int w6, .int w7, .int w8, .int w9, .int w10, .int w11, .int w12, .int w13, .int w14, .ref g15, .int w16, .ref g17, .int w18, .int w19, .ref g20, .int w21, .ref g22, .ref g23, .ref g24, .int w25, .int w26, .int w27, .ref g28, .ref g29, .int w30, .ref g31, .ref g32, .ref g33])), (g1, .inl (T 0, 282, .inl fa))] H locs := V _ [] rfl rfl rfl (by decide +kernel) rfl
      show W p l e _ s m args below meth c H locs _ _ _ (F0 m 45 ls [.int (nI 1), .int (nI 0)])
      refine lv_if_eq (tgt := 52) hx hb dX8_payOf_45 (by decide) (fun c => absurd (show (nI 1) = 0 from c) (by decide +kernel)) (fun _ => ?_)
      refine lv_iconst (v := (nI 1)) hx hb dX8_payOf_48 (by decide +kernel) ?_
      refine lv_goto (tgt := 53) hx hb dX8_payOf_49 (by decide) ?_
      refine lv_isub hx hb dX8_payOf_53 ?_
      refine g_vi (y := (-1)) (by decide +kernel) ?_
      exact g_iret (Qr := (q_m_payOf T n o j pl w0 g1 g2 g3 g4 tp w6 w7 w8 w9 w10 w11 w12 w13 w14 g15 w16 g17 w18 w19 g20 w21 g22 g23 g24 w25 w26 w27 g28 g29 w30 g31 g32 g33 fa)) hC V ⟨(Nat.le_of_ble_eq_true rfl), (Nat.le_of_ble_eq_true rfl)⟩ ⟨(-1), rfl, rfl⟩ dX8_payOf_54
    · have V : gW D T A s [(o, .inr (8, [.int w0, .ref g1, .ref g2, .ref g3, .ref g4, .int (nI tp), .int w6, .int w7, .int w8, .int w9, .int w10, .int w11, .int w12, .int w13, .int w14, .ref g15, .int w16, .ref g17, .int w18, .int w19, .ref g20, .int w21, .ref g22, .ref g23, .ref g24, .int w25, .int w26, .int w27, .ref g28, .ref g29, .int w30, .ref g31, .ref g32, .ref g33])), (g1, .inl (T 0, 282, .inl fa))] H locs := V _ [] rfl rfl rfl (by decide +kernel) rfl
      show W p l e _ s m args below meth c H locs _ _ _ (F0 m 45 ls [.int (nI 0), .int (nI 0)])
      refine lv_if_eq (tgt := 52) hx hb dX8_payOf_45 (by decide) (fun _ => ?_) (fun c => absurd (show (nI 0) = 0 by decide +kernel) c)
      refine lv_iconst (v := (nI 0)) hx hb dX8_payOf_52 (by decide +kernel) ?_
      refine lv_isub hx hb dX8_payOf_53 ?_
      refine g_vi (y := (nI 0)) (by decide +kernel) ?_
      exact g_iret (Qr := (q_m_payOf T n o j pl w0 g1 g2 g3 g4 tp w6 w7 w8 w9 w10 w11 w12 w13 w14 g15 w16 g17 w18 w19 g20 w21 g22 g23 g24 w25 w26 w27 g28 g29 w30 g31 g32 g33 fa)) hC V ⟨(Nat.le_of_ble_eq_true rfl), (Nat.le_of_ble_eq_true rfl)⟩ ⟨(nI 0), rfl, rfl⟩ dX8_payOf_54
  · skip
    refine lv_iload_n hx hb dX8_payOf_21 rfl (lv_at hl 0 rfl) ?_
    refine lv_aload_n hx hb dX8_payOf_22 rfl (lv_at hl 1 rfl) ?_
    refine g_get hC V (ci := 8) uwX8 0 rfl rfl 1 (by decide) w_913 rfl rfl dX8_payOf_23 ?_
    refine lv_bipush (v := (nI 44)) hx hb dX8_payOf_26 (by decide +kernel) ?_
    refine lv_iload_n hx hb dX8_payOf_28 rfl (lv_at hl 2 rfl) ?_
    refine lv_iadd hx hb dX8_payOf_29 ?_
    refine g_vi (y := (nI (44 + j))) (nI_add _ _) ?_
    refine g_iald hC V 1 rfl (vp_in_nI (by omega) (by omega)) (v := (fa (44 + j))) (congrArg _ (nI_clamp (by omega))) dX8_payOf_30 ?_
    refine lv_icmp_gt (tgt := 38) hx hb dX8_payOf_31 (by decide) (fun c_4 => ?_) (fun c_4 => ?_)
    · skip
      refine lv_iconst (v := (nI 0)) hx hb dX8_payOf_38 (by decide +kernel) ?_
      refine lv_iload_n hx hb dX8_payOf_39 rfl (lv_at hl 3 rfl) ?_
      refine lv_i2l (v := pl.toInt64) hx hb dX8_payOf_40 rfl ?_
      refine lv_iload_n hx hb dX8_payOf_41 rfl (lv_at hl 2 rfl) ?_
      refine g_callSU (nA := 2) hC V hl.1 (m_isIn l D T pl.toInt64 (nI j)) w_1130 w_1131 w_9 w_1132 (by decide +kernel) rfl ⟨(Nat.le_of_ble_eq_true rfl), (Nat.le_of_ble_eq_true rfl)⟩ [] rfl rfl (Nat.le_of_ble_eq_true rfl) dX8_payOf_42 ⟨(Nat.le_of_ble_eq_true rfl), (Nat.le_of_ble_eq_true rfl)⟩ rfl (fun r w1 H locs hQ V => ?_)
      rcases hQ with ⟨rfl, rfl⟩ | ⟨rfl, rfl⟩
      · have V : gW D T A s [(o, .inr (8, [.int w0, .ref g1, .ref g2, .ref g3, .ref g4, .int (nI tp), .int w6, .int w7, .int w8, .int w9, .int w10, .int w11, .int w12, .int w13, .int w14, .ref g15, .int w16, .ref g17, .int w18, .int w19, .ref g20, .int w21, .ref g22, .ref g23, .ref g24, .int w25, .int w26, .int w27, .ref g28, .ref g29, .int w30, .ref g31, .ref g32, .ref g33])), (g1, .inl (T 0, 282, .inl fa))] H locs := V _ [] rfl rfl rfl (by decide +kernel) rfl
        show W p l e _ s m args below meth c H locs _ _ _ (F0 m 45 ls [.int (nI 1), .int (nI 0)])
        refine lv_if_eq (tgt := 52) hx hb dX8_payOf_45 (by decide) (fun c => absurd (show (nI 1) = 0 from c) (by decide +kernel)) (fun _ => ?_)
        refine lv_iconst (v := (nI 1)) hx hb dX8_payOf_48 (by decide +kernel) ?_
        refine lv_goto (tgt := 53) hx hb dX8_payOf_49 (by decide) ?_
        refine lv_isub hx hb dX8_payOf_53 ?_
        refine g_vi (y := (-1)) (by decide +kernel) ?_
        exact g_iret (Qr := (q_m_payOf T n o j pl w0 g1 g2 g3 g4 tp w6 w7 w8 w9 w10 w11 w12 w13 w14 g15 w16 g17 w18 w19 g20 w21 g22 g23 g24 w25 w26 w27 g28 g29 w30 g31 g32 g33 fa)) hC V ⟨(Nat.le_of_ble_eq_true rfl), (Nat.le_of_ble_eq_true rfl)⟩ ⟨(-1), rfl, rfl⟩ dX8_payOf_54
      · have V : gW D T A s [(o, .inr (8, [.int w0, .ref g1, .ref g2, .ref g3, .ref g4, .int (nI tp), .int w6, .int w7, .int w8, .int w9, .int w10, .int w11, .int w12, .int w13, .int w14, .ref g15, .int w16, .ref g17, .int w18, .int w19, .ref g20, .int w21, .ref g22, .ref g23, .ref g24, .int w25, .int w26, .int w27, .ref g28, .ref g29, .int w30, .ref g31, .ref g32, .ref g33])), (g1, .inl (T 0, 282, .inl fa))] H locs := V _ [] rfl rfl rfl (by decide +kernel) rfl
        show W p l e _ s m args below meth c H locs _ _ _ (F0 m 45 ls [.int (nI 0), .int (nI 0)])
        refine lv_if_eq (tgt := 52) hx hb dX8_payOf_45 (by decide) (fun _ => ?_) (fun c => absurd (show (nI 0) = 0 by decide +kernel) c)
        refine lv_iconst (v := (nI 0)) hx hb dX8_payOf_52 (by decide +kernel) ?_
        refine lv_isub hx hb dX8_payOf_53 ?_
        refine g_vi (y := (nI 0)) (by decide +kernel) ?_
        exact g_iret (Qr := (q_m_payOf T n o j pl w0 g1 g2 g3 g4 tp w6 w7 w8 w9 w10 w11 w12 w13 w14 g15 w16 g17 w18 w19 g20 w21 g22 g23 g24 w25 w26 w27 g28 g29 w30 g31 g32 g33 fa)) hC V ⟨(Nat.le_of_ble_eq_true rfl), (Nat.le_of_ble_eq_true rfl)⟩ ⟨(nI 0), rfl, rfl⟩ dX8_payOf_54
    · skip
      refine lv_iconst (v := (nI 2)) hx hb dX8_payOf_34 (by decide +kernel) ?_
      refine lv_goto (tgt := 39) hx hb dX8_payOf_35 (by decide) ?_
      refine lv_iload_n hx hb dX8_payOf_39 rfl (lv_at hl 3 rfl) ?_
      refine lv_i2l (v := pl.toInt64) hx hb dX8_payOf_40 rfl ?_
      refine lv_iload_n hx hb dX8_payOf_41 rfl (lv_at hl 2 rfl) ?_
      refine g_callSU (nA := 2) hC V hl.1 (m_isIn l D T pl.toInt64 (nI j)) w_1130 w_1131 w_9 w_1132 (by decide +kernel) rfl ⟨(Nat.le_of_ble_eq_true rfl), (Nat.le_of_ble_eq_true rfl)⟩ [] rfl rfl (Nat.le_of_ble_eq_true rfl) dX8_payOf_42 ⟨(Nat.le_of_ble_eq_true rfl), (Nat.le_of_ble_eq_true rfl)⟩ rfl (fun r w1 H locs hQ V => ?_)
      rcases hQ with ⟨rfl, rfl⟩ | ⟨rfl, rfl⟩
      · have V : gW D T A s [(o, .inr (8, [.int w0, .ref g1, .ref g2, .ref g3, .ref g4, .int (nI tp), .int w6, .int w7, .int w8, .int w9, .int w10, .int w11, .int w12, .int w13, .int w14, .ref g15, .int w16, .ref g17, .int w18, .int w19, .ref g20, .int w21, .ref g22, .ref g23, .ref g24, .int w25, .int w26, .int w27, .ref g28, .ref g29, .int w30, .ref g31, .ref g32, .ref g33])), (g1, .inl (T 0, 282, .inl fa))] H locs := V _ [] rfl rfl rfl (by decide +kernel) rfl
        show W p l e _ s m args below meth c H locs _ _ _ (F0 m 45 ls [.int (nI 1), .int (nI 2)])
        refine lv_if_eq (tgt := 52) hx hb dX8_payOf_45 (by decide) (fun c => absurd (show (nI 1) = 0 from c) (by decide +kernel)) (fun _ => ?_)
        refine lv_iconst (v := (nI 1)) hx hb dX8_payOf_48 (by decide +kernel) ?_
        refine lv_goto (tgt := 53) hx hb dX8_payOf_49 (by decide) ?_
        refine lv_isub hx hb dX8_payOf_53 ?_
        refine g_vi (y := (nI 1)) (by decide +kernel) ?_
        exact g_iret (Qr := (q_m_payOf T n o j pl w0 g1 g2 g3 g4 tp w6 w7 w8 w9 w10 w11 w12 w13 w14 g15 w16 g17 w18 w19 g20 w21 g22 g23 g24 w25 w26 w27 g28 g29 w30 g31 g32 g33 fa)) hC V ⟨(Nat.le_of_ble_eq_true rfl), (Nat.le_of_ble_eq_true rfl)⟩ ⟨(nI 1), rfl, rfl⟩ dX8_payOf_54
      · have V : gW D T A s [(o, .inr (8, [.int w0, .ref g1, .ref g2, .ref g3, .ref g4, .int (nI tp), .int w6, .int w7, .int w8, .int w9, .int w10, .int w11, .int w12, .int w13, .int w14, .ref g15, .int w16, .ref g17, .int w18, .int w19, .ref g20, .int w21, .ref g22, .ref g23, .ref g24, .int w25, .int w26, .int w27, .ref g28, .ref g29, .int w30, .ref g31, .ref g32, .ref g33])), (g1, .inl (T 0, 282, .inl fa))] H locs := V _ [] rfl rfl rfl (by decide +kernel) rfl
        show W p l e _ s m args below meth c H locs _ _ _ (F0 m 45 ls [.int (nI 0), .int (nI 2)])
        refine lv_if_eq (tgt := 52) hx hb dX8_payOf_45 (by decide) (fun _ => ?_) (fun c => absurd (show (nI 0) = 0 by decide +kernel) c)
        refine lv_iconst (v := (nI 0)) hx hb dX8_payOf_52 (by decide +kernel) ?_
        refine lv_isub hx hb dX8_payOf_53 ?_
        refine g_vi (y := (nI 2)) (by decide +kernel) ?_
        exact g_iret (Qr := (q_m_payOf T n o j pl w0 g1 g2 g3 g4 tp w6 w7 w8 w9 w10 w11 w12 w13 w14 g15 w16 g17 w18 w19 g20 w21 g22 g23 g24 w25 w26 w27 g28 g29 w30 g31 g32 g33 fa)) hC V ⟨(Nat.le_of_ble_eq_true rfl), (Nat.le_of_ble_eq_true rfl)⟩ ⟨(nI 2), rfl, rfl⟩ dX8_payOf_54

def q_m_payOfAll (T : Nat → ClassId) (n : Nat) (o : Nat) (pl : Int32) (w0 : Int32) (g1 : Nat) (g2 : Nat) (g3 : Nat) (g4 : Nat) (tp : Nat) (w6 : Int32) (w7 : Int32) (w8 : Int32) (w9 : Int32) (w10 : Int32) (w11 : Int32) (w12 : Int32) (w13 : Int32) (w14 : Int32) (g15 : Nat) (w16 : Int32) (g17 : Nat) (w18 : Int32) (w19 : Int32) (g20 : Nat) (w21 : Int32) (g22 : Nat) (g23 : Nat) (g24 : Nat) (w25 : Int32) (w26 : Int32) (w27 : Int32) (g28 : Nat) (g29 : Nat) (w30 : Int32) (g31 : Nat) (g32 : Nat) (g33 : Nat) (fa : Nat → Int32) : Option Value → va_W → Prop := fun rr ww => (∃ (z : Int32), rr = some (.int z) ∧ ww = [(o, .inr (8, [.int w0, .ref g1, .ref g2, .ref g3, .ref g4, .int (nI tp), .int w6, .int w7, .int w8, .int w9, .int w10, .int w11, .int w12, .int w13, .int w14, .ref g15, .int w16, .ref g17, .int w18, .int w19, .ref g20, .int w21, .ref g22, .ref g23, .ref g24, .int w25, .int w26, .int w27, .ref g28, .ref g29, .int w30, .ref g31, .ref g32, .ref g33])), (g1, .inl (T 0, 282, .inl fa))])
set_option maxHeartbeats 4000000 in
set_option maxRecDepth 100000 in
theorem m_payOfAll (l : Launch) (D : va_G) (T : Nat → ClassId) (n : Nat) (o : Nat) (pl : Int32) (w0 : Int32) (g1 : Nat) (g2 : Nat) (g3 : Nat) (g4 : Nat) (tp : Nat) (w6 : Int32) (w7 : Int32) (w8 : Int32) (w9 : Int32) (w10 : Int32) (w11 : Int32) (w12 : Int32) (w13 : Int32) (w14 : Int32) (g15 : Nat) (w16 : Int32) (g17 : Nat) (w18 : Int32) (w19 : Int32) (g20 : Nat) (w21 : Int32) (g22 : Nat) (g23 : Nat) (g24 : Nat) (w25 : Int32) (w26 : Int32) (w27 : Int32) (g28 : Nat) (g29 : Nat) (w30 : Int32) (g31 : Nat) (g32 : Nat) (g33 : Nat) (fa : Nat → Int32) (h_a : MI n fa) : Ct l yX8_payOfAll cX8_payOfAll 4 (some .int) 3 0 0 D T [.ref o, .int pl] [(o, .inr (8, [.int w0, .ref g1, .ref g2, .ref g3, .ref g4, .int (nI tp), .int w6, .int w7, .int w8, .int w9, .int w10, .int w11, .int w12, .int w13, .int w14, .ref g15, .int w16, .ref g17, .int w18, .int w19, .ref g20, .int w21, .ref g22, .ref g23, .ref g24, .int w25, .int w26, .int w27, .ref g28, .ref g29, .int w30, .ref g31, .ref g32, .ref g33])), (g1, .inl (T 0, 282, .inl fa))] (q_m_payOfAll T n o pl w0 g1 g2 g3 g4 tp w6 w7 w8 w9 w10 w11 w12 w13 w14 g15 w16 g17 w18 w19 g20 w21 g22 g23 g24 w25 w26 w27 g28 g29 w30 g31 g32 g33 fa) := by
  refine Ct.of (cc := cX8_payOfAll) (maxL := 4) (ret := (some .int)) (by decide) (Nat.le_of_ble_eq_true rfl) ?_
  intro p e s m args below meth c A ls hC hnm V hl
  obtain ⟨hx, hb, hr, hml, hown, hts, hlocks⟩ := id hC
  generalize hH : s.heap = H at V ⊢
  clear hH
  have hl : lv_has ls 4 [(0, .ref o), (1, .int pl)] := hl
  generalize hlo : ([] : List Loc) = locs at V ⊢
  clear hlo
  have ms0 := ms_rf h_a
  have hn10 := h_a.1
  refine lv_iconst (v := (nI 0)) hx hb dX8_payOfAll_0 (by decide +kernel) ?_
  refine lv_istore_n (lv' := [(2, .int (nI 0)), (0, .ref o), (1, .int pl)]) hx hb dX8_payOfAll_1 rfl hl (by decide) rfl (fun ls hl => ?_)
  refine lv_iconst (v := (nI 0)) hx hb dX8_payOfAll_2 (by decide +kernel) ?_
  refine lv_istore_n (lv' := [(3, .int (nI 0)), (2, .int (nI 0)), (0, .ref o), (1, .int pl)]) hx hb dX8_payOfAll_3 rfl hl (by decide) rfl (fun ls hl => ?_)
  have L_1 : ∀ (fu : Nat) (k4 : Nat) (x4_2 : Int32), k4 ≤ n → n - k4 < fu → ∀ (H : Heap) (locs : List Loc) (ls : Array Slot), gW D T A s [(o, .inr (8, [.int w0, .ref g1, .ref g2, .ref g3, .ref g4, .int (nI tp), .int w6, .int w7, .int w8, .int w9, .int w10, .int w11, .int w12, .int w13, .int w14, .ref g15, .int w16, .ref g17, .int w18, .int w19, .ref g20, .int w21, .ref g22, .ref g23, .ref g24, .int w25, .int w26, .int w27, .ref g28, .ref g29, .int w30, .ref g31, .ref g32, .ref g33])), (g1, .inl (T 0, 282, .inl fa))] H locs → lv_has ls 4 [(3, .int (nI k4)), (2, .int x4_2), (0, .ref o), (1, .int pl)] → W p l e (rmD 3 0 0) s m args below meth c H locs 0 0 (MQ below (gQ D A (q_m_payOfAll T n o pl w0 g1 g2 g3 g4 tp w6 w7 w8 w9 w10 w11 w12 w13 w14 g15 w16 g17 w18 w19 g20 w21 g22 g23 g24 w25 w26 w27 g28 g29 w30 g31 g32 g33 fa)) args s 0 0 A) (F0 m 4 ls []) := by
    intro fu_4
    induction fu_4 with
    | zero => intro k4 x4_2 hk4 hmu; exact absurd hmu (Nat.not_lt_zero _)
    | succ fu_4 ih_4 =>
      intro k4 x4_2 hk4 hmu_4 H locs ls V hl
      refine lv_iload_n hx hb dX8_payOfAll_4 rfl (lv_at hl 0 rfl) ?_
      refine lv_aload_n hx hb dX8_payOfAll_5 rfl (lv_at hl 2 rfl) ?_
      refine g_get hC V (ci := 8) uwX8 0 rfl rfl 1 (by decide) w_913 rfl rfl dX8_payOfAll_6 ?_
      refine lv_iconst (v := (nI 0)) hx hb dX8_payOfAll_9 (by decide +kernel) ?_
      refine g_iald hC V 1 rfl (vp_in_nI (by decide) (by decide)) (v := (nI n)) (by rw [nI_clamp (by decide)]; first | rfl | exact h_a.2.1) dX8_payOfAll_10 ?_
      refine lv_icmp_ge (tgt := 29) hx hb dX8_payOfAll_11 (by decide) (fun c_2 => ?_) (fun c_2 => ?_)
      · skip
        have c_2 := b_le (by omega) (by omega) c_2
        refine lv_iload_n hx hb dX8_payOfAll_29 rfl (lv_at hl 1 rfl) ?_
        exact g_iret (Qr := (q_m_payOfAll T n o pl w0 g1 g2 g3 g4 tp w6 w7 w8 w9 w10 w11 w12 w13 w14 g15 w16 g17 w18 w19 g20 w21 g22 g23 g24 w25 w26 w27 g28 g29 w30 g31 g32 g33 fa)) hC V ⟨(Nat.le_of_ble_eq_true rfl), (Nat.le_of_ble_eq_true rfl)⟩ ⟨x4_2, rfl, rfl⟩ dX8_payOfAll_30
      · skip
        have c_2 := b_nle (by omega) (by omega) c_2
        refine lv_iload_n hx hb dX8_payOfAll_14 rfl (lv_at hl 1 rfl) ?_
        refine lv_aload_n hx hb dX8_payOfAll_15 rfl (lv_at hl 2 rfl) ?_
        refine lv_iload_n hx hb dX8_payOfAll_16 rfl (lv_at hl 0 rfl) ?_
        refine lv_iload_n hx hb dX8_payOfAll_17 rfl (lv_at hl 3 rfl) ?_
        refine g_callV (wr := []) (nA := 2) hC V hl.1 (m_payOf l D T n o k4 pl w0 g1 g2 g3 g4 tp w6 w7 w8 w9 w10 w11 w12 w13 w14 g15 w16 g17 w18 w19 g20 w21 g22 g23 g24 w25 w26 w27 g28 g29 w30 g31 g32 g33 fa h_a (by first | assumption | omega)) w_1269 w_1271 w_s68 w_9 w_1272 (by decide +kernel) rfl ⟨(Nat.le_of_ble_eq_true rfl), (Nat.le_of_ble_eq_true rfl)⟩ 0 (ci := 8) rfl rfl [0, 1] [] rfl rfl rfl rfl (by decide) (Nat.le_of_ble_eq_true rfl) dX8_payOfAll_18 ⟨(Nat.le_of_ble_eq_true rfl), (Nat.le_of_ble_eq_true rfl)⟩ rfl (fun r w1 H locs hQ V => ?_)
        obtain ⟨z_3, rfl, rfl⟩ := hQ
        have V : gW D T A s [(o, .inr (8, [.int w0, .ref g1, .ref g2, .ref g3, .ref g4, .int (nI tp), .int w6, .int w7, .int w8, .int w9, .int w10, .int w11, .int w12, .int w13, .int w14, .ref g15, .int w16, .ref g17, .int w18, .int w19, .ref g20, .int w21, .ref g22, .ref g23, .ref g24, .int w25, .int w26, .int w27, .ref g28, .ref g29, .int w30, .ref g31, .ref g32, .ref g33])), (g1, .inl (T 0, 282, .inl fa))] H locs := V
        show W p l e _ s m args below meth c H locs _ _ _ (F0 m 21 ls [.int z_3, .int x4_2])
        refine lv_iadd hx hb dX8_payOfAll_21 ?_
        refine lv_istore_n (lv' := [(2, .int (x4_2 + z_3)), (3, .int (nI k4)), (0, .ref o), (1, .int pl)]) hx hb dX8_payOfAll_22 rfl hl (by decide) rfl (fun ls hl => ?_)
        refine lv_iinc (v := (nI (k4 + 1))) (lv' := [(3, .int (nI (k4 + 1))), (2, .int (x4_2 + z_3)), (0, .ref o), (1, .int pl)]) hx hb dX8_payOfAll_23 hl (k := 1) rfl (nI_1 _) (by decide) rfl (fun ls hl => ?_)
        refine lv_goto (tgt := 4) hx hb dX8_payOfAll_26 (by decide) ?_
        exact ih_4 (k4 + 1) (x4_2 + z_3) (by omega) (by omega) _ _ _ V (lv_sub hl [0, 1, 2, 3] rfl)
  exact L_1 _ 0 (nI 0) (by omega) (Nat.lt_succ_self _) _ _ _ V (lv_sub hl [0, 1, 2, 3] rfl)

def q_m_peace (T : Nat → ClassId) (n : Nat) (o : Nat) (wh : Int32) (w0 : Int32) (g1 : Nat) (g2 : Nat) (g3 : Nat) (g4 : Nat) (tp : Nat) (w6 : Int32) (w7 : Int32) (w8 : Int32) (w9 : Int32) (w10 : Int32) (w11 : Int32) (w12 : Int32) (w13 : Int32) (w14 : Int32) (g15 : Nat) (w16 : Int32) (g17 : Nat) (w18 : Int32) (w19 : Int32) (g20 : Nat) (w21 : Int32) (g22 : Nat) (g23 : Nat) (g24 : Nat) (w25 : Int32) (w26 : Int32) (w27 : Int32) (g28 : Nat) (g29 : Nat) (w30 : Int32) (g31 : Nat) (g32 : Nat) (g33 : Nat) (fa : Nat → Int32) : Option Value → va_W → Prop := fun rr ww => (∃ (z : Int32), rr = some (.int z) ∧ ww = [(o, .inr (8, [.int (nI 0), .ref g1, .ref g2, .ref g3, .ref g4, .int (nI tp), .int w6, .int w7, .int w8, .int w9, .int w10, .int w11, .int w12, .int w13, .int w14, .ref g15, .int w16, .ref g17, .int w18, .int w19, .ref g20, .int w21, .ref g22, .ref g23, .ref g24, .int w25, .int w26, .int w27, .ref g28, .ref g29, .int w30, .ref g31, .ref g32, .ref g33])), (g1, .inl (T 0, 282, .inl fa))])
set_option maxHeartbeats 4000000 in
set_option maxRecDepth 100000 in
theorem m_peace (l : Launch) (D : va_G) (T : Nat → ClassId) (n : Nat) (o : Nat) (wh : Int32) (w0 : Int32) (g1 : Nat) (g2 : Nat) (g3 : Nat) (g4 : Nat) (tp : Nat) (w6 : Int32) (w7 : Int32) (w8 : Int32) (w9 : Int32) (w10 : Int32) (w11 : Int32) (w12 : Int32) (w13 : Int32) (w14 : Int32) (g15 : Nat) (w16 : Int32) (g17 : Nat) (w18 : Int32) (w19 : Int32) (g20 : Nat) (w21 : Int32) (g22 : Nat) (g23 : Nat) (g24 : Nat) (w25 : Int32) (w26 : Int32) (w27 : Int32) (g28 : Nat) (g29 : Nat) (w30 : Int32) (g31 : Nat) (g32 : Nat) (g33 : Nat) (fa : Nat → Int32) (h_a : MI n fa) : Ct l yX8_peace cX8_peace 4 (some .int) 4 0 0 D T [.ref o, .int wh] [(o, .inr (8, [.int w0, .ref g1, .ref g2, .ref g3, .ref g4, .int (nI tp), .int w6, .int w7, .int w8, .int w9, .int w10, .int w11, .int w12, .int w13, .int w14, .ref g15, .int w16, .ref g17, .int w18, .int w19, .ref g20, .int w21, .ref g22, .ref g23, .ref g24, .int w25, .int w26, .int w27, .ref g28, .ref g29, .int w30, .ref g31, .ref g32, .ref g33])), (g1, .inl (T 0, 282, .inl fa))] (q_m_peace T n o wh w0 g1 g2 g3 g4 tp w6 w7 w8 w9 w10 w11 w12 w13 w14 g15 w16 g17 w18 w19 g20 w21 g22 g23 g24 w25 w26 w27 g28 g29 w30 g31 g32 g33 fa) := by
  refine Ct.of (cc := cX8_peace) (maxL := 4) (ret := (some .int)) (by decide) (Nat.le_of_ble_eq_true rfl) ?_
  intro p e s m args below meth c A ls hC hnm V hl
  obtain ⟨hx, hb, hr, hml, hown, hts, hlocks⟩ := id hC
  generalize hH : s.heap = H at V ⊢
  clear hH
  have hl : lv_has ls 4 [(0, .ref o), (1, .int wh)] := hl
  generalize hlo : ([] : List Loc) = locs at V ⊢
  clear hlo
  have ms0 := ms_rf h_a
  have hn10 := h_a.1
  have hpw := pw10 hn10
  refine lv_aload_n hx hb dX8_peace_0 rfl (lv_at hl 0 rfl) ?_
  refine lv_iconst (v := (nI 0)) hx hb dX8_peace_1 (by decide +kernel) ?_
  refine g_put hC V (ci := 8) uwX8 tyX8 tyX8_ok nmX8 0 rfl rfl 0 (by decide) w_912 rfl rfl rfl rfl (Nat.le_of_ble_eq_true rfl) (ws' := [(o, .inr (8, [.int (nI 0), .ref g1, .ref g2, .ref g3, .ref g4, .int (nI tp), .int w6, .int w7, .int w8, .int w9, .int w10, .int w11, .int w12, .int w13, .int w14, .ref g15, .int w16, .ref g17, .int w18, .int w19, .ref g20, .int w21, .ref g22, .ref g23, .ref g24, .int w25, .int w26, .int w27, .ref g28, .ref g29, .int w30, .ref g31, .ref g32, .ref g33])), (g1, .inl (T 0, 282, .inl fa))]) rfl dX8_peace_2 (fun H locs V => ?_)
  refine lv_iload_n hx hb dX8_peace_5 rfl (lv_at hl 1 rfl) ?_
  refine lv_i2l (v := wh.toInt64) hx hb dX8_peace_6 rfl ?_
  refine lv_lconst (v := (nI 0).toInt64) hx hb dX8_peace_7 (by decide +kernel) ?_
  refine lv_lconst (v := (nI 1).toInt64) hx hb dX8_peace_8 (by decide +kernel) ?_
  refine g_callSU (nA := 3) hC V hl.1 (m_within l D T wh (nI 0) (nI 1)) w_1023 w_1024 w_9 w_1025 (by decide +kernel) rfl ⟨(Nat.le_of_ble_eq_true rfl), (Nat.le_of_ble_eq_true rfl)⟩ [] rfl rfl (Nat.le_of_ble_eq_true rfl) dX8_peace_9 ⟨(Nat.le_of_ble_eq_true rfl), (Nat.le_of_ble_eq_true rfl)⟩ rfl (fun r w1 H locs hQ V => ?_)
  rcases hQ with ⟨rfl, rfl, f_1, f_2⟩ | ⟨rfl, rfl, f_3⟩
  · have V : gW D T A s [(o, .inr (8, [.int (nI 0), .ref g1, .ref g2, .ref g3, .ref g4, .int (nI tp), .int w6, .int w7, .int w8, .int w9, .int w10, .int w11, .int w12, .int w13, .int w14, .ref g15, .int w16, .ref g17, .int w18, .int w19, .ref g20, .int w21, .ref g22, .ref g23, .ref g24, .int w25, .int w26, .int w27, .ref g28, .ref g29, .int w30, .ref g31, .ref g32, .ref g33])), (g1, .inl (T 0, 282, .inl fa))] H locs := V _ [] rfl rfl rfl (by decide +kernel) rfl
    show W p l e _ s m args below meth c H locs _ _ _ (F0 m 12 ls [.int (nI 1)])
    refine lv_if_ne (tgt := 18) hx hb dX8_peace_12 (by decide) (fun _ => ?_) (fun c => absurd (show (nI 1) = 0 from c) (by decide +kernel))
    refine lv_iconst (v := (nI 0)) hx hb dX8_peace_18 (by decide +kernel) ?_
    refine lv_istore_n (lv' := [(2, .int (nI 0)), (0, .ref o), (1, .int wh)]) hx hb dX8_peace_19 rfl hl (by decide) rfl (fun ls hl => ?_)
    refine lv_iconst (v := (nI 1)) hx hb dX8_peace_20 (by decide +kernel) ?_
    refine lv_istore_n (lv' := [(3, .int (nI 1)), (2, .int (nI 0)), (0, .ref o), (1, .int wh)]) hx hb dX8_peace_21 rfl hl (by decide) rfl (fun ls hl => ?_)
    have L_4 : ∀ (fu : Nat) (k22 : Nat) (x22_2 : Int32), k22 ≤ 2 ^ n → 2 ^ n - k22 < fu → ∀ (H : Heap) (locs : List Loc) (ls : Array Slot), gW D T A s [(o, .inr (8, [.int (nI 0), .ref g1, .ref g2, .ref g3, .ref g4, .int (nI tp), .int w6, .int w7, .int w8, .int w9, .int w10, .int w11, .int w12, .int w13, .int w14, .ref g15, .int w16, .ref g17, .int w18, .int w19, .ref g20, .int w21, .ref g22, .ref g23, .ref g24, .int w25, .int w26, .int w27, .ref g28, .ref g29, .int w30, .ref g31, .ref g32, .ref g33])), (g1, .inl (T 0, 282, .inl fa))] H locs → lv_has ls 4 [(3, .int (nI k22)), (2, .int x22_2), (0, .ref o), (1, .int wh)] → W p l e (rmD 4 0 0) s m args below meth c H locs 0 0 (MQ below (gQ D A (q_m_peace T n o wh w0 g1 g2 g3 g4 tp w6 w7 w8 w9 w10 w11 w12 w13 w14 g15 w16 g17 w18 w19 g20 w21 g22 g23 g24 w25 w26 w27 g28 g29 w30 g31 g32 g33 fa)) args s 0 0 A) (F0 m 22 ls []) := by
      intro fu_22
      induction fu_22 with
      | zero => intro k22 x22_2 hk22 hmu; exact absurd hmu (Nat.not_lt_zero _)
      | succ fu_22 ih_22 =>
        intro k22 x22_2 hk22 hmu_22 H locs ls V hl
        refine lv_iload_n hx hb dX8_peace_22 rfl (lv_at hl 0 rfl) ?_
        refine lv_iconst (v := (nI 1)) hx hb dX8_peace_23 (by decide +kernel) ?_
        refine lv_aload_n hx hb dX8_peace_24 rfl (lv_at hl 2 rfl) ?_
        refine g_get hC V (ci := 8) uwX8 0 rfl rfl 1 (by decide) w_913 rfl rfl dX8_peace_25 ?_
        refine lv_iconst (v := (nI 0)) hx hb dX8_peace_28 (by decide +kernel) ?_
        refine g_iald hC V 1 rfl (vp_in_nI (by decide) (by decide)) (v := (nI n)) (by rw [nI_clamp (by decide)]; first | rfl | exact h_a.2.1) dX8_peace_29 ?_
        refine lv_ishl hx hb dX8_peace_30 ?_
        refine g_vi (y := (nI (2 ^ n))) (shl_pow (by omega)) ?_
        refine lv_icmp_ge (tgt := 55) hx hb dX8_peace_31 (by decide) (fun c_5 => ?_) (fun c_5 => ?_)
        · skip
          have c_5 := b_le (by omega) (by omega) c_5
          refine lv_iload_n hx hb dX8_peace_55 rfl (lv_at hl 3 rfl) ?_
          refine lv_if_ne (tgt := 67) hx hb dX8_peace_56 (by decide) (fun c_6 => ?_) (fun c_6 => ?_)
          · skip
            refine lv_iload_n hx hb dX8_peace_67 rfl (lv_at hl 1 rfl) ?_
            exact g_iret (Qr := (q_m_peace T n o wh w0 g1 g2 g3 g4 tp w6 w7 w8 w9 w10 w11 w12 w13 w14 g15 w16 g17 w18 w19 g20 w21 g22 g23 g24 w25 w26 w27 g28 g29 w30 g31 g32 g33 fa)) hC V ⟨(Nat.le_of_ble_eq_true rfl), (Nat.le_of_ble_eq_true rfl)⟩ ⟨x22_2, rfl, rfl⟩ dX8_peace_68
          · skip
            refine lv_aload_n hx hb dX8_peace_59 rfl (lv_at hl 2 rfl) ?_
            refine lv_iload_n hx hb dX8_peace_60 rfl (lv_at hl 1 rfl) ?_
            refine g_callV (wr := []) (nA := 1) hC V hl.1 (m_payOfAll l D T n o x22_2 (nI 0) g1 g2 g3 g4 tp w6 w7 w8 w9 w10 w11 w12 w13 w14 g15 w16 g17 w18 w19 g20 w21 g22 g23 g24 w25 w26 w27 g28 g29 w30 g31 g32 g33 fa h_a) w_1265 w_1267 w_s67 w_9 w_1268 (by decide +kernel) rfl ⟨(Nat.le_of_ble_eq_true rfl), (Nat.le_of_ble_eq_true rfl)⟩ 0 (ci := 8) rfl rfl [0, 1] [] rfl rfl rfl rfl (by decide) (Nat.le_of_ble_eq_true rfl) dX8_peace_61 ⟨(Nat.le_of_ble_eq_true rfl), (Nat.le_of_ble_eq_true rfl)⟩ rfl (fun r w1 H locs hQ V => ?_)
            obtain ⟨z_7, rfl, rfl⟩ := hQ
            have V : gW D T A s [(o, .inr (8, [.int (nI 0), .ref g1, .ref g2, .ref g3, .ref g4, .int (nI tp), .int w6, .int w7, .int w8, .int w9, .int w10, .int w11, .int w12, .int w13, .int w14, .ref g15, .int w16, .ref g17, .int w18, .int w19, .ref g20, .int w21, .ref g22, .ref g23, .ref g24, .int w25, .int w26, .int w27, .ref g28, .ref g29, .int w30, .ref g31, .ref g32, .ref g33])), (g1, .inl (T 0, 282, .inl fa))] H locs := V
            show W p l e _ s m args below meth c H locs _ _ _ (F0 m 64 ls [.int z_7])
            refine lv_goto (tgt := 68) hx hb dX8_peace_64 (by decide) ?_
            exact g_iret (Qr := (q_m_peace T n o wh w0 g1 g2 g3 g4 tp w6 w7 w8 w9 w10 w11 w12 w13 w14 g15 w16 g17 w18 w19 g20 w21 g22 g23 g24 w25 w26 w27 g28 g29 w30 g31 g32 g33 fa)) hC V ⟨(Nat.le_of_ble_eq_true rfl), (Nat.le_of_ble_eq_true rfl)⟩ ⟨z_7, rfl, rfl⟩ dX8_peace_68
        · skip
          have c_5 := b_nle (by omega) (by omega) c_5
          refine lv_aload_n hx hb dX8_peace_34 rfl (lv_at hl 2 rfl) ?_
          refine lv_iload_n hx hb dX8_peace_35 rfl (lv_at hl 0 rfl) ?_
          refine g_callV (wr := []) (nA := 1) hC V hl.1 (m_payOfAll l D T n o (nI k22) (nI 0) g1 g2 g3 g4 tp w6 w7 w8 w9 w10 w11 w12 w13 w14 g15 w16 g17 w18 w19 g20 w21 g22 g23 g24 w25 w26 w27 g28 g29 w30 g31 g32 g33 fa h_a) w_1265 w_1267 w_s67 w_9 w_1268 (by decide +kernel) rfl ⟨(Nat.le_of_ble_eq_true rfl), (Nat.le_of_ble_eq_true rfl)⟩ 0 (ci := 8) rfl rfl [0, 1] [] rfl rfl rfl rfl (by decide) (Nat.le_of_ble_eq_true rfl) dX8_peace_36 ⟨(Nat.le_of_ble_eq_true rfl), (Nat.le_of_ble_eq_true rfl)⟩ rfl (fun r w1 H locs hQ V => ?_)
          obtain ⟨z_8, rfl, rfl⟩ := hQ
          have V : gW D T A s [(o, .inr (8, [.int (nI 0), .ref g1, .ref g2, .ref g3, .ref g4, .int (nI tp), .int w6, .int w7, .int w8, .int w9, .int w10, .int w11, .int w12, .int w13, .int w14, .ref g15, .int w16, .ref g17, .int w18, .int w19, .ref g20, .int w21, .ref g22, .ref g23, .ref g24, .int w25, .int w26, .int w27, .ref g28, .ref g29, .int w30, .ref g31, .ref g32, .ref g33])), (g1, .inl (T 0, 282, .inl fa))] H locs := V
          show W p l e _ s m args below meth c H locs _ _ _ (F0 m 39 ls [.int z_8])
          refine lv_aload_n hx hb dX8_peace_39 rfl (lv_at hl 2 rfl) ?_
          refine lv_iload_n hx hb dX8_peace_40 rfl (lv_at hl 1 rfl) ?_
          refine g_callV (wr := []) (nA := 1) hC V hl.1 (m_payOfAll l D T n o x22_2 (nI 0) g1 g2 g3 g4 tp w6 w7 w8 w9 w10 w11 w12 w13 w14 g15 w16 g17 w18 w19 g20 w21 g22 g23 g24 w25 w26 w27 g28 g29 w30 g31 g32 g33 fa h_a) w_1265 w_1267 w_s67 w_9 w_1268 (by decide +kernel) rfl ⟨(Nat.le_of_ble_eq_true rfl), (Nat.le_of_ble_eq_true rfl)⟩ 0 (ci := 8) rfl rfl [0, 1] [] rfl rfl rfl rfl (by decide) (Nat.le_of_ble_eq_true rfl) dX8_peace_41 ⟨(Nat.le_of_ble_eq_true rfl), (Nat.le_of_ble_eq_true rfl)⟩ rfl (fun r w1 H locs hQ V => ?_)
          obtain ⟨z_9, rfl, rfl⟩ := hQ
          have V : gW D T A s [(o, .inr (8, [.int (nI 0), .ref g1, .ref g2, .ref g3, .ref g4, .int (nI tp), .int w6, .int w7, .int w8, .int w9, .int w10, .int w11, .int w12, .int w13, .int w14, .ref g15, .int w16, .ref g17, .int w18, .int w19, .ref g20, .int w21, .ref g22, .ref g23, .ref g24, .int w25, .int w26, .int w27, .ref g28, .ref g29, .int w30, .ref g31, .ref g32, .ref g33])), (g1, .inl (T 0, 282, .inl fa))] H locs := V
          show W p l e _ s m args below meth c H locs _ _ _ (F0 m 44 ls [.int z_9, .int z_8])
          refine lv_icmp_le (tgt := 49) hx hb dX8_peace_44 (by decide) (fun c_10 => ?_) (fun c_10 => ?_)
          · skip
            refine lv_iinc (v := (nI (k22 + 1))) (lv' := [(3, .int (nI (k22 + 1))), (2, .int x22_2), (0, .ref o), (1, .int wh)]) hx hb dX8_peace_49 hl (k := 0) rfl (nI_1 _) (by decide) rfl (fun ls hl => ?_)
            refine lv_goto (tgt := 22) hx hb dX8_peace_52 (by decide) ?_
            exact ih_22 (k22 + 1) x22_2 (by omega) (by omega) _ _ _ V (lv_sub hl [0, 1, 2, 3] rfl)
          · skip
            refine lv_iload_n hx hb dX8_peace_47 rfl (lv_at hl 0 rfl) ?_
            refine lv_istore_n (lv' := [(2, .int (nI k22)), (3, .int (nI k22)), (0, .ref o), (1, .int wh)]) hx hb dX8_peace_48 rfl hl (by decide) rfl (fun ls hl => ?_)
            refine lv_iinc (v := (nI (k22 + 1))) (lv' := [(3, .int (nI (k22 + 1))), (2, .int (nI k22)), (0, .ref o), (1, .int wh)]) hx hb dX8_peace_49 hl (k := 1) rfl (nI_1 _) (by decide) rfl (fun ls hl => ?_)
            refine lv_goto (tgt := 22) hx hb dX8_peace_52 (by decide) ?_
            exact ih_22 (k22 + 1) (nI k22) (by omega) (by omega) _ _ _ V (lv_sub hl [0, 1, 2, 3] rfl)
    exact L_4 _ 1 (nI 0) (by omega) (Nat.lt_succ_self _) _ _ _ V (lv_sub hl [0, 1, 2, 3] rfl)
  · have V : gW D T A s [(o, .inr (8, [.int (nI 0), .ref g1, .ref g2, .ref g3, .ref g4, .int (nI tp), .int w6, .int w7, .int w8, .int w9, .int w10, .int w11, .int w12, .int w13, .int w14, .ref g15, .int w16, .ref g17, .int w18, .int w19, .ref g20, .int w21, .ref g22, .ref g23, .ref g24, .int w25, .int w26, .int w27, .ref g28, .ref g29, .int w30, .ref g31, .ref g32, .ref g33])), (g1, .inl (T 0, 282, .inl fa))] H locs := V _ [] rfl rfl rfl (by decide +kernel) rfl
    show W p l e _ s m args below meth c H locs _ _ _ (F0 m 12 ls [.int (nI 0)])
    refine lv_if_ne (tgt := 18) hx hb dX8_peace_12 (by decide) (fun c => absurd (show (nI 0) = 0 by decide +kernel) c) (fun _ => ?_)
    refine lv_bipush (v := (-2)) hx hb dX8_peace_15 (by decide +kernel) ?_
    exact g_iret (Qr := (q_m_peace T n o wh w0 g1 g2 g3 g4 tp w6 w7 w8 w9 w10 w11 w12 w13 w14 g15 w16 g17 w18 w19 g20 w21 g22 g23 g24 w25 w26 w27 g28 g29 w30 g31 g32 g33 fa)) hC V ⟨(Nat.le_of_ble_eq_true rfl), (Nat.le_of_ble_eq_true rfl)⟩ ⟨(-2), rfl, rfl⟩ dX8_peace_17

def q_m_selfish (T : Nat → ClassId) (n : Nat) (o : Nat) (k : Int32) (w0 : Int32) (g1 : Nat) (g2 : Nat) (g3 : Nat) (g4 : Nat) (tp : Nat) (w6 : Int32) (w7 : Int32) (w8 : Int32) (w9 : Int32) (w10 : Int32) (w11 : Int32) (w12 : Int32) (w13 : Int32) (w14 : Int32) (g15 : Nat) (w16 : Int32) (g17 : Nat) (w18 : Int32) (w19 : Int32) (g20 : Nat) (w21 : Int32) (g22 : Nat) (g23 : Nat) (g24 : Nat) (w25 : Int32) (w26 : Int32) (w27 : Int32) (g28 : Nat) (g29 : Nat) (w30 : Int32) (g31 : Nat) (g32 : Nat) (g33 : Nat) (fa : Nat → Int32) : Option Value → va_W → Prop := fun rr ww => (∃ (z : Int32), rr = some (.int z) ∧ ww = [(o, .inr (8, [.int (nI 0), .ref g1, .ref g2, .ref g3, .ref g4, .int (nI tp), .int w6, .int w7, .int w8, .int w9, .int w10, .int w11, .int w12, .int w13, .int w14, .ref g15, .int w16, .ref g17, .int w18, .int w19, .ref g20, .int w21, .ref g22, .ref g23, .ref g24, .int w25, .int w26, .int w27, .ref g28, .ref g29, .int w30, .ref g31, .ref g32, .ref g33])), (g1, .inl (T 0, 282, .inl fa))])
set_option maxHeartbeats 4000000 in
set_option maxRecDepth 100000 in
theorem m_selfish (l : Launch) (D : va_G) (T : Nat → ClassId) (n : Nat) (o : Nat) (k : Int32) (w0 : Int32) (g1 : Nat) (g2 : Nat) (g3 : Nat) (g4 : Nat) (tp : Nat) (w6 : Int32) (w7 : Int32) (w8 : Int32) (w9 : Int32) (w10 : Int32) (w11 : Int32) (w12 : Int32) (w13 : Int32) (w14 : Int32) (g15 : Nat) (w16 : Int32) (g17 : Nat) (w18 : Int32) (w19 : Int32) (g20 : Nat) (w21 : Int32) (g22 : Nat) (g23 : Nat) (g24 : Nat) (w25 : Int32) (w26 : Int32) (w27 : Int32) (g28 : Nat) (g29 : Nat) (w30 : Int32) (g31 : Nat) (g32 : Nat) (g33 : Nat) (fa : Nat → Int32) (h_a : MI n fa) : Ct l yX8_selfish cX8_selfish 6 (some .int) 3 0 0 D T [.ref o, .int k] [(o, .inr (8, [.int w0, .ref g1, .ref g2, .ref g3, .ref g4, .int (nI tp), .int w6, .int w7, .int w8, .int w9, .int w10, .int w11, .int w12, .int w13, .int w14, .ref g15, .int w16, .ref g17, .int w18, .int w19, .ref g20, .int w21, .ref g22, .ref g23, .ref g24, .int w25, .int w26, .int w27, .ref g28, .ref g29, .int w30, .ref g31, .ref g32, .ref g33])), (g1, .inl (T 0, 282, .inl fa))] (q_m_selfish T n o k w0 g1 g2 g3 g4 tp w6 w7 w8 w9 w10 w11 w12 w13 w14 g15 w16 g17 w18 w19 g20 w21 g22 g23 g24 w25 w26 w27 g28 g29 w30 g31 g32 g33 fa) := by
  refine Ct.of (cc := cX8_selfish) (maxL := 6) (ret := (some .int)) (by decide) (Nat.le_of_ble_eq_true rfl) ?_
  intro p e s m args below meth c A ls hC hnm V hl
  obtain ⟨hx, hb, hr, hml, hown, hts, hlocks⟩ := id hC
  generalize hH : s.heap = H at V ⊢
  clear hH
  have hl : lv_has ls 6 [(0, .ref o), (1, .int k)] := hl
  generalize hlo : ([] : List Loc) = locs at V ⊢
  clear hlo
  have ms0 := ms_rf h_a
  have hn10 := h_a.1
  have hpw := pw10 hn10
  refine lv_aload_n hx hb dX8_selfish_0 rfl (lv_at hl 0 rfl) ?_
  refine lv_iconst (v := (nI 0)) hx hb dX8_selfish_1 (by decide +kernel) ?_
  refine g_put hC V (ci := 8) uwX8 tyX8 tyX8_ok nmX8 0 rfl rfl 0 (by decide) w_912 rfl rfl rfl rfl (Nat.le_of_ble_eq_true rfl) (ws' := [(o, .inr (8, [.int (nI 0), .ref g1, .ref g2, .ref g3, .ref g4, .int (nI tp), .int w6, .int w7, .int w8, .int w9, .int w10, .int w11, .int w12, .int w13, .int w14, .ref g15, .int w16, .ref g17, .int w18, .int w19, .ref g20, .int w21, .ref g22, .ref g23, .ref g24, .int w25, .int w26, .int w27, .ref g28, .ref g29, .int w30, .ref g31, .ref g32, .ref g33])), (g1, .inl (T 0, 282, .inl fa))]) rfl dX8_selfish_2 (fun H locs V => ?_)
  refine lv_iconst (v := (nI 0)) hx hb dX8_selfish_5 (by decide +kernel) ?_
  refine lv_istore_n (lv' := [(2, .int (nI 0)), (0, .ref o), (1, .int k)]) hx hb dX8_selfish_6 rfl hl (by decide) rfl (fun ls hl => ?_)
  refine lv_iconst (v := (nI 0)) hx hb dX8_selfish_7 (by decide +kernel) ?_
  refine lv_istore_n (lv' := [(3, .int (nI 0)), (2, .int (nI 0)), (0, .ref o), (1, .int k)]) hx hb dX8_selfish_8 rfl hl (by decide) rfl (fun ls hl => ?_)
  have L_1 : ∀ (fu : Nat) (k9 : Nat) (x9_2 : Int32), k9 ≤ 2 ^ n → 2 ^ n - k9 < fu → ∀ (H : Heap) (locs : List Loc) (ls : Array Slot), gW D T A s [(o, .inr (8, [.int (nI 0), .ref g1, .ref g2, .ref g3, .ref g4, .int (nI tp), .int w6, .int w7, .int w8, .int w9, .int w10, .int w11, .int w12, .int w13, .int w14, .ref g15, .int w16, .ref g17, .int w18, .int w19, .ref g20, .int w21, .ref g22, .ref g23, .ref g24, .int w25, .int w26, .int w27, .ref g28, .ref g29, .int w30, .ref g31, .ref g32, .ref g33])), (g1, .inl (T 0, 282, .inl fa))] H locs → lv_has ls 6 [(3, .int (nI k9)), (2, .int x9_2), (0, .ref o), (1, .int k)] → W p l e (rmD 3 0 0) s m args below meth c H locs 0 0 (MQ below (gQ D A (q_m_selfish T n o k w0 g1 g2 g3 g4 tp w6 w7 w8 w9 w10 w11 w12 w13 w14 g15 w16 g17 w18 w19 g20 w21 g22 g23 g24 w25 w26 w27 g28 g29 w30 g31 g32 g33 fa)) args s 0 0 A) (F0 m 9 ls []) := by
    intro fu_9
    induction fu_9 with
    | zero => intro k9 x9_2 hk9 hmu; exact absurd hmu (Nat.not_lt_zero _)
    | succ fu_9 ih_9 =>
      intro k9 x9_2 hk9 hmu_9 H locs ls V hl
      refine lv_iload_n hx hb dX8_selfish_9 rfl (lv_at hl 0 rfl) ?_
      refine lv_iconst (v := (nI 1)) hx hb dX8_selfish_10 (by decide +kernel) ?_
      refine lv_aload_n hx hb dX8_selfish_11 rfl (lv_at hl 2 rfl) ?_
      refine g_get hC V (ci := 8) uwX8 0 rfl rfl 1 (by decide) w_913 rfl rfl dX8_selfish_12 ?_
      refine lv_iconst (v := (nI 0)) hx hb dX8_selfish_15 (by decide +kernel) ?_
      refine g_iald hC V 1 rfl (vp_in_nI (by decide) (by decide)) (v := (nI n)) (by rw [nI_clamp (by decide)]; first | rfl | exact h_a.2.1) dX8_selfish_16 ?_
      refine lv_ishl hx hb dX8_selfish_17 ?_
      refine g_vi (y := (nI (2 ^ n))) (shl_pow (by omega)) ?_
      refine lv_icmp_ge (tgt := 102) hx hb dX8_selfish_18 (by decide) (fun c_2 => ?_) (fun c_2 => ?_)
      · skip
        have c_2 := b_le (by omega) (by omega) c_2
        refine lv_iload_n hx hb dX8_selfish_102 rfl (lv_at hl 3 rfl) ?_
        refine lv_iconst (v := (-1)) hx hb dX8_selfish_103 (by decide +kernel) ?_
        refine lv_icmp_ne (tgt := 111) hx hb dX8_selfish_104 (by decide) (fun c_3 => ?_) (fun c_3 => ?_)
        · skip
          refine lv_iconst (v := (-1)) hx hb dX8_selfish_111 (by decide +kernel) ?_
          exact g_iret (Qr := (q_m_selfish T n o k w0 g1 g2 g3 g4 tp w6 w7 w8 w9 w10 w11 w12 w13 w14 g15 w16 g17 w18 w19 g20 w21 g22 g23 g24 w25 w26 w27 g28 g29 w30 g31 g32 g33 fa)) hC V ⟨(Nat.le_of_ble_eq_true rfl), (Nat.le_of_ble_eq_true rfl)⟩ ⟨(-1), rfl, rfl⟩ dX8_selfish_112
        · skip
          refine lv_iload_n hx hb dX8_selfish_107 rfl (lv_at hl 1 rfl) ?_
          refine lv_goto (tgt := 112) hx hb dX8_selfish_108 (by decide) ?_
          exact g_iret (Qr := (q_m_selfish T n o k w0 g1 g2 g3 g4 tp w6 w7 w8 w9 w10 w11 w12 w13 w14 g15 w16 g17 w18 w19 g20 w21 g22 g23 g24 w25 w26 w27 g28 g29 w30 g31 g32 g33 fa)) hC V ⟨(Nat.le_of_ble_eq_true rfl), (Nat.le_of_ble_eq_true rfl)⟩ ⟨x9_2, rfl, rfl⟩ dX8_selfish_112
      · skip
        have c_2 := b_nle (by omega) (by omega) c_2
        refine lv_iconst (v := (nI 1)) hx hb dX8_selfish_21 (by decide +kernel) ?_
        refine lv_istore (lv' := [(4, .int (nI 1)), (3, .int (nI k9)), (2, .int x9_2), (0, .ref o), (1, .int k)]) hx hb dX8_selfish_22 hl (by decide) rfl (fun ls hl => ?_)
        refine lv_iconst (v := (nI 0)) hx hb dX8_selfish_24 (by decide +kernel) ?_
        refine lv_istore (lv' := [(5, .int (nI 0)), (4, .int (nI 1)), (3, .int (nI k9)), (2, .int x9_2), (0, .ref o), (1, .int k)]) hx hb dX8_selfish_25 hl (by decide) rfl (fun ls hl => ?_)
        have L_4 : ∀ (fu : Nat) (k27 : Nat) (x27_4 : Int32), k27 ≤ n → n - k27 < fu → ∀ (H : Heap) (locs : List Loc) (ls : Array Slot), gW D T A s [(o, .inr (8, [.int (nI 0), .ref g1, .ref g2, .ref g3, .ref g4, .int (nI tp), .int w6, .int w7, .int w8, .int w9, .int w10, .int w11, .int w12, .int w13, .int w14, .ref g15, .int w16, .ref g17, .int w18, .int w19, .ref g20, .int w21, .ref g22, .ref g23, .ref g24, .int w25, .int w26, .int w27, .ref g28, .ref g29, .int w30, .ref g31, .ref g32, .ref g33])), (g1, .inl (T 0, 282, .inl fa))] H locs → lv_has ls 6 [(5, .int (nI k27)), (4, .int x27_4), (3, .int (nI k9)), (2, .int x9_2), (0, .ref o), (1, .int k)] → W p l e (rmD 3 0 0) s m args below meth c H locs 0 0 (MQ below (gQ D A (q_m_selfish T n o k w0 g1 g2 g3 g4 tp w6 w7 w8 w9 w10 w11 w12 w13 w14 g15 w16 g17 w18 w19 g20 w21 g22 g23 g24 w25 w26 w27 g28 g29 w30 g31 g32 g33 fa)) args s 0 0 A) (F0 m 27 ls []) := by
          intro fu_27
          induction fu_27 with
          | zero => intro k27 x27_4 hk27 hmu; exact absurd hmu (Nat.not_lt_zero _)
          | succ fu_27 ih_27 =>
            intro k27 x27_4 hk27 hmu_27 H locs ls V hl
            refine lv_iload hx hb dX8_selfish_27 (lv_at hl 0 rfl) ?_
            refine lv_aload_n hx hb dX8_selfish_29 rfl (lv_at hl 4 rfl) ?_
            refine g_get hC V (ci := 8) uwX8 0 rfl rfl 1 (by decide) w_913 rfl rfl dX8_selfish_30 ?_
            refine lv_iconst (v := (nI 0)) hx hb dX8_selfish_33 (by decide +kernel) ?_
            refine g_iald hC V 1 rfl (vp_in_nI (by decide) (by decide)) (v := (nI n)) (by rw [nI_clamp (by decide)]; first | rfl | exact h_a.2.1) dX8_selfish_34 ?_
            refine lv_icmp_ge (tgt := 78) hx hb dX8_selfish_35 (by decide) (fun c_5 => ?_) (fun c_5 => ?_)
            · skip
              have c_5 := b_le (by omega) (by omega) c_5
              refine lv_iload hx hb dX8_selfish_78 (lv_at hl 1 rfl) ?_
              refine lv_if_ne (tgt := 86) hx hb dX8_selfish_80 (by decide) (fun c_6 => ?_) (fun c_6 => ?_)
              · skip
                refine lv_iload_n hx hb dX8_selfish_86 rfl (lv_at hl 3 rfl) ?_
                refine lv_iload_n hx hb dX8_selfish_87 rfl (lv_at hl 5 rfl) ?_
                refine lv_icmp_ne (tgt := 93) hx hb dX8_selfish_88 (by decide) (fun c_7 => ?_) (fun c_7 => ?_)
                · skip
                  refine lv_iinc (v := (x9_2 + 1)) (lv' := [(2, .int (x9_2 + 1)), (5, .int (nI k27)), (4, .int x27_4), (3, .int (nI k9)), (0, .ref o), (1, .int k)]) hx hb dX8_selfish_93 hl (k := 3) rfl rfl (by decide) rfl (fun ls hl => ?_)
                  refine lv_iinc (v := (nI (k9 + 1))) (lv' := [(3, .int (nI (k9 + 1))), (2, .int (x9_2 + 1)), (5, .int (nI k27)), (4, .int x27_4), (0, .ref o), (1, .int k)]) hx hb dX8_selfish_96 hl (k := 3) rfl (nI_1 _) (by decide) rfl (fun ls hl => ?_)
                  refine lv_goto (tgt := 9) hx hb dX8_selfish_99 (by decide) ?_
                  exact ih_9 (k9 + 1) (x9_2 + 1) (by omega) (by omega) _ _ _ V (lv_sub hl [0, 1, 4, 5] rfl)
                · skip
                  refine lv_iload_n hx hb dX8_selfish_91 rfl (lv_at hl 2 rfl) ?_
                  exact g_iret (Qr := (q_m_selfish T n o k w0 g1 g2 g3 g4 tp w6 w7 w8 w9 w10 w11 w12 w13 w14 g15 w16 g17 w18 w19 g20 w21 g22 g23 g24 w25 w26 w27 g28 g29 w30 g31 g32 g33 fa)) hC V ⟨(Nat.le_of_ble_eq_true rfl), (Nat.le_of_ble_eq_true rfl)⟩ ⟨(nI k9), rfl, rfl⟩ dX8_selfish_92
              · skip
                refine lv_goto (tgt := 96) hx hb dX8_selfish_83 (by decide) ?_
                refine lv_iinc (v := (nI (k9 + 1))) (lv' := [(3, .int (nI (k9 + 1))), (5, .int (nI k27)), (4, .int x27_4), (2, .int x9_2), (0, .ref o), (1, .int k)]) hx hb dX8_selfish_96 hl (k := 2) rfl (nI_1 _) (by decide) rfl (fun ls hl => ?_)
                refine lv_goto (tgt := 9) hx hb dX8_selfish_99 (by decide) ?_
                exact ih_9 (k9 + 1) x9_2 (by omega) (by omega) _ _ _ V (lv_sub hl [0, 3, 4, 5] rfl)
            · skip
              have c_5 := b_nle (by omega) (by omega) c_5
              refine lv_iload hx hb dX8_selfish_38 (lv_at hl 1 rfl) ?_
              refine lv_if_eq (tgt := 78) hx hb dX8_selfish_40 (by decide) (fun c_8 => ?_) (fun c_8 => ?_)
              · skip
                refine lv_iload hx hb dX8_selfish_78 (lv_at hl 1 rfl) ?_
                refine lv_if_ne (tgt := 86) hx hb dX8_selfish_80 (by decide) (fun c_9 => ?_) (fun c_9 => ?_)
                · skip
                  refine lv_iload_n hx hb dX8_selfish_86 rfl (lv_at hl 3 rfl) ?_
                  refine lv_iload_n hx hb dX8_selfish_87 rfl (lv_at hl 5 rfl) ?_
                  refine lv_icmp_ne (tgt := 93) hx hb dX8_selfish_88 (by decide) (fun c_10 => ?_) (fun c_10 => ?_)
                  · skip
                    refine lv_iinc (v := (x9_2 + 1)) (lv' := [(2, .int (x9_2 + 1)), (5, .int (nI k27)), (4, .int x27_4), (3, .int (nI k9)), (0, .ref o), (1, .int k)]) hx hb dX8_selfish_93 hl (k := 3) rfl rfl (by decide) rfl (fun ls hl => ?_)
                    refine lv_iinc (v := (nI (k9 + 1))) (lv' := [(3, .int (nI (k9 + 1))), (2, .int (x9_2 + 1)), (5, .int (nI k27)), (4, .int x27_4), (0, .ref o), (1, .int k)]) hx hb dX8_selfish_96 hl (k := 3) rfl (nI_1 _) (by decide) rfl (fun ls hl => ?_)
                    refine lv_goto (tgt := 9) hx hb dX8_selfish_99 (by decide) ?_
                    exact ih_9 (k9 + 1) (x9_2 + 1) (by omega) (by omega) _ _ _ V (lv_sub hl [0, 1, 4, 5] rfl)
                  · skip
                    refine lv_iload_n hx hb dX8_selfish_91 rfl (lv_at hl 2 rfl) ?_
                    exact g_iret (Qr := (q_m_selfish T n o k w0 g1 g2 g3 g4 tp w6 w7 w8 w9 w10 w11 w12 w13 w14 g15 w16 g17 w18 w19 g20 w21 g22 g23 g24 w25 w26 w27 g28 g29 w30 g31 g32 g33 fa)) hC V ⟨(Nat.le_of_ble_eq_true rfl), (Nat.le_of_ble_eq_true rfl)⟩ ⟨(nI k9), rfl, rfl⟩ dX8_selfish_92
                · skip
                  refine lv_goto (tgt := 96) hx hb dX8_selfish_83 (by decide) ?_
                  refine lv_iinc (v := (nI (k9 + 1))) (lv' := [(3, .int (nI (k9 + 1))), (5, .int (nI k27)), (4, .int x27_4), (2, .int x9_2), (0, .ref o), (1, .int k)]) hx hb dX8_selfish_96 hl (k := 2) rfl (nI_1 _) (by decide) rfl (fun ls hl => ?_)
                  refine lv_goto (tgt := 9) hx hb dX8_selfish_99 (by decide) ?_
                  exact ih_9 (k9 + 1) x9_2 (by omega) (by omega) _ _ _ V (lv_sub hl [0, 3, 4, 5] rfl)
              · skip
                refine lv_aload_n hx hb dX8_selfish_43 rfl (lv_at hl 4 rfl) ?_
                refine lv_iload hx hb dX8_selfish_44 (lv_at hl 0 rfl) ?_
                refine lv_iload_n hx hb dX8_selfish_46 rfl (lv_at hl 2 rfl) ?_
                refine lv_iconst (v := (nI 1)) hx hb dX8_selfish_47 (by decide +kernel) ?_
                refine lv_iload hx hb dX8_selfish_48 (lv_at hl 0 rfl) ?_
                refine lv_ishl hx hb dX8_selfish_50 ?_
                refine lv_ixor hx hb dX8_selfish_51 ?_
                refine g_callV (wr := []) (nA := 2) hC V hl.1 (m_payOf l D T n o k27 ((nI k9) ^^^ ((nI 1) <<< ((nI k27) &&& 31))) (nI 0) g1 g2 g3 g4 tp w6 w7 w8 w9 w10 w11 w12 w13 w14 g15 w16 g17 w18 w19 g20 w21 g22 g23 g24 w25 w26 w27 g28 g29 w30 g31 g32 g33 fa h_a (by first | assumption | omega)) w_1269 w_1271 w_s68 w_9 w_1272 (by decide +kernel) rfl ⟨(Nat.le_of_ble_eq_true rfl), (Nat.le_of_ble_eq_true rfl)⟩ 0 (ci := 8) rfl rfl [0, 1] [] rfl rfl rfl rfl (by decide) (Nat.le_of_ble_eq_true rfl) dX8_selfish_52 ⟨(Nat.le_of_ble_eq_true rfl), (Nat.le_of_ble_eq_true rfl)⟩ rfl (fun r w1 H locs hQ V => ?_)
                obtain ⟨z_11, rfl, rfl⟩ := hQ
                have V : gW D T A s [(o, .inr (8, [.int (nI 0), .ref g1, .ref g2, .ref g3, .ref g4, .int (nI tp), .int w6, .int w7, .int w8, .int w9, .int w10, .int w11, .int w12, .int w13, .int w14, .ref g15, .int w16, .ref g17, .int w18, .int w19, .ref g20, .int w21, .ref g22, .ref g23, .ref g24, .int w25, .int w26, .int w27, .ref g28, .ref g29, .int w30, .ref g31, .ref g32, .ref g33])), (g1, .inl (T 0, 282, .inl fa))] H locs := V
                show W p l e _ s m args below meth c H locs _ _ _ (F0 m 55 ls [.int z_11])
                refine lv_aload_n hx hb dX8_selfish_55 rfl (lv_at hl 4 rfl) ?_
                refine lv_iload hx hb dX8_selfish_56 (lv_at hl 0 rfl) ?_
                refine lv_iload_n hx hb dX8_selfish_58 rfl (lv_at hl 2 rfl) ?_
                refine g_callV (wr := []) (nA := 2) hC V hl.1 (m_payOf l D T n o k27 (nI k9) (nI 0) g1 g2 g3 g4 tp w6 w7 w8 w9 w10 w11 w12 w13 w14 g15 w16 g17 w18 w19 g20 w21 g22 g23 g24 w25 w26 w27 g28 g29 w30 g31 g32 g33 fa h_a (by first | assumption | omega)) w_1269 w_1271 w_s68 w_9 w_1272 (by decide +kernel) rfl ⟨(Nat.le_of_ble_eq_true rfl), (Nat.le_of_ble_eq_true rfl)⟩ 0 (ci := 8) rfl rfl [0, 1] [] rfl rfl rfl rfl (by decide) (Nat.le_of_ble_eq_true rfl) dX8_selfish_59 ⟨(Nat.le_of_ble_eq_true rfl), (Nat.le_of_ble_eq_true rfl)⟩ rfl (fun r w1 H locs hQ V => ?_)
                obtain ⟨z_12, rfl, rfl⟩ := hQ
                have V : gW D T A s [(o, .inr (8, [.int (nI 0), .ref g1, .ref g2, .ref g3, .ref g4, .int (nI tp), .int w6, .int w7, .int w8, .int w9, .int w10, .int w11, .int w12, .int w13, .int w14, .ref g15, .int w16, .ref g17, .int w18, .int w19, .ref g20, .int w21, .ref g22, .ref g23, .ref g24, .int w25, .int w26, .int w27, .ref g28, .ref g29, .int w30, .ref g31, .ref g32, .ref g33])), (g1, .inl (T 0, 282, .inl fa))] H locs := V
                show W p l e _ s m args below meth c H locs _ _ _ (F0 m 62 ls [.int z_12, .int z_11])
                refine lv_icmp_gt (tgt := 69) hx hb dX8_selfish_62 (by decide) (fun c_13 => ?_) (fun c_13 => ?_)
                · skip
                  refine lv_iconst (v := (nI 0)) hx hb dX8_selfish_69 (by decide +kernel) ?_
                  refine lv_istore (lv' := [(4, .int (nI 0)), (5, .int (nI k27)), (3, .int (nI k9)), (2, .int x9_2), (0, .ref o), (1, .int k)]) hx hb dX8_selfish_70 hl (by decide) rfl (fun ls hl => ?_)
                  refine lv_iinc (v := (nI (k27 + 1))) (lv' := [(5, .int (nI (k27 + 1))), (4, .int (nI 0)), (3, .int (nI k9)), (2, .int x9_2), (0, .ref o), (1, .int k)]) hx hb dX8_selfish_72 hl (k := 1) rfl (nI_1 _) (by decide) rfl (fun ls hl => ?_)
                  refine lv_goto (tgt := 27) hx hb dX8_selfish_75 (by decide) ?_
                  exact ih_27 (k27 + 1) (nI 0) (by omega) (by omega) _ _ _ V (lv_sub hl [0, 1, 2, 3, 4, 5] rfl)
                · skip
                  refine lv_iconst (v := (nI 1)) hx hb dX8_selfish_65 (by decide +kernel) ?_
                  refine lv_goto (tgt := 70) hx hb dX8_selfish_66 (by decide) ?_
                  refine lv_istore (lv' := [(4, .int (nI 1)), (5, .int (nI k27)), (3, .int (nI k9)), (2, .int x9_2), (0, .ref o), (1, .int k)]) hx hb dX8_selfish_70 hl (by decide) rfl (fun ls hl => ?_)
                  refine lv_iinc (v := (nI (k27 + 1))) (lv' := [(5, .int (nI (k27 + 1))), (4, .int (nI 1)), (3, .int (nI k9)), (2, .int x9_2), (0, .ref o), (1, .int k)]) hx hb dX8_selfish_72 hl (k := 1) rfl (nI_1 _) (by decide) rfl (fun ls hl => ?_)
                  refine lv_goto (tgt := 27) hx hb dX8_selfish_75 (by decide) ?_
                  exact ih_27 (k27 + 1) (nI 1) (by omega) (by omega) _ _ _ V (lv_sub hl [0, 1, 2, 3, 4, 5] rfl)
        exact L_4 _ 0 (nI 1) (by omega) (Nat.lt_succ_self _) _ _ _ V (lv_sub hl [0, 1, 2, 3, 4, 5] rfl)
  exact L_1 _ 0 (nI 0) (by omega) (Nat.lt_succ_self _) _ _ _ V (lv_sub hl [0, 1, 2, 3] rfl)

def q_m_waysSeen (T : Nat → ClassId) (n : Nat) (o : Nat) (r : Nat) (w0 : Int32) (g1 : Nat) (g2 : Nat) (g3 : Nat) (g4 : Nat) (tp : Nat) (w6 : Int32) (w7 : Int32) (w8 : Int32) (w9 : Int32) (w10 : Int32) (w11 : Int32) (w12 : Int32) (w13 : Int32) (w14 : Int32) (g15 : Nat) (w16 : Int32) (g17 : Nat) (w18 : Int32) (w19 : Int32) (g20 : Nat) (w21 : Int32) (g22 : Nat) (g23 : Nat) (g24 : Nat) (w25 : Int32) (w26 : Int32) (w27 : Int32) (g28 : Nat) (g29 : Nat) (w30 : Int32) (g31 : Nat) (g32 : Nat) (g33 : Nat) (fa : Nat → Int32) (fm : Nat → Int32) (fn : Nat → Int64) : Option Value → va_W → Prop := fun rr ww => (∃ (z : Int32) (x1 : Int32) (x2 : Int32), rr = some (.int z) ∧ ww = [(o, .inr (8, [.int w0, .ref g1, .ref g2, .ref g3, .ref g4, .int (nI tp), .int w6, .int w7, .int w8, .int w9, .int w10, .int w11, .int w12, .int w13, .int w14, .ref g15, .int w16, .ref g17, .int w18, .int w19, .ref g20, .int w21, .ref g22, .ref g23, .ref g24, .int w25, .int x1, .int x2, .ref g28, .ref g29, .int w30, .ref g31, .ref g32, .ref g33])), (g1, .inl (T 0, 282, .inl fa)), (g32, .inl (T 0, 4, .inl fm)), (g33, .inl (T 1, 160, .inr (.inl fn)))])
set_option maxHeartbeats 4000000 in
set_option maxRecDepth 100000 in
theorem m_waysSeen (l : Launch) (D : va_G) (T : Nat → ClassId) (n : Nat) (o : Nat) (r : Nat) (w0 : Int32) (g1 : Nat) (g2 : Nat) (g3 : Nat) (g4 : Nat) (tp : Nat) (w6 : Int32) (w7 : Int32) (w8 : Int32) (w9 : Int32) (w10 : Int32) (w11 : Int32) (w12 : Int32) (w13 : Int32) (w14 : Int32) (g15 : Nat) (w16 : Int32) (g17 : Nat) (w18 : Int32) (w19 : Int32) (g20 : Nat) (w21 : Int32) (g22 : Nat) (g23 : Nat) (g24 : Nat) (w25 : Int32) (w26 : Int32) (w27 : Int32) (g28 : Nat) (g29 : Nat) (w30 : Int32) (g31 : Nat) (g32 : Nat) (g33 : Nat) (fa : Nat → Int32) (fm : Nat → Int32) (fn : Nat → Int64) (h_a : MI n fa) (h_r : r < 4) : Ct l yX8_waysSeen cX8_waysSeen 6 (some .int) 2 0 0 D T [.ref o, .int (nI r)] [(o, .inr (8, [.int w0, .ref g1, .ref g2, .ref g3, .ref g4, .int (nI tp), .int w6, .int w7, .int w8, .int w9, .int w10, .int w11, .int w12, .int w13, .int w14, .ref g15, .int w16, .ref g17, .int w18, .int w19, .ref g20, .int w21, .ref g22, .ref g23, .ref g24, .int w25, .int w26, .int w27, .ref g28, .ref g29, .int w30, .ref g31, .ref g32, .ref g33])), (g1, .inl (T 0, 282, .inl fa)), (g32, .inl (T 0, 4, .inl fm)), (g33, .inl (T 1, 160, .inr (.inl fn)))] (q_m_waysSeen T n o r w0 g1 g2 g3 g4 tp w6 w7 w8 w9 w10 w11 w12 w13 w14 g15 w16 g17 w18 w19 g20 w21 g22 g23 g24 w25 w26 w27 g28 g29 w30 g31 g32 g33 fa fm fn) := by
  refine Ct.of (cc := cX8_waysSeen) (maxL := 6) (ret := (some .int)) (by decide) (Nat.le_of_ble_eq_true rfl) ?_
  intro p e s m args below meth c A ls hC hnm V hl
  obtain ⟨hx, hb, hr, hml, hown, hts, hlocks⟩ := id hC
  generalize hH : s.heap = H at V ⊢
  clear hH
  have hl : lv_has ls 6 [(0, .ref o), (1, .int (nI r))] := hl
  generalize hlo : ([] : List Loc) = locs at V ⊢
  clear hlo
  have ms0 := ms_rf h_a
  have hn10 := h_a.1
  have hpw := pw10 hn10
  refine lv_iconst (v := (nI 0)) hx hb dX8_waysSeen_0 (by decide +kernel) ?_
  refine lv_istore_n (lv' := [(2, .int (nI 0)), (0, .ref o), (1, .int (nI r))]) hx hb dX8_waysSeen_1 rfl hl (by decide) rfl (fun ls hl => ?_)
  refine lv_aload_n hx hb dX8_waysSeen_2 rfl (lv_at hl 1 rfl) ?_
  refine lv_iconst (v := (nI 1)) hx hb dX8_waysSeen_3 (by decide +kernel) ?_
  refine lv_aload_n hx hb dX8_waysSeen_4 rfl (lv_at hl 1 rfl) ?_
  refine g_get hC V (ci := 8) uwX8 0 rfl rfl 1 (by decide) w_913 rfl rfl dX8_waysSeen_5 ?_
  refine lv_iconst (v := (nI 0)) hx hb dX8_waysSeen_8 (by decide +kernel) ?_
  refine g_iald hC V 1 rfl (vp_in_nI (by decide) (by decide)) (v := (nI n)) (by rw [nI_clamp (by decide)]; first | rfl | exact h_a.2.1) dX8_waysSeen_9 ?_
  refine lv_ishl hx hb dX8_waysSeen_10 ?_
  refine g_vi (y := (nI (2 ^ n))) (shl_pow (by omega)) ?_
  refine lv_iconst (v := (nI 1)) hx hb dX8_waysSeen_11 (by decide +kernel) ?_
  refine lv_isub hx hb dX8_waysSeen_12 ?_
  refine g_put hC V (ci := 8) uwX8 tyX8 tyX8_ok nmX8 0 rfl rfl 26 (by decide) w_938 rfl rfl rfl rfl (Nat.le_of_ble_eq_true rfl) (ws' := [(o, .inr (8, [.int w0, .ref g1, .ref g2, .ref g3, .ref g4, .int (nI tp), .int w6, .int w7, .int w8, .int w9, .int w10, .int w11, .int w12, .int w13, .int w14, .ref g15, .int w16, .ref g17, .int w18, .int w19, .ref g20, .int w21, .ref g22, .ref g23, .ref g24, .int w25, .int ((nI (2 ^ n)) - (nI 1)), .int w27, .ref g28, .ref g29, .int w30, .ref g31, .ref g32, .ref g33])), (g1, .inl (T 0, 282, .inl fa)), (g32, .inl (T 0, 4, .inl fm)), (g33, .inl (T 1, 160, .inr (.inl fn)))]) rfl dX8_waysSeen_13 (fun H locs V => ?_)
  refine lv_aload_n hx hb dX8_waysSeen_16 rfl (lv_at hl 1 rfl) ?_
  refine lv_aload_n hx hb dX8_waysSeen_17 rfl (lv_at hl 1 rfl) ?_
  refine g_get hC V (ci := 8) uwX8 0 rfl rfl 26 (by decide) w_938 rfl rfl dX8_waysSeen_18 ?_
  refine g_put hC V (ci := 8) uwX8 tyX8 tyX8_ok nmX8 0 rfl rfl 27 (by decide) w_939 rfl rfl rfl rfl (Nat.le_of_ble_eq_true rfl) (ws' := [(o, .inr (8, [.int w0, .ref g1, .ref g2, .ref g3, .ref g4, .int (nI tp), .int w6, .int w7, .int w8, .int w9, .int w10, .int w11, .int w12, .int w13, .int w14, .ref g15, .int w16, .ref g17, .int w18, .int w19, .ref g20, .int w21, .ref g22, .ref g23, .ref g24, .int w25, .int ((nI (2 ^ n)) - (nI 1)), .int ((nI (2 ^ n)) - (nI 1)), .ref g28, .ref g29, .int w30, .ref g31, .ref g32, .ref g33])), (g1, .inl (T 0, 282, .inl fa)), (g32, .inl (T 0, 4, .inl fm)), (g33, .inl (T 1, 160, .inr (.inl fn)))]) rfl dX8_waysSeen_21 (fun H locs V => ?_)
  refine lv_iconst (v := (nI 0)) hx hb dX8_waysSeen_24 (by decide +kernel) ?_
  refine lv_istore_n (lv' := [(3, .int (nI 0)), (2, .int (nI 0)), (0, .ref o), (1, .int (nI r))]) hx hb dX8_waysSeen_25 rfl hl (by decide) rfl (fun ls hl => ?_)
  have L_1 : ∀ (fu : Nat) (k26 : Nat) (x26_2 : Int32) (v1 : Int32) (v2 : Int32), k26 ≤ 2 ^ n → 2 ^ n - k26 < fu → ∀ (H : Heap) (locs : List Loc) (ls : Array Slot), gW D T A s [(o, .inr (8, [.int w0, .ref g1, .ref g2, .ref g3, .ref g4, .int (nI tp), .int w6, .int w7, .int w8, .int w9, .int w10, .int w11, .int w12, .int w13, .int w14, .ref g15, .int w16, .ref g17, .int w18, .int w19, .ref g20, .int w21, .ref g22, .ref g23, .ref g24, .int w25, .int v1, .int v2, .ref g28, .ref g29, .int w30, .ref g31, .ref g32, .ref g33])), (g1, .inl (T 0, 282, .inl fa)), (g32, .inl (T 0, 4, .inl fm)), (g33, .inl (T 1, 160, .inr (.inl fn)))] H locs → lv_has ls 6 [(3, .int (nI k26)), (2, .int x26_2), (0, .ref o), (1, .int (nI r))] → W p l e (rmD 2 0 0) s m args below meth c H locs 0 0 (MQ below (gQ D A (q_m_waysSeen T n o r w0 g1 g2 g3 g4 tp w6 w7 w8 w9 w10 w11 w12 w13 w14 g15 w16 g17 w18 w19 g20 w21 g22 g23 g24 w25 w26 w27 g28 g29 w30 g31 g32 g33 fa fm fn)) args s 0 0 A) (F0 m 26 ls []) := by
    intro fu_26
    induction fu_26 with
    | zero => intro k26 x26_2 v1 v2 hk26 hmu; exact absurd hmu (Nat.not_lt_zero _)
    | succ fu_26 ih_26 =>
      intro k26 x26_2 v1 v2 hk26 hmu_26 H locs ls V hl
      refine lv_iload_n hx hb dX8_waysSeen_26 rfl (lv_at hl 0 rfl) ?_
      refine lv_iconst (v := (nI 1)) hx hb dX8_waysSeen_27 (by decide +kernel) ?_
      refine lv_aload_n hx hb dX8_waysSeen_28 rfl (lv_at hl 2 rfl) ?_
      refine g_get hC V (ci := 8) uwX8 0 rfl rfl 1 (by decide) w_913 rfl rfl dX8_waysSeen_29 ?_
      refine lv_iconst (v := (nI 0)) hx hb dX8_waysSeen_32 (by decide +kernel) ?_
      refine g_iald hC V 1 rfl (vp_in_nI (by decide) (by decide)) (v := (nI n)) (by rw [nI_clamp (by decide)]; first | rfl | exact h_a.2.1) dX8_waysSeen_33 ?_
      refine lv_ishl hx hb dX8_waysSeen_34 ?_
      refine g_vi (y := (nI (2 ^ n))) (shl_pow (by omega)) ?_
      refine lv_icmp_ge (tgt := 137) hx hb dX8_waysSeen_35 (by decide) (fun c_2 => ?_) (fun c_2 => ?_)
      · skip
        have c_2 := b_le (by omega) (by omega) c_2
        refine lv_iload_n hx hb dX8_waysSeen_137 rfl (lv_at hl 1 rfl) ?_
        exact g_iret (Qr := (q_m_waysSeen T n o r w0 g1 g2 g3 g4 tp w6 w7 w8 w9 w10 w11 w12 w13 w14 g15 w16 g17 w18 w19 g20 w21 g22 g23 g24 w25 w26 w27 g28 g29 w30 g31 g32 g33 fa fm fn)) hC V ⟨(Nat.le_of_ble_eq_true rfl), (Nat.le_of_ble_eq_true rfl)⟩ ⟨x26_2, v1, v2, rfl, rfl⟩ dX8_waysSeen_138
      · skip
        have c_2 := b_nle (by omega) (by omega) c_2
        refine lv_iconst (v := (nI 1)) hx hb dX8_waysSeen_38 (by decide +kernel) ?_
        refine lv_istore (lv' := [(4, .int (nI 1)), (3, .int (nI k26)), (2, .int x26_2), (0, .ref o), (1, .int (nI r))]) hx hb dX8_waysSeen_39 hl (by decide) rfl (fun ls hl => ?_)
        refine lv_iconst (v := (nI 0)) hx hb dX8_waysSeen_41 (by decide +kernel) ?_
        refine lv_istore (lv' := [(5, .int (nI 0)), (4, .int (nI 1)), (3, .int (nI k26)), (2, .int x26_2), (0, .ref o), (1, .int (nI r))]) hx hb dX8_waysSeen_42 hl (by decide) rfl (fun ls hl => ?_)
        have L_3 : ∀ (fu : Nat) (k44 : Nat) (x44_4 : Int32), k44 ≤ n → n - k44 < fu → ∀ (H : Heap) (locs : List Loc) (ls : Array Slot), gW D T A s [(o, .inr (8, [.int w0, .ref g1, .ref g2, .ref g3, .ref g4, .int (nI tp), .int w6, .int w7, .int w8, .int w9, .int w10, .int w11, .int w12, .int w13, .int w14, .ref g15, .int w16, .ref g17, .int w18, .int w19, .ref g20, .int w21, .ref g22, .ref g23, .ref g24, .int w25, .int v1, .int v2, .ref g28, .ref g29, .int w30, .ref g31, .ref g32, .ref g33])), (g1, .inl (T 0, 282, .inl fa)), (g32, .inl (T 0, 4, .inl fm)), (g33, .inl (T 1, 160, .inr (.inl fn)))] H locs → lv_has ls 6 [(5, .int (nI k44)), (4, .int x44_4), (3, .int (nI k26)), (2, .int x26_2), (0, .ref o), (1, .int (nI r))] → W p l e (rmD 2 0 0) s m args below meth c H locs 0 0 (MQ below (gQ D A (q_m_waysSeen T n o r w0 g1 g2 g3 g4 tp w6 w7 w8 w9 w10 w11 w12 w13 w14 g15 w16 g17 w18 w19 g20 w21 g22 g23 g24 w25 w26 w27 g28 g29 w30 g31 g32 g33 fa fm fn)) args s 0 0 A) (F0 m 44 ls []) := by
          intro fu_44
          induction fu_44 with
          | zero => intro k44 x44_4 hk44 hmu; exact absurd hmu (Nat.not_lt_zero _)
          | succ fu_44 ih_44 =>
            intro k44 x44_4 hk44 hmu_44 H locs ls V hl
            refine lv_iload hx hb dX8_waysSeen_44 (lv_at hl 0 rfl) ?_
            refine lv_aload_n hx hb dX8_waysSeen_46 rfl (lv_at hl 4 rfl) ?_
            refine g_get hC V (ci := 8) uwX8 0 rfl rfl 1 (by decide) w_913 rfl rfl dX8_waysSeen_47 ?_
            refine lv_iconst (v := (nI 0)) hx hb dX8_waysSeen_50 (by decide +kernel) ?_
            refine g_iald hC V 1 rfl (vp_in_nI (by decide) (by decide)) (v := (nI n)) (by rw [nI_clamp (by decide)]; first | rfl | exact h_a.2.1) dX8_waysSeen_51 ?_
            refine lv_icmp_ge (tgt := 98) hx hb dX8_waysSeen_52 (by decide) (fun c_4 => ?_) (fun c_4 => ?_)
            · skip
              have c_4 := b_le (by omega) (by omega) c_4
              refine lv_iload hx hb dX8_waysSeen_98 (lv_at hl 1 rfl) ?_
              refine lv_if_ne (tgt := 106) hx hb dX8_waysSeen_100 (by decide) (fun c_5 => ?_) (fun c_5 => ?_)
              · skip
                refine lv_iinc (v := (x26_2 + 1)) (lv' := [(2, .int (x26_2 + 1)), (5, .int (nI k44)), (4, .int x44_4), (3, .int (nI k26)), (0, .ref o), (1, .int (nI r))]) hx hb dX8_waysSeen_106 hl (k := 3) rfl rfl (by decide) rfl (fun ls hl => ?_)
                refine lv_aload_n hx hb dX8_waysSeen_109 rfl (lv_at hl 4 rfl) ?_
                refine lv_dup hx hb dX8_waysSeen_110 rfl ?_
                refine g_get hC V (ci := 8) uwX8 0 rfl rfl 26 (by decide) w_938 rfl rfl dX8_waysSeen_111 ?_
                refine lv_iload_n hx hb dX8_waysSeen_114 rfl (lv_at hl 3 rfl) ?_
                refine lv_iand hx hb dX8_waysSeen_115 ?_
                refine g_put hC V (ci := 8) uwX8 tyX8 tyX8_ok nmX8 0 rfl rfl 26 (by decide) w_938 rfl rfl rfl rfl (Nat.le_of_ble_eq_true rfl) (ws' := [(o, .inr (8, [.int w0, .ref g1, .ref g2, .ref g3, .ref g4, .int (nI tp), .int w6, .int w7, .int w8, .int w9, .int w10, .int w11, .int w12, .int w13, .int w14, .ref g15, .int w16, .ref g17, .int w18, .int w19, .ref g20, .int w21, .ref g22, .ref g23, .ref g24, .int w25, .int (v1 &&& (nI k26)), .int v2, .ref g28, .ref g29, .int w30, .ref g31, .ref g32, .ref g33])), (g1, .inl (T 0, 282, .inl fa)), (g32, .inl (T 0, 4, .inl fm)), (g33, .inl (T 1, 160, .inr (.inl fn)))]) rfl dX8_waysSeen_116 (fun H locs V => ?_)
                refine lv_aload_n hx hb dX8_waysSeen_119 rfl (lv_at hl 4 rfl) ?_
                refine lv_dup hx hb dX8_waysSeen_120 rfl ?_
                refine g_get hC V (ci := 8) uwX8 0 rfl rfl 27 (by decide) w_939 rfl rfl dX8_waysSeen_121 ?_
                refine lv_iload_n hx hb dX8_waysSeen_124 rfl (lv_at hl 3 rfl) ?_
                refine lv_iconst (v := (-1)) hx hb dX8_waysSeen_125 (by decide +kernel) ?_
                refine lv_ixor hx hb dX8_waysSeen_126 ?_
                refine lv_iand hx hb dX8_waysSeen_127 ?_
                refine g_put hC V (ci := 8) uwX8 tyX8 tyX8_ok nmX8 0 rfl rfl 27 (by decide) w_939 rfl rfl rfl rfl (Nat.le_of_ble_eq_true rfl) (ws' := [(o, .inr (8, [.int w0, .ref g1, .ref g2, .ref g3, .ref g4, .int (nI tp), .int w6, .int w7, .int w8, .int w9, .int w10, .int w11, .int w12, .int w13, .int w14, .ref g15, .int w16, .ref g17, .int w18, .int w19, .ref g20, .int w21, .ref g22, .ref g23, .ref g24, .int w25, .int (v1 &&& (nI k26)), .int (v2 &&& ((nI k26) ^^^ (-1))), .ref g28, .ref g29, .int w30, .ref g31, .ref g32, .ref g33])), (g1, .inl (T 0, 282, .inl fa)), (g32, .inl (T 0, 4, .inl fm)), (g33, .inl (T 1, 160, .inr (.inl fn)))]) rfl dX8_waysSeen_128 (fun H locs V => ?_)
                refine lv_iinc (v := (nI (k26 + 1))) (lv' := [(3, .int (nI (k26 + 1))), (2, .int (x26_2 + 1)), (5, .int (nI k44)), (4, .int x44_4), (0, .ref o), (1, .int (nI r))]) hx hb dX8_waysSeen_131 hl (k := 3) rfl (nI_1 _) (by decide) rfl (fun ls hl => ?_)
                refine lv_goto (tgt := 26) hx hb dX8_waysSeen_134 (by decide) ?_
                exact ih_26 (k26 + 1) (x26_2 + 1) (v1 &&& (nI k26)) (v2 &&& ((nI k26) ^^^ (-1))) (by omega) (by omega) _ _ _ V (lv_sub hl [0, 1, 4, 5] rfl)
              · skip
                refine lv_goto (tgt := 131) hx hb dX8_waysSeen_103 (by decide) ?_
                refine lv_iinc (v := (nI (k26 + 1))) (lv' := [(3, .int (nI (k26 + 1))), (5, .int (nI k44)), (4, .int x44_4), (2, .int x26_2), (0, .ref o), (1, .int (nI r))]) hx hb dX8_waysSeen_131 hl (k := 2) rfl (nI_1 _) (by decide) rfl (fun ls hl => ?_)
                refine lv_goto (tgt := 26) hx hb dX8_waysSeen_134 (by decide) ?_
                exact ih_26 (k26 + 1) x26_2 v1 v2 (by omega) (by omega) _ _ _ V (lv_sub hl [0, 3, 4, 5] rfl)
            · skip
              have c_4 := b_nle (by omega) (by omega) c_4
              refine lv_iload hx hb dX8_waysSeen_55 (lv_at hl 1 rfl) ?_
              refine lv_if_eq (tgt := 98) hx hb dX8_waysSeen_57 (by decide) (fun c_6 => ?_) (fun c_6 => ?_)
              · skip
                refine lv_iload hx hb dX8_waysSeen_98 (lv_at hl 1 rfl) ?_
                refine lv_if_ne (tgt := 106) hx hb dX8_waysSeen_100 (by decide) (fun c_7 => ?_) (fun c_7 => ?_)
                · skip
                  refine lv_iinc (v := (x26_2 + 1)) (lv' := [(2, .int (x26_2 + 1)), (5, .int (nI k44)), (4, .int x44_4), (3, .int (nI k26)), (0, .ref o), (1, .int (nI r))]) hx hb dX8_waysSeen_106 hl (k := 3) rfl rfl (by decide) rfl (fun ls hl => ?_)
                  refine lv_aload_n hx hb dX8_waysSeen_109 rfl (lv_at hl 4 rfl) ?_
                  refine lv_dup hx hb dX8_waysSeen_110 rfl ?_
                  refine g_get hC V (ci := 8) uwX8 0 rfl rfl 26 (by decide) w_938 rfl rfl dX8_waysSeen_111 ?_
                  refine lv_iload_n hx hb dX8_waysSeen_114 rfl (lv_at hl 3 rfl) ?_
                  refine lv_iand hx hb dX8_waysSeen_115 ?_
                  refine g_put hC V (ci := 8) uwX8 tyX8 tyX8_ok nmX8 0 rfl rfl 26 (by decide) w_938 rfl rfl rfl rfl (Nat.le_of_ble_eq_true rfl) (ws' := [(o, .inr (8, [.int w0, .ref g1, .ref g2, .ref g3, .ref g4, .int (nI tp), .int w6, .int w7, .int w8, .int w9, .int w10, .int w11, .int w12, .int w13, .int w14, .ref g15, .int w16, .ref g17, .int w18, .int w19, .ref g20, .int w21, .ref g22, .ref g23, .ref g24, .int w25, .int (v1 &&& (nI k26)), .int v2, .ref g28, .ref g29, .int w30, .ref g31, .ref g32, .ref g33])), (g1, .inl (T 0, 282, .inl fa)), (g32, .inl (T 0, 4, .inl fm)), (g33, .inl (T 1, 160, .inr (.inl fn)))]) rfl dX8_waysSeen_116 (fun H locs V => ?_)
                  refine lv_aload_n hx hb dX8_waysSeen_119 rfl (lv_at hl 4 rfl) ?_
                  refine lv_dup hx hb dX8_waysSeen_120 rfl ?_
                  refine g_get hC V (ci := 8) uwX8 0 rfl rfl 27 (by decide) w_939 rfl rfl dX8_waysSeen_121 ?_
                  refine lv_iload_n hx hb dX8_waysSeen_124 rfl (lv_at hl 3 rfl) ?_
                  refine lv_iconst (v := (-1)) hx hb dX8_waysSeen_125 (by decide +kernel) ?_
                  refine lv_ixor hx hb dX8_waysSeen_126 ?_
                  refine lv_iand hx hb dX8_waysSeen_127 ?_
                  refine g_put hC V (ci := 8) uwX8 tyX8 tyX8_ok nmX8 0 rfl rfl 27 (by decide) w_939 rfl rfl rfl rfl (Nat.le_of_ble_eq_true rfl) (ws' := [(o, .inr (8, [.int w0, .ref g1, .ref g2, .ref g3, .ref g4, .int (nI tp), .int w6, .int w7, .int w8, .int w9, .int w10, .int w11, .int w12, .int w13, .int w14, .ref g15, .int w16, .ref g17, .int w18, .int w19, .ref g20, .int w21, .ref g22, .ref g23, .ref g24, .int w25, .int (v1 &&& (nI k26)), .int (v2 &&& ((nI k26) ^^^ (-1))), .ref g28, .ref g29, .int w30, .ref g31, .ref g32, .ref g33])), (g1, .inl (T 0, 282, .inl fa)), (g32, .inl (T 0, 4, .inl fm)), (g33, .inl (T 1, 160, .inr (.inl fn)))]) rfl dX8_waysSeen_128 (fun H locs V => ?_)
                  refine lv_iinc (v := (nI (k26 + 1))) (lv' := [(3, .int (nI (k26 + 1))), (2, .int (x26_2 + 1)), (5, .int (nI k44)), (4, .int x44_4), (0, .ref o), (1, .int (nI r))]) hx hb dX8_waysSeen_131 hl (k := 3) rfl (nI_1 _) (by decide) rfl (fun ls hl => ?_)
                  refine lv_goto (tgt := 26) hx hb dX8_waysSeen_134 (by decide) ?_
                  exact ih_26 (k26 + 1) (x26_2 + 1) (v1 &&& (nI k26)) (v2 &&& ((nI k26) ^^^ (-1))) (by omega) (by omega) _ _ _ V (lv_sub hl [0, 1, 4, 5] rfl)
                · skip
                  refine lv_goto (tgt := 131) hx hb dX8_waysSeen_103 (by decide) ?_
                  refine lv_iinc (v := (nI (k26 + 1))) (lv' := [(3, .int (nI (k26 + 1))), (5, .int (nI k44)), (4, .int x44_4), (2, .int x26_2), (0, .ref o), (1, .int (nI r))]) hx hb dX8_waysSeen_131 hl (k := 2) rfl (nI_1 _) (by decide) rfl (fun ls hl => ?_)
                  refine lv_goto (tgt := 26) hx hb dX8_waysSeen_134 (by decide) ?_
                  exact ih_26 (k26 + 1) x26_2 v1 v2 (by omega) (by omega) _ _ _ V (lv_sub hl [0, 3, 4, 5] rfl)
              · skip
                refine lv_aload_n hx hb dX8_waysSeen_60 rfl (lv_at hl 4 rfl) ?_
                refine lv_iload hx hb dX8_waysSeen_61 (lv_at hl 0 rfl) ?_
                refine lv_iload_n hx hb dX8_waysSeen_63 rfl (lv_at hl 2 rfl) ?_
                refine lv_iconst (v := (nI 0)) hx hb dX8_waysSeen_64 (by decide +kernel) ?_
                refine g_callVU (nA := 3) hC V hl.1 (m_heatThen l D T n o k44 (nI k26) (nI 0) w0 g1 g2 g3 g4 tp w6 w7 w8 w9 w10 w11 w12 w13 w14 g15 w16 g17 w18 w19 g20 w21 g22 g23 g24 w25 v1 v2 g28 g29 w30 g31 g32 g33 fa h_a (by first | assumption | omega)) w_1126 w_1128 w_s51 w_9 w_1129 (by decide +kernel) rfl ⟨(Nat.le_of_ble_eq_true rfl), (Nat.le_of_ble_eq_true rfl)⟩ 0 (ci := 8) rfl rfl [0, 1] rfl rfl (Nat.le_of_ble_eq_true rfl) dX8_waysSeen_65 ⟨(Nat.le_of_ble_eq_true rfl), (Nat.le_of_ble_eq_true rfl)⟩ rfl (fun r w1 H locs hQ V => ?_)
                obtain ⟨z_8, rfl, rfl, f_9⟩ := hQ
                have V : gW D T A s [(o, .inr (8, [.int w0, .ref g1, .ref g2, .ref g3, .ref g4, .int (nI tp), .int w6, .int w7, .int w8, .int w9, .int w10, .int w11, .int w12, .int w13, .int w14, .ref g15, .int w16, .ref g17, .int w18, .int w19, .ref g20, .int w21, .ref g22, .ref g23, .ref g24, .int w25, .int v1, .int v2, .ref g28, .ref g29, .int w30, .ref g31, .ref g32, .ref g33])), (g1, .inl (T 0, 282, .inl fa)), (g32, .inl (T 0, 4, .inl fm)), (g33, .inl (T 1, 160, .inr (.inl fn)))] H locs := V _ [0, 0] rfl rfl rfl (by decide +kernel) rfl
                show W p l e _ s m args below meth c H locs _ _ _ (F0 m 68 ls [.int z_8])
                refine lv_i2l (v := z_8.toInt64) hx hb dX8_waysSeen_68 rfl ?_
                refine lv_aload_n hx hb dX8_waysSeen_69 rfl (lv_at hl 4 rfl) ?_
                refine g_get hC V (ci := 8) uwX8 0 rfl rfl 33 (by decide) w_945 rfl rfl dX8_waysSeen_70 ?_
                refine lv_bipush (v := (nI 40)) hx hb dX8_waysSeen_73 (by decide +kernel) ?_
                refine lv_iload_n hx hb dX8_waysSeen_75 rfl (lv_at hl 5 rfl) ?_
                refine lv_imul hx hb dX8_waysSeen_76 ?_
                refine g_vi (y := (nI (40 * r))) (pk_mul _ _) ?_
                refine lv_iload hx hb dX8_waysSeen_77 (lv_at hl 0 rfl) ?_
                refine lv_iadd hx hb dX8_waysSeen_79 ?_
                refine g_vi (y := (nI ((40 * r) + k44))) (nI_add _ _) ?_
                refine g_lald hC V 3 rfl (vp_in_nI (by omega) (by omega)) (v := (fn ((40 * r) + k44))) (congrArg _ (nI_clamp (by omega))) dX8_waysSeen_80 ?_
                refine W.lcmp hx hb dX8_waysSeen_81 ?_
                refine lv_if_ne (tgt := 89) hx hb dX8_waysSeen_82 (by decide) (fun c_10 => ?_) (fun c_10 => ?_)
                · skip
                  refine lv_iconst (v := (nI 0)) hx hb dX8_waysSeen_89 (by decide +kernel) ?_
                  refine lv_istore (lv' := [(4, .int (nI 0)), (5, .int (nI k44)), (3, .int (nI k26)), (2, .int x26_2), (0, .ref o), (1, .int (nI r))]) hx hb dX8_waysSeen_90 hl (by decide) rfl (fun ls hl => ?_)
                  refine lv_iinc (v := (nI (k44 + 1))) (lv' := [(5, .int (nI (k44 + 1))), (4, .int (nI 0)), (3, .int (nI k26)), (2, .int x26_2), (0, .ref o), (1, .int (nI r))]) hx hb dX8_waysSeen_92 hl (k := 1) rfl (nI_1 _) (by decide) rfl (fun ls hl => ?_)
                  refine lv_goto (tgt := 44) hx hb dX8_waysSeen_95 (by decide) ?_
                  exact ih_44 (k44 + 1) (nI 0) (by omega) (by omega) _ _ _ V (lv_sub hl [0, 1, 2, 3, 4, 5] rfl)
                · skip
                  refine lv_iconst (v := (nI 1)) hx hb dX8_waysSeen_85 (by decide +kernel) ?_
                  refine lv_goto (tgt := 90) hx hb dX8_waysSeen_86 (by decide) ?_
                  refine lv_istore (lv' := [(4, .int (nI 1)), (5, .int (nI k44)), (3, .int (nI k26)), (2, .int x26_2), (0, .ref o), (1, .int (nI r))]) hx hb dX8_waysSeen_90 hl (by decide) rfl (fun ls hl => ?_)
                  refine lv_iinc (v := (nI (k44 + 1))) (lv' := [(5, .int (nI (k44 + 1))), (4, .int (nI 1)), (3, .int (nI k26)), (2, .int x26_2), (0, .ref o), (1, .int (nI r))]) hx hb dX8_waysSeen_92 hl (k := 1) rfl (nI_1 _) (by decide) rfl (fun ls hl => ?_)
                  refine lv_goto (tgt := 44) hx hb dX8_waysSeen_95 (by decide) ?_
                  exact ih_44 (k44 + 1) (nI 1) (by omega) (by omega) _ _ _ V (lv_sub hl [0, 1, 2, 3, 4, 5] rfl)
        exact L_3 _ 0 (nI 1) (by omega) (Nat.lt_succ_self _) _ _ _ V (lv_sub hl [0, 1, 2, 3, 4, 5] rfl)
  exact L_1 _ 0 (nI 0) ((nI (2 ^ n)) - (nI 1)) ((nI (2 ^ n)) - (nI 1)) (by omega) (Nat.lt_succ_self _) _ _ _ V (lv_sub hl [0, 1, 2, 3] rfl)

def q_m_refusesSeen (T : Nat → ClassId) (n : Nat) (o : Nat) (row : Int32) (w0 : Int32) (g1 : Nat) (g2 : Nat) (g3 : Nat) (g4 : Nat) (tp : Nat) (w6 : Int32) (w7 : Int32) (w8 : Int32) (w9 : Int32) (w10 : Int32) (w11 : Int32) (w12 : Int32) (w13 : Int32) (w14 : Int32) (g15 : Nat) (w16 : Int32) (g17 : Nat) (w18 : Int32) (w19 : Int32) (g20 : Nat) (w21 : Int32) (g22 : Nat) (g23 : Nat) (g24 : Nat) (w25 : Int32) (w26 : Int32) (w27 : Int32) (g28 : Nat) (g29 : Nat) (w30 : Int32) (g31 : Nat) (g32 : Nat) (g33 : Nat) (fa : Nat → Int32) (fq : Nat → Int32) (fm : Nat → Int32) (fn : Nat → Int64) : Option Value → va_W → Prop := fun rr ww => (∃ (r : Nat), rr = some (.int (nI 0)) ∧ ww = [(o, .inr (8, [.int w0, .ref g1, .ref g2, .ref g3, .ref g4, .int (nI tp), .int w6, .int w7, .int w8, .int w9, .int w10, .int w11, .int w12, .int w13, .int w14, .ref g15, .int w16, .ref g17, .int w18, .int w19, .ref g20, .int w21, .ref g22, .ref g23, .ref g24, .int w25, .int w26, .int w27, .ref g28, .ref g29, .int w30, .ref g31, .ref g32, .ref g33])), (g1, .inl (T 0, 282, .inl fa)), (g31, .inl (T 0, 4, .inl fq)), (g32, .inl (T 0, 4, .inl fm)), (g33, .inl (T 1, 160, .inr (.inl fn)))] ∧ r < 4 ∧ row = nI r) ∨ (∃ (z : Int32), rr = some (.int z) ∧ ww = [(o, .inr (8, [.int w0, .ref g1, .ref g2, .ref g3, .ref g4, .int (nI tp), .int w6, .int w7, .int w8, .int w9, .int w10, .int w11, .int w12, .int w13, .int w14, .ref g15, .int w16, .ref g17, .int w18, .int w19, .ref g20, .int w21, .ref g22, .ref g23, .ref g24, .int w25, .int w26, .int w27, .ref g28, .ref g29, .int w30, .ref g31, .ref g32, .ref g33])), (g1, .inl (T 0, 282, .inl fa)), (g31, .inl (T 0, 4, .inl fq)), (g32, .inl (T 0, 4, .inl fm)), (g33, .inl (T 1, 160, .inr (.inl fn)))] ∧ ¬ z = 0)
set_option maxHeartbeats 4000000 in
set_option maxRecDepth 100000 in
theorem m_refusesSeen (l : Launch) (D : va_G) (T : Nat → ClassId) (n : Nat) (o : Nat) (row : Int32) (w0 : Int32) (g1 : Nat) (g2 : Nat) (g3 : Nat) (g4 : Nat) (tp : Nat) (w6 : Int32) (w7 : Int32) (w8 : Int32) (w9 : Int32) (w10 : Int32) (w11 : Int32) (w12 : Int32) (w13 : Int32) (w14 : Int32) (g15 : Nat) (w16 : Int32) (g17 : Nat) (w18 : Int32) (w19 : Int32) (g20 : Nat) (w21 : Int32) (g22 : Nat) (g23 : Nat) (g24 : Nat) (w25 : Int32) (w26 : Int32) (w27 : Int32) (g28 : Nat) (g29 : Nat) (w30 : Int32) (g31 : Nat) (g32 : Nat) (g33 : Nat) (fa : Nat → Int32) (fq : Nat → Int32) (fm : Nat → Int32) (fn : Nat → Int64) (h_a : MI n fa) : Ct l yX8_refusesSeen cX8_refusesSeen 2 (some .int) 1 0 0 D T [.ref o, .int row] [(o, .inr (8, [.int w0, .ref g1, .ref g2, .ref g3, .ref g4, .int (nI tp), .int w6, .int w7, .int w8, .int w9, .int w10, .int w11, .int w12, .int w13, .int w14, .ref g15, .int w16, .ref g17, .int w18, .int w19, .ref g20, .int w21, .ref g22, .ref g23, .ref g24, .int w25, .int w26, .int w27, .ref g28, .ref g29, .int w30, .ref g31, .ref g32, .ref g33])), (g1, .inl (T 0, 282, .inl fa)), (g31, .inl (T 0, 4, .inl fq)), (g32, .inl (T 0, 4, .inl fm)), (g33, .inl (T 1, 160, .inr (.inl fn)))] (q_m_refusesSeen T n o row w0 g1 g2 g3 g4 tp w6 w7 w8 w9 w10 w11 w12 w13 w14 g15 w16 g17 w18 w19 g20 w21 g22 g23 g24 w25 w26 w27 g28 g29 w30 g31 g32 g33 fa fq fm fn) := by
  refine Ct.of (cc := cX8_refusesSeen) (maxL := 2) (ret := (some .int)) (by decide) (Nat.le_of_ble_eq_true rfl) ?_
  intro p e s m args below meth c A ls hC hnm V hl
  obtain ⟨hx, hb, hr, hml, hown, hts, hlocks⟩ := id hC
  generalize hH : s.heap = H at V ⊢
  clear hH
  have hl : lv_has ls 2 [(0, .ref o), (1, .int row)] := hl
  generalize hlo : ([] : List Loc) = locs at V ⊢
  clear hlo
  have ms0 := ms_rf h_a
  have hn10 := h_a.1
  refine lv_iload_n hx hb dX8_refusesSeen_0 rfl (lv_at hl 1 rfl) ?_
  refine lv_i2l (v := row.toInt64) hx hb dX8_refusesSeen_1 rfl ?_
  refine lv_lconst (v := (nI 0).toInt64) hx hb dX8_refusesSeen_2 (by decide +kernel) ?_
  refine lv_ldc2 (v := (3)) hx hb hown (hts _ w_1144) dX8_refusesSeen_3 ?_
  refine g_vl (y := (nI 3).toInt64) (by decide +kernel) ?_
  refine g_callSU (nA := 3) hC V hl.1 (m_within l D T row (nI 0) (nI 3)) w_1023 w_1024 w_9 w_1025 (by decide +kernel) rfl ⟨(Nat.le_of_ble_eq_true rfl), (Nat.le_of_ble_eq_true rfl)⟩ [] rfl rfl (Nat.le_of_ble_eq_true rfl) dX8_refusesSeen_6 ⟨(Nat.le_of_ble_eq_true rfl), (Nat.le_of_ble_eq_true rfl)⟩ rfl (fun r w1 H locs hQ V => ?_)
  rcases hQ with ⟨rfl, rfl, f_1, f_2⟩ | ⟨rfl, rfl, f_3⟩
  · have V : gW D T A s [(o, .inr (8, [.int w0, .ref g1, .ref g2, .ref g3, .ref g4, .int (nI tp), .int w6, .int w7, .int w8, .int w9, .int w10, .int w11, .int w12, .int w13, .int w14, .ref g15, .int w16, .ref g17, .int w18, .int w19, .ref g20, .int w21, .ref g22, .ref g23, .ref g24, .int w25, .int w26, .int w27, .ref g28, .ref g29, .int w30, .ref g31, .ref g32, .ref g33])), (g1, .inl (T 0, 282, .inl fa)), (g31, .inl (T 0, 4, .inl fq)), (g32, .inl (T 0, 4, .inl fm)), (g33, .inl (T 1, 160, .inr (.inl fn)))] H locs := V _ [] rfl rfl rfl (by decide +kernel) rfl
    show W p l e _ s m args below meth c H locs _ _ _ (F0 m 9 ls [.int (nI 1)])
    obtain ⟨rq, hrq1, hrq2, erq⟩ := g_rng (by decide) (by decide) f_1 f_2
    rw [erq] at hl
    refine lv_if_ne (tgt := 15) hx hb dX8_refusesSeen_9 (by decide) (fun _ => ?_) (fun c => absurd (show (nI 1) = 0 from c) (by decide +kernel))
    refine lv_aload_n hx hb dX8_refusesSeen_15 rfl (lv_at hl 0 rfl) ?_
    refine g_get hC V (ci := 8) uwX8 0 rfl rfl 31 (by decide) w_943 rfl rfl dX8_refusesSeen_16 ?_
    refine lv_iload_n hx hb dX8_refusesSeen_19 rfl (lv_at hl 1 rfl) ?_
    refine g_iald hC V 2 rfl (vp_in_nI (by omega) (by omega)) (v := (fq rq)) (congrArg _ (nI_clamp (by omega))) dX8_refusesSeen_20 ?_
    refine lv_iconst (v := (-1)) hx hb dX8_refusesSeen_21 (by decide +kernel) ?_
    refine lv_icmp_ne (tgt := 28) hx hb dX8_refusesSeen_22 (by decide) (fun c_4 => ?_) (fun c_4 => ?_)
    · skip
      refine lv_aload_n hx hb dX8_refusesSeen_28 rfl (lv_at hl 0 rfl) ?_
      refine g_get hC V (ci := 8) uwX8 0 rfl rfl 32 (by decide) w_944 rfl rfl dX8_refusesSeen_29 ?_
      refine lv_iload_n hx hb dX8_refusesSeen_32 rfl (lv_at hl 1 rfl) ?_
      refine g_iald hC V 3 rfl (vp_in_nI (by omega) (by omega)) (v := (fm rq)) (congrArg _ (nI_clamp (by omega))) dX8_refusesSeen_33 ?_
      refine lv_aload_n hx hb dX8_refusesSeen_34 rfl (lv_at hl 0 rfl) ?_
      refine g_get hC V (ci := 8) uwX8 0 rfl rfl 1 (by decide) w_913 rfl rfl dX8_refusesSeen_35 ?_
      refine lv_iconst (v := (nI 0)) hx hb dX8_refusesSeen_38 (by decide +kernel) ?_
      refine g_iald hC V 1 rfl (vp_in_nI (by decide) (by decide)) (v := (nI n)) (by rw [nI_clamp (by decide)]; first | rfl | exact h_a.2.1) dX8_refusesSeen_39 ?_
      refine lv_icmp_ne (tgt := 47) hx hb dX8_refusesSeen_40 (by decide) (fun c_5 => ?_) (fun c_5 => ?_)
      · skip
        refine lv_bipush (v := (-7)) hx hb dX8_refusesSeen_47 (by decide +kernel) ?_
        exact g_iret (Qr := (q_m_refusesSeen T n o row w0 g1 g2 g3 g4 tp w6 w7 w8 w9 w10 w11 w12 w13 w14 g15 w16 g17 w18 w19 g20 w21 g22 g23 g24 w25 w26 w27 g28 g29 w30 g31 g32 g33 fa fq fm fn)) hC V ⟨(Nat.le_of_ble_eq_true rfl), (Nat.le_of_ble_eq_true rfl)⟩ (.inr ⟨(-7), rfl, rfl, (by decide +kernel)⟩) dX8_refusesSeen_49
      · skip
        refine lv_iconst (v := (nI 0)) hx hb dX8_refusesSeen_43 (by decide +kernel) ?_
        refine lv_goto (tgt := 49) hx hb dX8_refusesSeen_44 (by decide) ?_
        exact g_iret (Qr := (q_m_refusesSeen T n o row w0 g1 g2 g3 g4 tp w6 w7 w8 w9 w10 w11 w12 w13 w14 g15 w16 g17 w18 w19 g20 w21 g22 g23 g24 w25 w26 w27 g28 g29 w30 g31 g32 g33 fa fq fm fn)) hC V ⟨(Nat.le_of_ble_eq_true rfl), (Nat.le_of_ble_eq_true rfl)⟩ (.inl ⟨rq, rfl, rfl, (by omega), erq⟩) dX8_refusesSeen_49
    · skip
      refine lv_bipush (v := (-6)) hx hb dX8_refusesSeen_25 (by decide +kernel) ?_
      exact g_iret (Qr := (q_m_refusesSeen T n o row w0 g1 g2 g3 g4 tp w6 w7 w8 w9 w10 w11 w12 w13 w14 g15 w16 g17 w18 w19 g20 w21 g22 g23 g24 w25 w26 w27 g28 g29 w30 g31 g32 g33 fa fq fm fn)) hC V ⟨(Nat.le_of_ble_eq_true rfl), (Nat.le_of_ble_eq_true rfl)⟩ (.inr ⟨(-6), rfl, rfl, (by decide +kernel)⟩) dX8_refusesSeen_27
  · have V : gW D T A s [(o, .inr (8, [.int w0, .ref g1, .ref g2, .ref g3, .ref g4, .int (nI tp), .int w6, .int w7, .int w8, .int w9, .int w10, .int w11, .int w12, .int w13, .int w14, .ref g15, .int w16, .ref g17, .int w18, .int w19, .ref g20, .int w21, .ref g22, .ref g23, .ref g24, .int w25, .int w26, .int w27, .ref g28, .ref g29, .int w30, .ref g31, .ref g32, .ref g33])), (g1, .inl (T 0, 282, .inl fa)), (g31, .inl (T 0, 4, .inl fq)), (g32, .inl (T 0, 4, .inl fm)), (g33, .inl (T 1, 160, .inr (.inl fn)))] H locs := V _ [] rfl rfl rfl (by decide +kernel) rfl
    show W p l e _ s m args below meth c H locs _ _ _ (F0 m 9 ls [.int (nI 0)])
    refine lv_if_ne (tgt := 15) hx hb dX8_refusesSeen_9 (by decide) (fun c => absurd (show (nI 0) = 0 by decide +kernel) c) (fun _ => ?_)
    refine lv_bipush (v := (-2)) hx hb dX8_refusesSeen_12 (by decide +kernel) ?_
    exact g_iret (Qr := (q_m_refusesSeen T n o row w0 g1 g2 g3 g4 tp w6 w7 w8 w9 w10 w11 w12 w13 w14 g15 w16 g17 w18 w19 g20 w21 g22 g23 g24 w25 w26 w27 g28 g29 w30 g31 g32 g33 fa fq fm fn)) hC V ⟨(Nat.le_of_ble_eq_true rfl), (Nat.le_of_ble_eq_true rfl)⟩ (.inr ⟨(-2), rfl, rfl, (by decide +kernel)⟩) dX8_refusesSeen_14

def q_m_seen (T : Nat → ClassId) (n : Nat) (o : Nat) (row : Int32) (w0 : Int32) (g1 : Nat) (g2 : Nat) (g3 : Nat) (g4 : Nat) (tp : Nat) (w6 : Int32) (w7 : Int32) (w8 : Int32) (w9 : Int32) (w10 : Int32) (w11 : Int32) (w12 : Int32) (w13 : Int32) (w14 : Int32) (g15 : Nat) (w16 : Int32) (g17 : Nat) (w18 : Int32) (w19 : Int32) (g20 : Nat) (w21 : Int32) (g22 : Nat) (g23 : Nat) (g24 : Nat) (w25 : Int32) (w26 : Int32) (w27 : Int32) (g28 : Nat) (g29 : Nat) (w30 : Int32) (g31 : Nat) (g32 : Nat) (g33 : Nat) (fa : Nat → Int32) (fq : Nat → Int32) (fm : Nat → Int32) (fn : Nat → Int64) : Option Value → va_W → Prop := fun rr ww => (∃ (z : Int32) (x1 : Int32) (x2 : Int32), rr = some (.int z) ∧ ww = [(o, .inr (8, [.int (nI 0), .ref g1, .ref g2, .ref g3, .ref g4, .int (nI tp), .int w6, .int w7, .int w8, .int w9, .int w10, .int w11, .int w12, .int w13, .int w14, .ref g15, .int w16, .ref g17, .int w18, .int w19, .ref g20, .int w21, .ref g22, .ref g23, .ref g24, .int w25, .int x1, .int x2, .ref g28, .ref g29, .int w30, .ref g31, .ref g32, .ref g33])), (g1, .inl (T 0, 282, .inl fa)), (g31, .inl (T 0, 4, .inl fq)), (g32, .inl (T 0, 4, .inl fm)), (g33, .inl (T 1, 160, .inr (.inl fn)))])
set_option maxHeartbeats 4000000 in
set_option maxRecDepth 100000 in
theorem m_seen (l : Launch) (D : va_G) (T : Nat → ClassId) (n : Nat) (o : Nat) (row : Int32) (w0 : Int32) (g1 : Nat) (g2 : Nat) (g3 : Nat) (g4 : Nat) (tp : Nat) (w6 : Int32) (w7 : Int32) (w8 : Int32) (w9 : Int32) (w10 : Int32) (w11 : Int32) (w12 : Int32) (w13 : Int32) (w14 : Int32) (g15 : Nat) (w16 : Int32) (g17 : Nat) (w18 : Int32) (w19 : Int32) (g20 : Nat) (w21 : Int32) (g22 : Nat) (g23 : Nat) (g24 : Nat) (w25 : Int32) (w26 : Int32) (w27 : Int32) (g28 : Nat) (g29 : Nat) (w30 : Int32) (g31 : Nat) (g32 : Nat) (g33 : Nat) (fa : Nat → Int32) (fq : Nat → Int32) (fm : Nat → Int32) (fn : Nat → Int64) (h_a : MI n fa) : Ct l yX8_seen cX8_seen 3 (some .int) 3 0 0 D T [.ref o, .int row] [(o, .inr (8, [.int w0, .ref g1, .ref g2, .ref g3, .ref g4, .int (nI tp), .int w6, .int w7, .int w8, .int w9, .int w10, .int w11, .int w12, .int w13, .int w14, .ref g15, .int w16, .ref g17, .int w18, .int w19, .ref g20, .int w21, .ref g22, .ref g23, .ref g24, .int w25, .int w26, .int w27, .ref g28, .ref g29, .int w30, .ref g31, .ref g32, .ref g33])), (g1, .inl (T 0, 282, .inl fa)), (g31, .inl (T 0, 4, .inl fq)), (g32, .inl (T 0, 4, .inl fm)), (g33, .inl (T 1, 160, .inr (.inl fn)))] (q_m_seen T n o row w0 g1 g2 g3 g4 tp w6 w7 w8 w9 w10 w11 w12 w13 w14 g15 w16 g17 w18 w19 g20 w21 g22 g23 g24 w25 w26 w27 g28 g29 w30 g31 g32 g33 fa fq fm fn) := by
  refine Ct.of (cc := cX8_seen) (maxL := 3) (ret := (some .int)) (by decide) (Nat.le_of_ble_eq_true rfl) ?_
  intro p e s m args below meth c A ls hC hnm V hl
  obtain ⟨hx, hb, hr, hml, hown, hts, hlocks⟩ := id hC
  generalize hH : s.heap = H at V ⊢
  clear hH
  have hl : lv_has ls 3 [(0, .ref o), (1, .int row)] := hl
  generalize hlo : ([] : List Loc) = locs at V ⊢
  clear hlo
  have ms0 := ms_rf h_a
  have hn10 := h_a.1
  refine lv_aload_n hx hb dX8_seen_0 rfl (lv_at hl 0 rfl) ?_
  refine lv_iconst (v := (nI 0)) hx hb dX8_seen_1 (by decide +kernel) ?_
  refine g_put hC V (ci := 8) uwX8 tyX8 tyX8_ok nmX8 0 rfl rfl 0 (by decide) w_912 rfl rfl rfl rfl (Nat.le_of_ble_eq_true rfl) (ws' := [(o, .inr (8, [.int (nI 0), .ref g1, .ref g2, .ref g3, .ref g4, .int (nI tp), .int w6, .int w7, .int w8, .int w9, .int w10, .int w11, .int w12, .int w13, .int w14, .ref g15, .int w16, .ref g17, .int w18, .int w19, .ref g20, .int w21, .ref g22, .ref g23, .ref g24, .int w25, .int w26, .int w27, .ref g28, .ref g29, .int w30, .ref g31, .ref g32, .ref g33])), (g1, .inl (T 0, 282, .inl fa)), (g31, .inl (T 0, 4, .inl fq)), (g32, .inl (T 0, 4, .inl fm)), (g33, .inl (T 1, 160, .inr (.inl fn)))]) rfl dX8_seen_2 (fun H locs V => ?_)
  refine lv_aload_n hx hb dX8_seen_5 rfl (lv_at hl 0 rfl) ?_
  refine lv_iload_n hx hb dX8_seen_6 rfl (lv_at hl 1 rfl) ?_
  refine g_callV (wr := []) (nA := 1) hC V hl.1 (m_refusesSeen l D T n o row (nI 0) g1 g2 g3 g4 tp w6 w7 w8 w9 w10 w11 w12 w13 w14 g15 w16 g17 w18 w19 g20 w21 g22 g23 g24 w25 w26 w27 g28 g29 w30 g31 g32 g33 fa fq fm fn h_a) w_1304 w_1306 w_s73 w_9 w_1307 (by decide +kernel) rfl ⟨(Nat.le_of_ble_eq_true rfl), (Nat.le_of_ble_eq_true rfl)⟩ 0 (ci := 8) rfl rfl [0, 1, 2, 3, 4] [] rfl rfl rfl rfl (by decide) (Nat.le_of_ble_eq_true rfl) dX8_seen_7 ⟨(Nat.le_of_ble_eq_true rfl), (Nat.le_of_ble_eq_true rfl)⟩ rfl (fun r w1 H locs hQ V => ?_)
  rcases hQ with ⟨r_1, rfl, rfl, f_2, f_3⟩ | ⟨z_4, rfl, rfl, f_5⟩
  · have V : gW D T A s [(o, .inr (8, [.int (nI 0), .ref g1, .ref g2, .ref g3, .ref g4, .int (nI tp), .int w6, .int w7, .int w8, .int w9, .int w10, .int w11, .int w12, .int w13, .int w14, .ref g15, .int w16, .ref g17, .int w18, .int w19, .ref g20, .int w21, .ref g22, .ref g23, .ref g24, .int w25, .int w26, .int w27, .ref g28, .ref g29, .int w30, .ref g31, .ref g32, .ref g33])), (g1, .inl (T 0, 282, .inl fa)), (g31, .inl (T 0, 4, .inl fq)), (g32, .inl (T 0, 4, .inl fm)), (g33, .inl (T 1, 160, .inr (.inl fn)))] H locs := V
    show W p l e _ s m args below meth c H locs _ _ _ (F0 m 10 ls [.int (nI 0)])
    rw [f_3] at hl
    refine lv_istore_n (lv' := [(2, .int (nI 0)), (0, .ref o), (1, .int (nI r_1))]) hx hb dX8_seen_10 rfl hl (by decide) rfl (fun ls hl => ?_)
    refine lv_iload_n hx hb dX8_seen_11 rfl (lv_at hl 0 rfl) ?_
    refine lv_if_eq (tgt := 19) hx hb dX8_seen_12 (by decide) (fun _ => ?_) (fun c => absurd (show (nI 0) = 0 by decide +kernel) c)
    refine lv_aload_n hx hb dX8_seen_19 rfl (lv_at hl 1 rfl) ?_
    refine lv_iload_n hx hb dX8_seen_20 rfl (lv_at hl 2 rfl) ?_
    refine g_callVU (nA := 1) hC V hl.1 (m_waysSeen l D T n o r_1 (nI 0) g1 g2 g3 g4 tp w6 w7 w8 w9 w10 w11 w12 w13 w14 g15 w16 g17 w18 w19 g20 w21 g22 g23 g24 w25 w26 w27 g28 g29 w30 g31 g32 g33 fa fm fn h_a (by first | assumption | omega)) w_1308 w_1310 w_s74 w_9 w_1311 (by decide +kernel) rfl ⟨(Nat.le_of_ble_eq_true rfl), (Nat.le_of_ble_eq_true rfl)⟩ 0 (ci := 8) rfl rfl [0, 1, 3, 4] rfl rfl (Nat.le_of_ble_eq_true rfl) dX8_seen_21 ⟨(Nat.le_of_ble_eq_true rfl), (Nat.le_of_ble_eq_true rfl)⟩ rfl (fun r w1 H locs hQ V => ?_)
    obtain ⟨z_6, x1_7, x2_8, rfl, rfl⟩ := hQ
    have V : gW D T A s [(o, .inr (8, [.int (nI 0), .ref g1, .ref g2, .ref g3, .ref g4, .int (nI tp), .int w6, .int w7, .int w8, .int w9, .int w10, .int w11, .int w12, .int w13, .int w14, .ref g15, .int w16, .ref g17, .int w18, .int w19, .ref g20, .int w21, .ref g22, .ref g23, .ref g24, .int w25, .int x1_7, .int x2_8, .ref g28, .ref g29, .int w30, .ref g31, .ref g32, .ref g33])), (g1, .inl (T 0, 282, .inl fa)), (g31, .inl (T 0, 4, .inl fq)), (g32, .inl (T 0, 4, .inl fm)), (g33, .inl (T 1, 160, .inr (.inl fn)))] H locs := V _ [0, 0, 1, 0] rfl rfl rfl (by decide +kernel) rfl
    show W p l e _ s m args below meth c H locs _ _ _ (F0 m 24 ls [.int z_6])
    exact g_iret (Qr := (q_m_seen T n o row w0 g1 g2 g3 g4 tp w6 w7 w8 w9 w10 w11 w12 w13 w14 g15 w16 g17 w18 w19 g20 w21 g22 g23 g24 w25 w26 w27 g28 g29 w30 g31 g32 g33 fa fq fm fn)) hC V ⟨(Nat.le_of_ble_eq_true rfl), (Nat.le_of_ble_eq_true rfl)⟩ ⟨z_6, x1_7, x2_8, rfl, rfl⟩ dX8_seen_24
  · have V : gW D T A s [(o, .inr (8, [.int (nI 0), .ref g1, .ref g2, .ref g3, .ref g4, .int (nI tp), .int w6, .int w7, .int w8, .int w9, .int w10, .int w11, .int w12, .int w13, .int w14, .ref g15, .int w16, .ref g17, .int w18, .int w19, .ref g20, .int w21, .ref g22, .ref g23, .ref g24, .int w25, .int w26, .int w27, .ref g28, .ref g29, .int w30, .ref g31, .ref g32, .ref g33])), (g1, .inl (T 0, 282, .inl fa)), (g31, .inl (T 0, 4, .inl fq)), (g32, .inl (T 0, 4, .inl fm)), (g33, .inl (T 1, 160, .inr (.inl fn)))] H locs := V
    show W p l e _ s m args below meth c H locs _ _ _ (F0 m 10 ls [.int z_4])
    refine lv_istore_n (lv' := [(2, .int z_4), (0, .ref o), (1, .int row)]) hx hb dX8_seen_10 rfl hl (by decide) rfl (fun ls hl => ?_)
    refine lv_iload_n hx hb dX8_seen_11 rfl (lv_at hl 0 rfl) ?_
    refine lv_if_eq (tgt := 19) hx hb dX8_seen_12 (by decide) (fun c_9 => ?_) (fun c_9 => ?_)
    · skip
      exact (absurd c_9 (by assumption) : False).elim
    · skip
      refine lv_iload_n hx hb dX8_seen_15 rfl (lv_at hl 0 rfl) ?_
      refine lv_goto (tgt := 24) hx hb dX8_seen_16 (by decide) ?_
      exact g_iret (Qr := (q_m_seen T n o row w0 g1 g2 g3 g4 tp w6 w7 w8 w9 w10 w11 w12 w13 w14 g15 w16 g17 w18 w19 g20 w21 g22 g23 g24 w25 w26 w27 g28 g29 w30 g31 g32 g33 fa fq fm fn)) hC V ⟨(Nat.le_of_ble_eq_true rfl), (Nat.le_of_ble_eq_true rfl)⟩ ⟨z_4, w26, w27, rfl, rfl⟩ dX8_seen_24

def q_m_sure (T : Nat → ClassId) (n : Nat) (o : Nat) (row : Int32) (pu : Int32) (w0 : Int32) (g1 : Nat) (g2 : Nat) (g3 : Nat) (g4 : Nat) (tp : Nat) (w6 : Int32) (w7 : Int32) (w8 : Int32) (w9 : Int32) (w10 : Int32) (w11 : Int32) (w12 : Int32) (w13 : Int32) (w14 : Int32) (g15 : Nat) (w16 : Int32) (g17 : Nat) (w18 : Int32) (w19 : Int32) (g20 : Nat) (w21 : Int32) (g22 : Nat) (g23 : Nat) (g24 : Nat) (w25 : Int32) (w26 : Int32) (w27 : Int32) (g28 : Nat) (g29 : Nat) (w30 : Int32) (g31 : Nat) (g32 : Nat) (g33 : Nat) (fa : Nat → Int32) (fq : Nat → Int32) (fm : Nat → Int32) (fn : Nat → Int64) : Option Value → va_W → Prop := fun rr ww => (∃ (z : Int32) (x1 : Int32) (x2 : Int32), rr = some (.int z) ∧ ww = [(o, .inr (8, [.int (nI 0), .ref g1, .ref g2, .ref g3, .ref g4, .int (nI tp), .int w6, .int w7, .int w8, .int w9, .int w10, .int w11, .int w12, .int w13, .int w14, .ref g15, .int w16, .ref g17, .int w18, .int w19, .ref g20, .int w21, .ref g22, .ref g23, .ref g24, .int w25, .int x1, .int x2, .ref g28, .ref g29, .int w30, .ref g31, .ref g32, .ref g33])), (g1, .inl (T 0, 282, .inl fa)), (g31, .inl (T 0, 4, .inl fq)), (g32, .inl (T 0, 4, .inl fm)), (g33, .inl (T 1, 160, .inr (.inl fn)))])
set_option maxHeartbeats 4000000 in
set_option maxRecDepth 100000 in
theorem m_sure (l : Launch) (D : va_G) (T : Nat → ClassId) (n : Nat) (o : Nat) (row : Int32) (pu : Int32) (w0 : Int32) (g1 : Nat) (g2 : Nat) (g3 : Nat) (g4 : Nat) (tp : Nat) (w6 : Int32) (w7 : Int32) (w8 : Int32) (w9 : Int32) (w10 : Int32) (w11 : Int32) (w12 : Int32) (w13 : Int32) (w14 : Int32) (g15 : Nat) (w16 : Int32) (g17 : Nat) (w18 : Int32) (w19 : Int32) (g20 : Nat) (w21 : Int32) (g22 : Nat) (g23 : Nat) (g24 : Nat) (w25 : Int32) (w26 : Int32) (w27 : Int32) (g28 : Nat) (g29 : Nat) (w30 : Int32) (g31 : Nat) (g32 : Nat) (g33 : Nat) (fa : Nat → Int32) (fq : Nat → Int32) (fm : Nat → Int32) (fn : Nat → Int64) (h_a : MI n fa) : Ct l yX8_sure cX8_sure 4 (some .int) 3 0 0 D T [.ref o, .int row, .int pu] [(o, .inr (8, [.int w0, .ref g1, .ref g2, .ref g3, .ref g4, .int (nI tp), .int w6, .int w7, .int w8, .int w9, .int w10, .int w11, .int w12, .int w13, .int w14, .ref g15, .int w16, .ref g17, .int w18, .int w19, .ref g20, .int w21, .ref g22, .ref g23, .ref g24, .int w25, .int w26, .int w27, .ref g28, .ref g29, .int w30, .ref g31, .ref g32, .ref g33])), (g1, .inl (T 0, 282, .inl fa)), (g31, .inl (T 0, 4, .inl fq)), (g32, .inl (T 0, 4, .inl fm)), (g33, .inl (T 1, 160, .inr (.inl fn)))] (q_m_sure T n o row pu w0 g1 g2 g3 g4 tp w6 w7 w8 w9 w10 w11 w12 w13 w14 g15 w16 g17 w18 w19 g20 w21 g22 g23 g24 w25 w26 w27 g28 g29 w30 g31 g32 g33 fa fq fm fn) := by
  refine Ct.of (cc := cX8_sure) (maxL := 4) (ret := (some .int)) (by decide) (Nat.le_of_ble_eq_true rfl) ?_
  intro p e s m args below meth c A ls hC hnm V hl
  obtain ⟨hx, hb, hr, hml, hown, hts, hlocks⟩ := id hC
  generalize hH : s.heap = H at V ⊢
  clear hH
  have hl : lv_has ls 4 [(0, .ref o), (1, .int row), (2, .int pu)] := hl
  generalize hlo : ([] : List Loc) = locs at V ⊢
  clear hlo
  have ms0 := ms_rf h_a
  have hn10 := h_a.1
  refine lv_aload_n hx hb dX8_sure_0 rfl (lv_at hl 0 rfl) ?_
  refine lv_iconst (v := (nI 0)) hx hb dX8_sure_1 (by decide +kernel) ?_
  refine g_put hC V (ci := 8) uwX8 tyX8 tyX8_ok nmX8 0 rfl rfl 0 (by decide) w_912 rfl rfl rfl rfl (Nat.le_of_ble_eq_true rfl) (ws' := [(o, .inr (8, [.int (nI 0), .ref g1, .ref g2, .ref g3, .ref g4, .int (nI tp), .int w6, .int w7, .int w8, .int w9, .int w10, .int w11, .int w12, .int w13, .int w14, .ref g15, .int w16, .ref g17, .int w18, .int w19, .ref g20, .int w21, .ref g22, .ref g23, .ref g24, .int w25, .int w26, .int w27, .ref g28, .ref g29, .int w30, .ref g31, .ref g32, .ref g33])), (g1, .inl (T 0, 282, .inl fa)), (g31, .inl (T 0, 4, .inl fq)), (g32, .inl (T 0, 4, .inl fm)), (g33, .inl (T 1, 160, .inr (.inl fn)))]) rfl dX8_sure_2 (fun H locs V => ?_)
  refine lv_aload_n hx hb dX8_sure_5 rfl (lv_at hl 0 rfl) ?_
  refine lv_iload_n hx hb dX8_sure_6 rfl (lv_at hl 1 rfl) ?_
  refine g_callV (wr := []) (nA := 1) hC V hl.1 (m_refusesSeen l D T n o row (nI 0) g1 g2 g3 g4 tp w6 w7 w8 w9 w10 w11 w12 w13 w14 g15 w16 g17 w18 w19 g20 w21 g22 g23 g24 w25 w26 w27 g28 g29 w30 g31 g32 g33 fa fq fm fn h_a) w_1304 w_1306 w_s73 w_9 w_1307 (by decide +kernel) rfl ⟨(Nat.le_of_ble_eq_true rfl), (Nat.le_of_ble_eq_true rfl)⟩ 0 (ci := 8) rfl rfl [0, 1, 2, 3, 4] [] rfl rfl rfl rfl (by decide) (Nat.le_of_ble_eq_true rfl) dX8_sure_7 ⟨(Nat.le_of_ble_eq_true rfl), (Nat.le_of_ble_eq_true rfl)⟩ rfl (fun r w1 H locs hQ V => ?_)
  rcases hQ with ⟨r_1, rfl, rfl, f_2, f_3⟩ | ⟨z_4, rfl, rfl, f_5⟩
  · have V : gW D T A s [(o, .inr (8, [.int (nI 0), .ref g1, .ref g2, .ref g3, .ref g4, .int (nI tp), .int w6, .int w7, .int w8, .int w9, .int w10, .int w11, .int w12, .int w13, .int w14, .ref g15, .int w16, .ref g17, .int w18, .int w19, .ref g20, .int w21, .ref g22, .ref g23, .ref g24, .int w25, .int w26, .int w27, .ref g28, .ref g29, .int w30, .ref g31, .ref g32, .ref g33])), (g1, .inl (T 0, 282, .inl fa)), (g31, .inl (T 0, 4, .inl fq)), (g32, .inl (T 0, 4, .inl fm)), (g33, .inl (T 1, 160, .inr (.inl fn)))] H locs := V
    show W p l e _ s m args below meth c H locs _ _ _ (F0 m 10 ls [.int (nI 0)])
    rw [f_3] at hl
    refine lv_istore_n (lv' := [(3, .int (nI 0)), (0, .ref o), (1, .int (nI r_1)), (2, .int pu)]) hx hb dX8_sure_10 rfl hl (by decide) rfl (fun ls hl => ?_)
    refine lv_iload_n hx hb dX8_sure_11 rfl (lv_at hl 0 rfl) ?_
    refine lv_if_eq (tgt := 17) hx hb dX8_sure_12 (by decide) (fun _ => ?_) (fun c => absurd (show (nI 0) = 0 by decide +kernel) c)
    refine lv_aload_n hx hb dX8_sure_17 rfl (lv_at hl 1 rfl) ?_
    refine lv_iload_n hx hb dX8_sure_18 rfl (lv_at hl 2 rfl) ?_
    refine g_callVU (nA := 1) hC V hl.1 (m_waysSeen l D T n o r_1 (nI 0) g1 g2 g3 g4 tp w6 w7 w8 w9 w10 w11 w12 w13 w14 g15 w16 g17 w18 w19 g20 w21 g22 g23 g24 w25 w26 w27 g28 g29 w30 g31 g32 g33 fa fm fn h_a (by first | assumption | omega)) w_1308 w_1310 w_s74 w_9 w_1311 (by decide +kernel) rfl ⟨(Nat.le_of_ble_eq_true rfl), (Nat.le_of_ble_eq_true rfl)⟩ 0 (ci := 8) rfl rfl [0, 1, 3, 4] rfl rfl (Nat.le_of_ble_eq_true rfl) dX8_sure_19 ⟨(Nat.le_of_ble_eq_true rfl), (Nat.le_of_ble_eq_true rfl)⟩ rfl (fun r w1 H locs hQ V => ?_)
    obtain ⟨z_6, x1_7, x2_8, rfl, rfl⟩ := hQ
    have V : gW D T A s [(o, .inr (8, [.int (nI 0), .ref g1, .ref g2, .ref g3, .ref g4, .int (nI tp), .int w6, .int w7, .int w8, .int w9, .int w10, .int w11, .int w12, .int w13, .int w14, .ref g15, .int w16, .ref g17, .int w18, .int w19, .ref g20, .int w21, .ref g22, .ref g23, .ref g24, .int w25, .int x1_7, .int x2_8, .ref g28, .ref g29, .int w30, .ref g31, .ref g32, .ref g33])), (g1, .inl (T 0, 282, .inl fa)), (g31, .inl (T 0, 4, .inl fq)), (g32, .inl (T 0, 4, .inl fm)), (g33, .inl (T 1, 160, .inr (.inl fn)))] H locs := V _ [0, 0, 1, 0] rfl rfl rfl (by decide +kernel) rfl
    show W p l e _ s m args below meth c H locs _ _ _ (F0 m 22 ls [.int z_6])
    refine lv_if_ne (tgt := 29) hx hb dX8_sure_22 (by decide) (fun c_9 => ?_) (fun c_9 => ?_)
    · skip
      refine lv_iload_n hx hb dX8_sure_29 rfl (lv_at hl 3 rfl) ?_
      refine lv_if_eq (tgt := 40) hx hb dX8_sure_30 (by decide) (fun c_10 => ?_) (fun c_10 => ?_)
      · skip
        refine lv_aload_n hx hb dX8_sure_40 rfl (lv_at hl 1 rfl) ?_
        refine g_get hC V (ci := 8) uwX8 0 rfl rfl 27 (by decide) w_939 rfl rfl dX8_sure_41 ?_
        exact g_iret (Qr := (q_m_sure T n o row pu w0 g1 g2 g3 g4 tp w6 w7 w8 w9 w10 w11 w12 w13 w14 g15 w16 g17 w18 w19 g20 w21 g22 g23 g24 w25 w26 w27 g28 g29 w30 g31 g32 g33 fa fq fm fn)) hC V ⟨(Nat.le_of_ble_eq_true rfl), (Nat.le_of_ble_eq_true rfl)⟩ ⟨x2_8, x1_7, x2_8, rfl, rfl⟩ dX8_sure_44
      · skip
        refine lv_aload_n hx hb dX8_sure_33 rfl (lv_at hl 1 rfl) ?_
        refine g_get hC V (ci := 8) uwX8 0 rfl rfl 26 (by decide) w_938 rfl rfl dX8_sure_34 ?_
        refine lv_goto (tgt := 44) hx hb dX8_sure_37 (by decide) ?_
        exact g_iret (Qr := (q_m_sure T n o row pu w0 g1 g2 g3 g4 tp w6 w7 w8 w9 w10 w11 w12 w13 w14 g15 w16 g17 w18 w19 g20 w21 g22 g23 g24 w25 w26 w27 g28 g29 w30 g31 g32 g33 fa fq fm fn)) hC V ⟨(Nat.le_of_ble_eq_true rfl), (Nat.le_of_ble_eq_true rfl)⟩ ⟨x1_7, x1_7, x2_8, rfl, rfl⟩ dX8_sure_44
    · skip
      refine lv_iconst (v := (nI 0)) hx hb dX8_sure_25 (by decide +kernel) ?_
      refine lv_goto (tgt := 44) hx hb dX8_sure_26 (by decide) ?_
      exact g_iret (Qr := (q_m_sure T n o row pu w0 g1 g2 g3 g4 tp w6 w7 w8 w9 w10 w11 w12 w13 w14 g15 w16 g17 w18 w19 g20 w21 g22 g23 g24 w25 w26 w27 g28 g29 w30 g31 g32 g33 fa fq fm fn)) hC V ⟨(Nat.le_of_ble_eq_true rfl), (Nat.le_of_ble_eq_true rfl)⟩ ⟨(nI 0), x1_7, x2_8, rfl, rfl⟩ dX8_sure_44
  · have V : gW D T A s [(o, .inr (8, [.int (nI 0), .ref g1, .ref g2, .ref g3, .ref g4, .int (nI tp), .int w6, .int w7, .int w8, .int w9, .int w10, .int w11, .int w12, .int w13, .int w14, .ref g15, .int w16, .ref g17, .int w18, .int w19, .ref g20, .int w21, .ref g22, .ref g23, .ref g24, .int w25, .int w26, .int w27, .ref g28, .ref g29, .int w30, .ref g31, .ref g32, .ref g33])), (g1, .inl (T 0, 282, .inl fa)), (g31, .inl (T 0, 4, .inl fq)), (g32, .inl (T 0, 4, .inl fm)), (g33, .inl (T 1, 160, .inr (.inl fn)))] H locs := V
    show W p l e _ s m args below meth c H locs _ _ _ (F0 m 10 ls [.int z_4])
    refine lv_istore_n (lv' := [(3, .int z_4), (0, .ref o), (1, .int row), (2, .int pu)]) hx hb dX8_sure_10 rfl hl (by decide) rfl (fun ls hl => ?_)
    refine lv_iload_n hx hb dX8_sure_11 rfl (lv_at hl 0 rfl) ?_
    refine lv_if_eq (tgt := 17) hx hb dX8_sure_12 (by decide) (fun c_11 => ?_) (fun c_11 => ?_)
    · skip
      exact (absurd c_11 (by assumption) : False).elim
    · skip
      refine lv_iload_n hx hb dX8_sure_15 rfl (lv_at hl 0 rfl) ?_
      exact g_iret (Qr := (q_m_sure T n o row pu w0 g1 g2 g3 g4 tp w6 w7 w8 w9 w10 w11 w12 w13 w14 g15 w16 g17 w18 w19 g20 w21 g22 g23 g24 w25 w26 w27 g28 g29 w30 g31 g32 g33 fa fq fm fn)) hC V ⟨(Nat.le_of_ble_eq_true rfl), (Nat.le_of_ble_eq_true rfl)⟩ ⟨z_4, w26, w27, rfl, rfl⟩ dX8_sure_16

theorem wm_1 {cm : Int32} {j : Nat} (h : ∃ p, p ≤ 60 * 10 ∧ cm = nI p - nI j) (hj : j < 31) (hc : 0 < cm) : ∃ q, 1 ≤ q ∧ q ≤ 700 ∧ cm = nI q := by
  obtain ⟨p, hp, e⟩ := h
  by_cases c : j ≤ p
  · rw [nI_sub c] at e
    refine ⟨p - j, ?_, by omega, e⟩
    rcases Nat.eq_zero_or_pos (p - j) with h0 | h0
    · rw [h0] at e
      rw [e] at hc
      exact absurd hc (by decide +kernel)
    · exact h0
  · exfalso
    rw [e] at hc
    exact absurd hc (Int32.not_lt.mpr (Int32.le_of_lt (neg_sub (by omega) (by omega))))
theorem wm_0 {j : Nat} : ∃ p, p ≤ 60 * 0 ∧ -(nI j) = nI p - nI j := ⟨0, Nat.le_refl _, by rw [show nI 0 = 0 by decide +kernel, Int32.zero_sub]⟩
theorem wm_s {cm : Int32} {k j b : Nat} (h : ∃ p, p ≤ 60 * k ∧ cm = nI p - nI j) (hb : b < 61) : ∃ p, p ≤ 60 * (k + 1) ∧ cm + nI b = nI p - nI j := by
  obtain ⟨p, hp, e⟩ := h
  refine ⟨p + b, by omega, ?_⟩
  rw [e, ← nI_add, Int32.sub_eq_add_neg, Int32.sub_eq_add_neg, Int32.add_assoc, Int32.add_assoc, Int32.add_comm (-nI j) (nI b)]
theorem wm_s0 {cm : Int32} {k j : Nat} (h : ∃ p, p ≤ 60 * k ∧ cm = nI p - nI j) : ∃ p, p ≤ 60 * (k + 1) ∧ cm + nI 0 = nI p - nI j := wm_s h (by decide)
theorem wm_n {cm : Int32} {k j : Nat} (h : ∃ p, p ≤ 60 * k ∧ cm = nI p - nI j) (hk : k ≤ 10) : ∃ p, p ≤ 60 * 10 ∧ cm = nI p - nI j := by
  obtain ⟨p, hp, e⟩ := h
  exact ⟨p, by omega, e⟩

def q_m_cold (T : Nat → ClassId) (n : Nat) (o : Nat) (i : Int32) (w0 : Int32) (g1 : Nat) (g2 : Nat) (g3 : Nat) (g4 : Nat) (tp : Nat) (w6 : Int32) (w7 : Int32) (w8 : Int32) (w9 : Int32) (w10 : Int32) (w11 : Int32) (w12 : Int32) (w13 : Int32) (w14 : Int32) (g15 : Nat) (w16 : Int32) (g17 : Nat) (w18 : Int32) (w19 : Int32) (g20 : Nat) (w21 : Int32) (g22 : Nat) (g23 : Nat) (g24 : Nat) (w25 : Int32) (w26 : Int32) (w27 : Int32) (g28 : Nat) (g29 : Nat) (w30 : Int32) (g31 : Nat) (g32 : Nat) (g33 : Nat) (fa : Nat → Int32) : Option Value → va_W → Prop := fun rr ww => (∃ (z : Int32), rr = some (.int z) ∧ ww = [(o, .inr (8, [.int (nI 0), .ref g1, .ref g2, .ref g3, .ref g4, .int (nI tp), .int w6, .int w7, .int w8, .int w9, .int w10, .int w11, .int w12, .int w13, .int w14, .ref g15, .int w16, .ref g17, .int w18, .int w19, .ref g20, .int w21, .ref g22, .ref g23, .ref g24, .int w25, .int w26, .int w27, .ref g28, .ref g29, .int w30, .ref g31, .ref g32, .ref g33])), (g1, .inl (T 0, 282, .inl fa))])
set_option maxHeartbeats 4000000 in
set_option maxRecDepth 100000 in
theorem m_cold (l : Launch) (D : va_G) (T : Nat → ClassId) (n : Nat) (o : Nat) (i : Int32) (w0 : Int32) (g1 : Nat) (g2 : Nat) (g3 : Nat) (g4 : Nat) (tp : Nat) (w6 : Int32) (w7 : Int32) (w8 : Int32) (w9 : Int32) (w10 : Int32) (w11 : Int32) (w12 : Int32) (w13 : Int32) (w14 : Int32) (g15 : Nat) (w16 : Int32) (g17 : Nat) (w18 : Int32) (w19 : Int32) (g20 : Nat) (w21 : Int32) (g22 : Nat) (g23 : Nat) (g24 : Nat) (w25 : Int32) (w26 : Int32) (w27 : Int32) (g28 : Nat) (g29 : Nat) (w30 : Int32) (g31 : Nat) (g32 : Nat) (g33 : Nat) (fa : Nat → Int32) (h_a : MI n fa) : Ct l yX8_cold cX8_cold 4 (some .int) 2 0 0 D T [.ref o, .int i] [(o, .inr (8, [.int w0, .ref g1, .ref g2, .ref g3, .ref g4, .int (nI tp), .int w6, .int w7, .int w8, .int w9, .int w10, .int w11, .int w12, .int w13, .int w14, .ref g15, .int w16, .ref g17, .int w18, .int w19, .ref g20, .int w21, .ref g22, .ref g23, .ref g24, .int w25, .int w26, .int w27, .ref g28, .ref g29, .int w30, .ref g31, .ref g32, .ref g33])), (g1, .inl (T 0, 282, .inl fa))] (q_m_cold T n o i w0 g1 g2 g3 g4 tp w6 w7 w8 w9 w10 w11 w12 w13 w14 g15 w16 g17 w18 w19 g20 w21 g22 g23 g24 w25 w26 w27 g28 g29 w30 g31 g32 g33 fa) := by
  refine Ct.of (cc := cX8_cold) (maxL := 4) (ret := (some .int)) (by decide) (Nat.le_of_ble_eq_true rfl) ?_
  intro p e s m args below meth c A ls hC hnm V hl
  obtain ⟨hx, hb, hr, hml, hown, hts, hlocks⟩ := id hC
  generalize hH : s.heap = H at V ⊢
  clear hH
  have hl : lv_has ls 4 [(0, .ref o), (1, .int i)] := hl
  generalize hlo : ([] : List Loc) = locs at V ⊢
  clear hlo
  have ms0 := ms_rf h_a
  have hn10 := h_a.1
  refine lv_aload_n hx hb dX8_cold_0 rfl (lv_at hl 0 rfl) ?_
  refine lv_iconst (v := (nI 0)) hx hb dX8_cold_1 (by decide +kernel) ?_
  refine g_put hC V (ci := 8) uwX8 tyX8 tyX8_ok nmX8 0 rfl rfl 0 (by decide) w_912 rfl rfl rfl rfl (Nat.le_of_ble_eq_true rfl) (ws' := [(o, .inr (8, [.int (nI 0), .ref g1, .ref g2, .ref g3, .ref g4, .int (nI tp), .int w6, .int w7, .int w8, .int w9, .int w10, .int w11, .int w12, .int w13, .int w14, .ref g15, .int w16, .ref g17, .int w18, .int w19, .ref g20, .int w21, .ref g22, .ref g23, .ref g24, .int w25, .int w26, .int w27, .ref g28, .ref g29, .int w30, .ref g31, .ref g32, .ref g33])), (g1, .inl (T 0, 282, .inl fa))]) rfl dX8_cold_2 (fun H locs V => ?_)
  refine lv_aload_n hx hb dX8_cold_5 rfl (lv_at hl 0 rfl) ?_
  refine lv_iload_n hx hb dX8_cold_6 rfl (lv_at hl 1 rfl) ?_
  refine g_callV (wr := []) (nA := 1) hC V hl.1 (m_isSmith l D T n o i (nI 0) g1 g2 g3 g4 tp w6 w7 w8 w9 w10 w11 w12 w13 w14 g15 w16 g17 w18 w19 g20 w21 g22 g23 g24 w25 w26 w27 g28 g29 w30 g31 g32 g33 fa h_a) w_1083 w_1085 w_s46 w_9 w_1086 (by decide +kernel) rfl ⟨(Nat.le_of_ble_eq_true rfl), (Nat.le_of_ble_eq_true rfl)⟩ 0 (ci := 8) rfl rfl [0, 1] [] rfl rfl rfl rfl (by decide) (Nat.le_of_ble_eq_true rfl) dX8_cold_7 ⟨(Nat.le_of_ble_eq_true rfl), (Nat.le_of_ble_eq_true rfl)⟩ rfl (fun r w1 H locs hQ V => ?_)
  rcases hQ with ⟨j_1, rfl, rfl, f_2, f_3⟩ | ⟨rfl, rfl⟩
  · have V : gW D T A s [(o, .inr (8, [.int (nI 0), .ref g1, .ref g2, .ref g3, .ref g4, .int (nI tp), .int w6, .int w7, .int w8, .int w9, .int w10, .int w11, .int w12, .int w13, .int w14, .ref g15, .int w16, .ref g17, .int w18, .int w19, .ref g20, .int w21, .ref g22, .ref g23, .ref g24, .int w25, .int w26, .int w27, .ref g28, .ref g29, .int w30, .ref g31, .ref g32, .ref g33])), (g1, .inl (T 0, 282, .inl fa))] H locs := V
    show W p l e _ s m args below meth c H locs _ _ _ (F0 m 10 ls [.int (nI 1)])
    rw [f_2] at hl
    refine lv_if_ne (tgt := 16) hx hb dX8_cold_10 (by decide) (fun _ => ?_) (fun c => absurd (show (nI 1) = 0 from c) (by decide +kernel))
    refine lv_aload_n hx hb dX8_cold_16 rfl (lv_at hl 0 rfl) ?_
    refine g_get hC V (ci := 8) uwX8 0 rfl rfl 1 (by decide) w_913 rfl rfl dX8_cold_17 ?_
    refine lv_bipush (v := (nI 24)) hx hb dX8_cold_20 (by decide +kernel) ?_
    refine lv_iload_n hx hb dX8_cold_22 rfl (lv_at hl 1 rfl) ?_
    refine lv_iadd hx hb dX8_cold_23 ?_
    refine g_vi (y := (nI (24 + j_1))) (nI_add _ _) ?_
    obtain ⟨j_4, hj_4, ej_4⟩ := bd_ex (mi_heat h_a (i := j_1) (by omega))
    refine g_iald hC V 1 rfl (vp_in_nI (by omega) (by omega)) (v := (nI j_4)) (by rw [nI_clamp (by omega)]; exact ej_4) dX8_cold_24 ?_
    refine lv_istore_n (lv' := [(2, .int (nI j_4)), (0, .ref o), (1, .int (nI j_1))]) hx hb dX8_cold_25 rfl hl (by decide) rfl (fun ls hl => ?_)
    refine lv_iconst (v := (nI 0)) hx hb dX8_cold_26 (by decide +kernel) ?_
    refine lv_istore_n (lv' := [(3, .int (nI 0)), (2, .int (nI j_4)), (0, .ref o), (1, .int (nI j_1))]) hx hb dX8_cold_27 rfl hl (by decide) rfl (fun ls hl => ?_)
    have L_5 : ∀ (fu : Nat) (now_ : Nat) (x28_3 : Int32), now_ ≤ 255 → now_ < fu → ∀ (H : Heap) (locs : List Loc) (ls : Array Slot), gW D T A s [(o, .inr (8, [.int (nI 0), .ref g1, .ref g2, .ref g3, .ref g4, .int (nI tp), .int w6, .int w7, .int w8, .int w9, .int w10, .int w11, .int w12, .int w13, .int w14, .ref g15, .int w16, .ref g17, .int w18, .int w19, .ref g20, .int w21, .ref g22, .ref g23, .ref g24, .int w25, .int w26, .int w27, .ref g28, .ref g29, .int w30, .ref g31, .ref g32, .ref g33])), (g1, .inl (T 0, 282, .inl fa))] H locs → lv_has ls 4 [(3, .int x28_3), (2, .int (nI now_)), (0, .ref o), (1, .int (nI j_1))] → W p l e (rmD 2 0 0) s m args below meth c H locs 0 0 (MQ below (gQ D A (q_m_cold T n o i w0 g1 g2 g3 g4 tp w6 w7 w8 w9 w10 w11 w12 w13 w14 g15 w16 g17 w18 w19 g20 w21 g22 g23 g24 w25 w26 w27 g28 g29 w30 g31 g32 g33 fa)) args s 0 0 A) (F0 m 28 ls []) := by
      intro fu_28
      induction fu_28 with
      | zero => intro now_ x28_3 hnow hmu; exact absurd hmu (Nat.not_lt_zero _)
      | succ fu_28 ih_28 =>
        intro now_ x28_3 hnow hmu_28 H locs ls V hl
        refine lv_iload_n hx hb dX8_cold_28 rfl (lv_at hl 1 rfl) ?_
        refine lv_aload_n hx hb dX8_cold_29 rfl (lv_at hl 2 rfl) ?_
        refine g_get hC V (ci := 8) uwX8 0 rfl rfl 1 (by decide) w_913 rfl rfl dX8_cold_30 ?_
        refine lv_bipush (v := (nI 34)) hx hb dX8_cold_33 (by decide +kernel) ?_
        refine lv_iload_n hx hb dX8_cold_35 rfl (lv_at hl 3 rfl) ?_
        refine lv_iadd hx hb dX8_cold_36 ?_
        refine g_vi (y := (nI (34 + j_1))) (nI_add _ _) ?_
        refine g_iald hC V 1 rfl (vp_in_nI (by omega) (by omega)) (v := (fa (34 + j_1))) (congrArg _ (nI_clamp (by omega))) dX8_cold_37 ?_
        refine lv_icmp_lt (tgt := 80) hx hb dX8_cold_38 (by decide) (fun c_6 => ?_) (fun c_6 => ?_)
        · skip
          refine lv_iload_n hx hb dX8_cold_80 rfl (lv_at hl 0 rfl) ?_
          exact g_iret (Qr := (q_m_cold T n o i w0 g1 g2 g3 g4 tp w6 w7 w8 w9 w10 w11 w12 w13 w14 g15 w16 g17 w18 w19 g20 w21 g22 g23 g24 w25 w26 w27 g28 g29 w30 g31 g32 g33 fa)) hC V ⟨(Nat.le_of_ble_eq_true rfl), (Nat.le_of_ble_eq_true rfl)⟩ ⟨x28_3, rfl, rfl⟩ dX8_cold_81
        · skip
          refine lv_aload_n hx hb dX8_cold_41 rfl (lv_at hl 2 rfl) ?_
          refine g_get hC V (ci := 8) uwX8 0 rfl rfl 1 (by decide) w_913 rfl rfl dX8_cold_42 ?_
          refine lv_bipush (v := (nI 14)) hx hb dX8_cold_45 (by decide +kernel) ?_
          refine lv_iload_n hx hb dX8_cold_47 rfl (lv_at hl 3 rfl) ?_
          refine lv_iadd hx hb dX8_cold_48 ?_
          refine g_vi (y := (nI (14 + j_1))) (nI_add _ _) ?_
          obtain ⟨j_7, hj_7, ej_7⟩ := bd_ex (mi_cool h_a (i := j_1) (by omega))
          refine g_iald hC V 1 rfl (vp_in_nI (by omega) (by omega)) (v := (nI j_7)) (by rw [nI_clamp (by omega)]; exact ej_7) dX8_cold_49 ?_
          refine lv_if_eq (tgt := 57) hx hb dX8_cold_50 (by decide) (fun c_8 => ?_) (fun c_8 => ?_)
          · skip
            rw [show (0 : Int32) = nI 0 from rfl] at c_8
            have c_8 := b_eq (by omega) (by omega) c_8
            refine lv_iconst (v := (-1)) hx hb dX8_cold_57 (by decide +kernel) ?_
            exact g_iret (Qr := (q_m_cold T n o i w0 g1 g2 g3 g4 tp w6 w7 w8 w9 w10 w11 w12 w13 w14 g15 w16 g17 w18 w19 g20 w21 g22 g23 g24 w25 w26 w27 g28 g29 w30 g31 g32 g33 fa)) hC V ⟨(Nat.le_of_ble_eq_true rfl), (Nat.le_of_ble_eq_true rfl)⟩ ⟨(-1), rfl, rfl⟩ dX8_cold_58
          · skip
            rw [show (0 : Int32) = nI 0 from rfl] at c_8
            have c_8 := b_ne (by omega) (by omega) c_8
            refine lv_iload_n hx hb dX8_cold_53 rfl (lv_at hl 1 rfl) ?_
            refine lv_if_ne (tgt := 59) hx hb dX8_cold_54 (by decide) (fun c_9 => ?_) (fun c_9 => ?_)
            · skip
              rw [show (0 : Int32) = nI 0 from rfl] at c_9
              have c_9 := b_ne (by omega) (by omega) c_9
              refine lv_iload_n hx hb dX8_cold_59 rfl (lv_at hl 1 rfl) ?_
              refine lv_aload_n hx hb dX8_cold_60 rfl (lv_at hl 2 rfl) ?_
              refine g_get hC V (ci := 8) uwX8 0 rfl rfl 1 (by decide) w_913 rfl rfl dX8_cold_61 ?_
              refine lv_bipush (v := (nI 14)) hx hb dX8_cold_64 (by decide +kernel) ?_
              refine lv_iload_n hx hb dX8_cold_66 rfl (lv_at hl 3 rfl) ?_
              refine lv_iadd hx hb dX8_cold_67 ?_
              refine g_vi (y := (nI (14 + j_1))) (nI_add _ _) ?_
              refine g_iald hC V 1 rfl (vp_in_nI (by omega) (by omega)) (v := (nI j_7)) (by rw [nI_clamp (by omega)]; exact ej_7) dX8_cold_68 ?_
              refine lv_isub hx hb dX8_cold_69 ?_
              refine g_callSU (nA := 1) hC V hl.1 (m_inBounds l D T ((nI now_) - (nI j_7))) w_1133 w_1134 w_9 w_1135 (by decide +kernel) rfl ⟨(Nat.le_of_ble_eq_true rfl), (Nat.le_of_ble_eq_true rfl)⟩ [] rfl rfl (Nat.le_of_ble_eq_true rfl) dX8_cold_70 ⟨(Nat.le_of_ble_eq_true rfl), (Nat.le_of_ble_eq_true rfl)⟩ rfl (fun r w1 H locs hQ V => ?_)
              obtain ⟨z_10, rfl, rfl, f_11, f_12⟩ := hQ
              have V : gW D T A s [(o, .inr (8, [.int (nI 0), .ref g1, .ref g2, .ref g3, .ref g4, .int (nI tp), .int w6, .int w7, .int w8, .int w9, .int w10, .int w11, .int w12, .int w13, .int w14, .ref g15, .int w16, .ref g17, .int w18, .int w19, .ref g20, .int w21, .ref g22, .ref g23, .ref g24, .int w25, .int w26, .int w27, .ref g28, .ref g29, .int w30, .ref g31, .ref g32, .ref g33])), (g1, .inl (T 0, 282, .inl fa))] H locs := V _ [] rfl rfl rfl (by decide +kernel) rfl
              show W p l e _ s m args below meth c H locs _ _ _ (F0 m 73 ls [.int z_10])
              obtain ⟨r_13, hr_13, er_13⟩ := f_11
              refine g_vi (y := nI r_13) er_13 ?_
              have hdn := ib_dn (a := now_) (by omega) (by omega) (by omega) (by omega) (er_13.symm.trans f_12) (by omega)
              refine lv_istore_n (lv' := [(2, .int (nI r_13)), (3, .int x28_3), (0, .ref o), (1, .int (nI j_1))]) hx hb dX8_cold_73 rfl hl (by decide) rfl (fun ls hl => ?_)
              refine lv_iinc (v := (x28_3 + 1)) (lv' := [(3, .int (x28_3 + 1)), (2, .int (nI r_13)), (0, .ref o), (1, .int (nI j_1))]) hx hb dX8_cold_74 hl (k := 1) rfl rfl (by decide) rfl (fun ls hl => ?_)
              refine lv_goto (tgt := 28) hx hb dX8_cold_77 (by decide) ?_
              exact ih_28 r_13 (x28_3 + 1) (by omega) (by omega) _ _ _ V (lv_sub hl [0, 1, 2, 3] rfl)
            · skip
              rw [show (0 : Int32) = nI 0 from rfl] at c_9
              have c_9 := b_eq (by omega) (by omega) c_9
              refine lv_iconst (v := (-1)) hx hb dX8_cold_57 (by decide +kernel) ?_
              exact g_iret (Qr := (q_m_cold T n o i w0 g1 g2 g3 g4 tp w6 w7 w8 w9 w10 w11 w12 w13 w14 g15 w16 g17 w18 w19 g20 w21 g22 g23 g24 w25 w26 w27 g28 g29 w30 g31 g32 g33 fa)) hC V ⟨(Nat.le_of_ble_eq_true rfl), (Nat.le_of_ble_eq_true rfl)⟩ ⟨(-1), rfl, rfl⟩ dX8_cold_58
    exact L_5 _ j_4 (nI 0) (by omega) (Nat.lt_succ_self _) _ _ _ V (lv_sub hl [0, 1, 2, 3] rfl)
  · have V : gW D T A s [(o, .inr (8, [.int (nI 0), .ref g1, .ref g2, .ref g3, .ref g4, .int (nI tp), .int w6, .int w7, .int w8, .int w9, .int w10, .int w11, .int w12, .int w13, .int w14, .ref g15, .int w16, .ref g17, .int w18, .int w19, .ref g20, .int w21, .ref g22, .ref g23, .ref g24, .int w25, .int w26, .int w27, .ref g28, .ref g29, .int w30, .ref g31, .ref g32, .ref g33])), (g1, .inl (T 0, 282, .inl fa))] H locs := V
    show W p l e _ s m args below meth c H locs _ _ _ (F0 m 10 ls [.int (nI 0)])
    refine lv_if_ne (tgt := 16) hx hb dX8_cold_10 (by decide) (fun c => absurd (show (nI 0) = 0 by decide +kernel) c) (fun _ => ?_)
    refine lv_bipush (v := (-2)) hx hb dX8_cold_13 (by decide +kernel) ?_
    exact g_iret (Qr := (q_m_cold T n o i w0 g1 g2 g3 g4 tp w6 w7 w8 w9 w10 w11 w12 w13 w14 g15 w16 g17 w18 w19 g20 w21 g22 g23 g24 w25 w26 w27 g28 g29 w30 g31 g32 g33 fa)) hC V ⟨(Nat.le_of_ble_eq_true rfl), (Nat.le_of_ble_eq_true rfl)⟩ ⟨(-2), rfl, rfl⟩ dX8_cold_15

def q_m_smith (T : Nat → ClassId) (n : Nat) (o : Nat) (i : Int32) (wh : Int32) (w0 : Int32) (g1 : Nat) (g2 : Nat) (g3 : Nat) (g4 : Nat) (tp : Nat) (w6 : Int32) (w7 : Int32) (w8 : Int32) (w9 : Int32) (w10 : Int32) (w11 : Int32) (w12 : Int32) (w13 : Int32) (w14 : Int32) (g15 : Nat) (w16 : Int32) (g17 : Nat) (w18 : Int32) (w19 : Int32) (g20 : Nat) (w21 : Int32) (g22 : Nat) (g23 : Nat) (g24 : Nat) (w25 : Int32) (w26 : Int32) (w27 : Int32) (g28 : Nat) (g29 : Nat) (w30 : Int32) (g31 : Nat) (g32 : Nat) (g33 : Nat) (fa : Nat → Int32) : Option Value → va_W → Prop := fun rr ww => (∃ (z : Int32), rr = some (.int z) ∧ ww = [(o, .inr (8, [.int (nI 0), .ref g1, .ref g2, .ref g3, .ref g4, .int (nI tp), .int w6, .int w7, .int w8, .int w9, .int w10, .int w11, .int w12, .int w13, .int w14, .ref g15, .int w16, .ref g17, .int w18, .int w19, .ref g20, .int w21, .ref g22, .ref g23, .ref g24, .int w25, .int w26, .int w27, .ref g28, .ref g29, .int w30, .ref g31, .ref g32, .ref g33])), (g1, .inl (T 0, 282, .inl fa))])
set_option maxHeartbeats 4000000 in
set_option maxRecDepth 100000 in
theorem m_smith (l : Launch) (D : va_G) (T : Nat → ClassId) (n : Nat) (o : Nat) (i : Int32) (wh : Int32) (w0 : Int32) (g1 : Nat) (g2 : Nat) (g3 : Nat) (g4 : Nat) (tp : Nat) (w6 : Int32) (w7 : Int32) (w8 : Int32) (w9 : Int32) (w10 : Int32) (w11 : Int32) (w12 : Int32) (w13 : Int32) (w14 : Int32) (g15 : Nat) (w16 : Int32) (g17 : Nat) (w18 : Int32) (w19 : Int32) (g20 : Nat) (w21 : Int32) (g22 : Nat) (g23 : Nat) (g24 : Nat) (w25 : Int32) (w26 : Int32) (w27 : Int32) (g28 : Nat) (g29 : Nat) (w30 : Int32) (g31 : Nat) (g32 : Nat) (g33 : Nat) (fa : Nat → Int32) (h_a : MI n fa) : Ct l yX8_smith cX8_smith 3 (some .int) 2 0 0 D T [.ref o, .int i, .int wh] [(o, .inr (8, [.int w0, .ref g1, .ref g2, .ref g3, .ref g4, .int (nI tp), .int w6, .int w7, .int w8, .int w9, .int w10, .int w11, .int w12, .int w13, .int w14, .ref g15, .int w16, .ref g17, .int w18, .int w19, .ref g20, .int w21, .ref g22, .ref g23, .ref g24, .int w25, .int w26, .int w27, .ref g28, .ref g29, .int w30, .ref g31, .ref g32, .ref g33])), (g1, .inl (T 0, 282, .inl fa))] (q_m_smith T n o i wh w0 g1 g2 g3 g4 tp w6 w7 w8 w9 w10 w11 w12 w13 w14 g15 w16 g17 w18 w19 g20 w21 g22 g23 g24 w25 w26 w27 g28 g29 w30 g31 g32 g33 fa) := by
  refine Ct.of (cc := cX8_smith) (maxL := 3) (ret := (some .int)) (by decide) (Nat.le_of_ble_eq_true rfl) ?_
  intro p e s m args below meth c A ls hC hnm V hl
  obtain ⟨hx, hb, hr, hml, hown, hts, hlocks⟩ := id hC
  generalize hH : s.heap = H at V ⊢
  clear hH
  have hl : lv_has ls 3 [(0, .ref o), (1, .int i), (2, .int wh)] := hl
  generalize hlo : ([] : List Loc) = locs at V ⊢
  clear hlo
  have ms0 := ms_rf h_a
  have hn10 := h_a.1
  refine lv_aload_n hx hb dX8_smith_0 rfl (lv_at hl 0 rfl) ?_
  refine lv_iconst (v := (nI 0)) hx hb dX8_smith_1 (by decide +kernel) ?_
  refine g_put hC V (ci := 8) uwX8 tyX8 tyX8_ok nmX8 0 rfl rfl 0 (by decide) w_912 rfl rfl rfl rfl (Nat.le_of_ble_eq_true rfl) (ws' := [(o, .inr (8, [.int (nI 0), .ref g1, .ref g2, .ref g3, .ref g4, .int (nI tp), .int w6, .int w7, .int w8, .int w9, .int w10, .int w11, .int w12, .int w13, .int w14, .ref g15, .int w16, .ref g17, .int w18, .int w19, .ref g20, .int w21, .ref g22, .ref g23, .ref g24, .int w25, .int w26, .int w27, .ref g28, .ref g29, .int w30, .ref g31, .ref g32, .ref g33])), (g1, .inl (T 0, 282, .inl fa))]) rfl dX8_smith_2 (fun H locs V => ?_)
  refine lv_aload_n hx hb dX8_smith_5 rfl (lv_at hl 0 rfl) ?_
  refine lv_iload_n hx hb dX8_smith_6 rfl (lv_at hl 1 rfl) ?_
  refine g_callV (wr := []) (nA := 1) hC V hl.1 (m_isSmith l D T n o i (nI 0) g1 g2 g3 g4 tp w6 w7 w8 w9 w10 w11 w12 w13 w14 g15 w16 g17 w18 w19 g20 w21 g22 g23 g24 w25 w26 w27 g28 g29 w30 g31 g32 g33 fa h_a) w_1083 w_1085 w_s46 w_9 w_1086 (by decide +kernel) rfl ⟨(Nat.le_of_ble_eq_true rfl), (Nat.le_of_ble_eq_true rfl)⟩ 0 (ci := 8) rfl rfl [0, 1] [] rfl rfl rfl rfl (by decide) (Nat.le_of_ble_eq_true rfl) dX8_smith_7 ⟨(Nat.le_of_ble_eq_true rfl), (Nat.le_of_ble_eq_true rfl)⟩ rfl (fun r w1 H locs hQ V => ?_)
  rcases hQ with ⟨j_1, rfl, rfl, f_2, f_3⟩ | ⟨rfl, rfl⟩
  · have V : gW D T A s [(o, .inr (8, [.int (nI 0), .ref g1, .ref g2, .ref g3, .ref g4, .int (nI tp), .int w6, .int w7, .int w8, .int w9, .int w10, .int w11, .int w12, .int w13, .int w14, .ref g15, .int w16, .ref g17, .int w18, .int w19, .ref g20, .int w21, .ref g22, .ref g23, .ref g24, .int w25, .int w26, .int w27, .ref g28, .ref g29, .int w30, .ref g31, .ref g32, .ref g33])), (g1, .inl (T 0, 282, .inl fa))] H locs := V
    show W p l e _ s m args below meth c H locs _ _ _ (F0 m 10 ls [.int (nI 1)])
    rw [f_2] at hl
    refine lv_if_eq (tgt := 25) hx hb dX8_smith_10 (by decide) (fun c => absurd (show (nI 1) = 0 from c) (by decide +kernel)) (fun _ => ?_)
    refine lv_iload_n hx hb dX8_smith_13 rfl (lv_at hl 2 rfl) ?_
    refine lv_i2l (v := wh.toInt64) hx hb dX8_smith_14 rfl ?_
    refine lv_lconst (v := (nI 0).toInt64) hx hb dX8_smith_15 (by decide +kernel) ?_
    refine lv_ldc2 (v := (9)) hx hb hown (hts _ w_1087) dX8_smith_16 ?_
    refine g_vl (y := (nI 9).toInt64) (by decide +kernel) ?_
    refine g_callSU (nA := 3) hC V hl.1 (m_within l D T wh (nI 0) (nI 9)) w_1023 w_1024 w_9 w_1025 (by decide +kernel) rfl ⟨(Nat.le_of_ble_eq_true rfl), (Nat.le_of_ble_eq_true rfl)⟩ [] rfl rfl (Nat.le_of_ble_eq_true rfl) dX8_smith_19 ⟨(Nat.le_of_ble_eq_true rfl), (Nat.le_of_ble_eq_true rfl)⟩ rfl (fun r w1 H locs hQ V => ?_)
    rcases hQ with ⟨rfl, rfl, f_4, f_5⟩ | ⟨rfl, rfl, f_6⟩
    · have V : gW D T A s [(o, .inr (8, [.int (nI 0), .ref g1, .ref g2, .ref g3, .ref g4, .int (nI tp), .int w6, .int w7, .int w8, .int w9, .int w10, .int w11, .int w12, .int w13, .int w14, .ref g15, .int w16, .ref g17, .int w18, .int w19, .ref g20, .int w21, .ref g22, .ref g23, .ref g24, .int w25, .int w26, .int w27, .ref g28, .ref g29, .int w30, .ref g31, .ref g32, .ref g33])), (g1, .inl (T 0, 282, .inl fa))] H locs := V _ [] rfl rfl rfl (by decide +kernel) rfl
      show W p l e _ s m args below meth c H locs _ _ _ (F0 m 22 ls [.int (nI 1)])
      obtain ⟨jw, hjw1, hjw2, ejw⟩ := g_rng (by first | decide | omega) (by first | decide | omega) f_4 f_5
      rw [ejw] at hl
      refine lv_if_ne (tgt := 28) hx hb dX8_smith_22 (by decide) (fun _ => ?_) (fun c => absurd (show (nI 1) = 0 from c) (by decide +kernel))
      refine lv_iload_n hx hb dX8_smith_28 rfl (lv_at hl 2 rfl) ?_
      refine lv_bipush (v := (nI 9)) hx hb dX8_smith_29 (by decide +kernel) ?_
      refine lv_icmp_ne (tgt := 50) hx hb dX8_smith_31 (by decide) (fun c_7 => ?_) (fun c_7 => ?_)
      · skip
        have c_7 := b_ne (by omega) (by omega) c_7
        refine lv_aload_n hx hb dX8_smith_50 rfl (lv_at hl 0 rfl) ?_
        refine g_get hC V (ci := 8) uwX8 0 rfl rfl 1 (by decide) w_913 rfl rfl dX8_smith_51 ?_
        refine lv_iconst (v := (nI 4)) hx hb dX8_smith_54 (by decide +kernel) ?_
        refine lv_bipush (v := (nI 10)) hx hb dX8_smith_55 (by decide +kernel) ?_
        refine lv_iload_n hx hb dX8_smith_57 rfl (lv_at hl 2 rfl) ?_
        refine lv_imul hx hb dX8_smith_58 ?_
        refine g_vi (y := (nI (10 * jw))) (pk_mul _ _) ?_
        refine lv_iadd hx hb dX8_smith_59 ?_
        refine g_vi (y := (nI (4 + (10 * jw)))) (nI_add _ _) ?_
        refine lv_iload_n hx hb dX8_smith_60 rfl (lv_at hl 1 rfl) ?_
        refine lv_iadd hx hb dX8_smith_61 ?_
        refine g_vi (y := (nI ((4 + (10 * jw)) + j_1))) (nI_add _ _) ?_
        refine g_iald hC V 1 rfl (vp_in_nI (by omega) (by omega)) (v := (fa ((4 + (10 * jw)) + j_1))) (congrArg _ (nI_clamp (by omega))) dX8_smith_62 ?_
        exact g_iret (Qr := (q_m_smith T n o i wh w0 g1 g2 g3 g4 tp w6 w7 w8 w9 w10 w11 w12 w13 w14 g15 w16 g17 w18 w19 g20 w21 g22 g23 g24 w25 w26 w27 g28 g29 w30 g31 g32 g33 fa)) hC V ⟨(Nat.le_of_ble_eq_true rfl), (Nat.le_of_ble_eq_true rfl)⟩ ⟨(fa ((4 + (10 * jw)) + j_1)), rfl, rfl⟩ dX8_smith_63
      · skip
        have c_7 := b_eq (by omega) (by omega) c_7
        refine lv_aload_n hx hb dX8_smith_34 rfl (lv_at hl 0 rfl) ?_
        refine lv_iload_n hx hb dX8_smith_35 rfl (lv_at hl 1 rfl) ?_
        refine g_callV (wr := []) (nA := 1) hC V hl.1 (m_isDone l D T o j_1 (nI 0) g1 g2 g3 g4 tp w6 w7 w8 w9 w10 w11 w12 w13 w14 g15 w16 g17 w18 w19 g20 w21 g22 g23 g24 w25 w26 w27 g28 g29 w30 g31 g32 g33 fa (by first | assumption | omega)) w_1088 w_1090 w_s47 w_9 w_1091 (by decide +kernel) rfl ⟨(Nat.le_of_ble_eq_true rfl), (Nat.le_of_ble_eq_true rfl)⟩ 0 (ci := 8) rfl rfl [0, 1] [] rfl rfl rfl rfl (by decide) (Nat.le_of_ble_eq_true rfl) dX8_smith_36 ⟨(Nat.le_of_ble_eq_true rfl), (Nat.le_of_ble_eq_true rfl)⟩ rfl (fun r w1 H locs hQ V => ?_)
        rcases hQ with ⟨rfl, rfl, f_8⟩ | ⟨rfl, rfl, f_9⟩
        · have V : gW D T A s [(o, .inr (8, [.int (nI 0), .ref g1, .ref g2, .ref g3, .ref g4, .int (nI tp), .int w6, .int w7, .int w8, .int w9, .int w10, .int w11, .int w12, .int w13, .int w14, .ref g15, .int w16, .ref g17, .int w18, .int w19, .ref g20, .int w21, .ref g22, .ref g23, .ref g24, .int w25, .int w26, .int w27, .ref g28, .ref g29, .int w30, .ref g31, .ref g32, .ref g33])), (g1, .inl (T 0, 282, .inl fa))] H locs := V
          show W p l e _ s m args below meth c H locs _ _ _ (F0 m 39 ls [.int (nI 1)])
          refine lv_if_eq (tgt := 46) hx hb dX8_smith_39 (by decide) (fun c => absurd (show (nI 1) = 0 from c) (by decide +kernel)) (fun _ => ?_)
          refine lv_iconst (v := (nI 1)) hx hb dX8_smith_42 (by decide +kernel) ?_
          refine lv_goto (tgt := 63) hx hb dX8_smith_43 (by decide) ?_
          exact g_iret (Qr := (q_m_smith T n o i wh w0 g1 g2 g3 g4 tp w6 w7 w8 w9 w10 w11 w12 w13 w14 g15 w16 g17 w18 w19 g20 w21 g22 g23 g24 w25 w26 w27 g28 g29 w30 g31 g32 g33 fa)) hC V ⟨(Nat.le_of_ble_eq_true rfl), (Nat.le_of_ble_eq_true rfl)⟩ ⟨(nI 1), rfl, rfl⟩ dX8_smith_63
        · have V : gW D T A s [(o, .inr (8, [.int (nI 0), .ref g1, .ref g2, .ref g3, .ref g4, .int (nI tp), .int w6, .int w7, .int w8, .int w9, .int w10, .int w11, .int w12, .int w13, .int w14, .ref g15, .int w16, .ref g17, .int w18, .int w19, .ref g20, .int w21, .ref g22, .ref g23, .ref g24, .int w25, .int w26, .int w27, .ref g28, .ref g29, .int w30, .ref g31, .ref g32, .ref g33])), (g1, .inl (T 0, 282, .inl fa))] H locs := V
          show W p l e _ s m args below meth c H locs _ _ _ (F0 m 39 ls [.int (nI 0)])
          refine lv_if_eq (tgt := 46) hx hb dX8_smith_39 (by decide) (fun _ => ?_) (fun c => absurd (show (nI 0) = 0 by decide +kernel) c)
          refine lv_iconst (v := (nI 0)) hx hb dX8_smith_46 (by decide +kernel) ?_
          refine lv_goto (tgt := 63) hx hb dX8_smith_47 (by decide) ?_
          exact g_iret (Qr := (q_m_smith T n o i wh w0 g1 g2 g3 g4 tp w6 w7 w8 w9 w10 w11 w12 w13 w14 g15 w16 g17 w18 w19 g20 w21 g22 g23 g24 w25 w26 w27 g28 g29 w30 g31 g32 g33 fa)) hC V ⟨(Nat.le_of_ble_eq_true rfl), (Nat.le_of_ble_eq_true rfl)⟩ ⟨(nI 0), rfl, rfl⟩ dX8_smith_63
    · have V : gW D T A s [(o, .inr (8, [.int (nI 0), .ref g1, .ref g2, .ref g3, .ref g4, .int (nI tp), .int w6, .int w7, .int w8, .int w9, .int w10, .int w11, .int w12, .int w13, .int w14, .ref g15, .int w16, .ref g17, .int w18, .int w19, .ref g20, .int w21, .ref g22, .ref g23, .ref g24, .int w25, .int w26, .int w27, .ref g28, .ref g29, .int w30, .ref g31, .ref g32, .ref g33])), (g1, .inl (T 0, 282, .inl fa))] H locs := V _ [] rfl rfl rfl (by decide +kernel) rfl
      show W p l e _ s m args below meth c H locs _ _ _ (F0 m 22 ls [.int (nI 0)])
      refine lv_if_ne (tgt := 28) hx hb dX8_smith_22 (by decide) (fun c => absurd (show (nI 0) = 0 by decide +kernel) c) (fun _ => ?_)
      refine lv_bipush (v := (-2)) hx hb dX8_smith_25 (by decide +kernel) ?_
      exact g_iret (Qr := (q_m_smith T n o i wh w0 g1 g2 g3 g4 tp w6 w7 w8 w9 w10 w11 w12 w13 w14 g15 w16 g17 w18 w19 g20 w21 g22 g23 g24 w25 w26 w27 g28 g29 w30 g31 g32 g33 fa)) hC V ⟨(Nat.le_of_ble_eq_true rfl), (Nat.le_of_ble_eq_true rfl)⟩ ⟨(-2), rfl, rfl⟩ dX8_smith_27
  · have V : gW D T A s [(o, .inr (8, [.int (nI 0), .ref g1, .ref g2, .ref g3, .ref g4, .int (nI tp), .int w6, .int w7, .int w8, .int w9, .int w10, .int w11, .int w12, .int w13, .int w14, .ref g15, .int w16, .ref g17, .int w18, .int w19, .ref g20, .int w21, .ref g22, .ref g23, .ref g24, .int w25, .int w26, .int w27, .ref g28, .ref g29, .int w30, .ref g31, .ref g32, .ref g33])), (g1, .inl (T 0, 282, .inl fa))] H locs := V
    show W p l e _ s m args below meth c H locs _ _ _ (F0 m 10 ls [.int (nI 0)])
    refine lv_if_eq (tgt := 25) hx hb dX8_smith_10 (by decide) (fun _ => ?_) (fun c => absurd (show (nI 0) = 0 by decide +kernel) c)
    refine lv_bipush (v := (-2)) hx hb dX8_smith_25 (by decide +kernel) ?_
    exact g_iret (Qr := (q_m_smith T n o i wh w0 g1 g2 g3 g4 tp w6 w7 w8 w9 w10 w11 w12 w13 w14 g15 w16 g17 w18 w19 g20 w21 g22 g23 g24 w25 w26 w27 g28 g29 w30 g31 g32 g33 fa)) hC V ⟨(Nat.le_of_ble_eq_true rfl), (Nat.le_of_ble_eq_true rfl)⟩ ⟨(-2), rfl, rfl⟩ dX8_smith_27

theorem nv_r {v : Int32} {a b : Nat} (ha : a + 1 = b) (hb : b < 2147483648) (h : v < nI 0 ∨ nI a < v) : v < 0 ∨ nI b ≤ v := by
  rcases h with h | h
  · exact Or.inl h
  · refine Or.inr ?_
    rw [Int32.lt_iff_toInt_lt, nI_toInt (by omega)] at h
    rw [Int32.le_iff_toInt_le, nI_toInt hb]
    omega
theorem nv_n {v : Int32} {a b : Nat} (ha : a + 1 = b) (hb : b < 2147483648) (h : ¬ nI a < v) : ¬ nI b ≤ v := by
  intro h2
  apply h
  rw [Int32.le_iff_toInt_le, nI_toInt hb] at h2
  rw [Int32.lt_iff_toInt_lt, nI_toInt (by omega)]
  omega
/-- one row's number changed -/
theorem rm_st {f : Nat → Int32} {r x : Nat} (h : ∀ i, i < 4 → bd (f i) 41) (hx : x ≤ 40) : ∀ i, i < 4 → bd (upd f r (nI x) i) 41 := up_all (p := fun y => bd y 41) h (fun _ => bd_nI (by omega))
theorem rs_st {f : Nat → Int32} {r x : Nat} (h : ∀ i, i < 4 → (f i = -1 ∨ bd (f i) 4)) (hx : x ≤ 3) : ∀ i, i < 4 → (upd f r (nI x) i = -1 ∨ bd (upd f r (nI x) i) 4) := up_all (p := fun y => y = -1 ∨ bd y 4) h (fun _ => Or.inr (bd_nI (by omega)))

theorem up_ge {f : Nat → Int32} {j k : Nat} {x : Int32} (h : j < k) : upd f k x j = f j := up_other (by omega)
theorem im_mi {n m : Nat} {f g : Nat → Int32} (h : MI n f) (e : ∀ j, j < 94 → g (m + j) = f j) : MI n (fun j => g (m + j)) := mi_ext h e
theorem im_old {n m : Nat} {f g : Nat → Int32} (h : MI n (fun j => f (m + j))) (e : ∀ j, j < 94 → g (m + j) = f (m + j)) : MI n (fun j => g (m + j)) := mi_ext h e

theorem im_st {f g : Nat → Int32} {B k : Nat} (h1 : ∀ j, j < k → f (B + j) = g j) (h2 : ∀ j, j < B → f j = g j) (hk : k < 94) (hB : 94 ≤ B) : ∀ j, j < k + 1 → upd f (B + k) (f k) (B + j) = g j := by
  intro j hj
  by_cases e : j = k
  · subst e; rw [up_same]; exact h2 j (by omega)
  · rw [up_other (by omega)]; exact h1 j (by omega)

def q_m_sumOf (T : Nat → ClassId) (n : Nat) (o : Nat) (fr : Nat) (w0 : Int32) (g1 : Nat) (g2 : Nat) (g3 : Nat) (g4 : Nat) (tp : Nat) (w6 : Int32) (w7 : Int32) (w8 : Int32) (w9 : Int32) (w10 : Int32) (w11 : Int32) (w12 : Int32) (w13 : Int32) (w14 : Int32) (g15 : Nat) (w16 : Int32) (g17 : Nat) (w18 : Int32) (w19 : Int32) (g20 : Nat) (w21 : Int32) (g22 : Nat) (g23 : Nat) (g24 : Nat) (w25 : Int32) (w26 : Int32) (w27 : Int32) (g28 : Nat) (g29 : Nat) (w30 : Int32) (g31 : Nat) (g32 : Nat) (g33 : Nat) (fa : Nat → Int32) : Option Value → va_W → Prop := fun rr ww => (∃ (z : Int32), rr = some (.int z) ∧ ww = [(o, .inr (8, [.int w0, .ref g1, .ref g2, .ref g3, .ref g4, .int (nI tp), .int w6, .int w7, .int w8, .int w9, .int w10, .int w11, .int w12, .int w13, .int w14, .ref g15, .int w16, .ref g17, .int w18, .int w19, .ref g20, .int w21, .ref g22, .ref g23, .ref g24, .int w25, .int w26, .int w27, .ref g28, .ref g29, .int w30, .ref g31, .ref g32, .ref g33])), (g1, .inl (T 0, 282, .inl fa))])
set_option maxHeartbeats 4000000 in
set_option maxRecDepth 100000 in
theorem m_sumOf (l : Launch) (D : va_G) (T : Nat → ClassId) (n : Nat) (o : Nat) (fr : Nat) (w0 : Int32) (g1 : Nat) (g2 : Nat) (g3 : Nat) (g4 : Nat) (tp : Nat) (w6 : Int32) (w7 : Int32) (w8 : Int32) (w9 : Int32) (w10 : Int32) (w11 : Int32) (w12 : Int32) (w13 : Int32) (w14 : Int32) (g15 : Nat) (w16 : Int32) (g17 : Nat) (w18 : Int32) (w19 : Int32) (g20 : Nat) (w21 : Int32) (g22 : Nat) (g23 : Nat) (g24 : Nat) (w25 : Int32) (w26 : Int32) (w27 : Int32) (g28 : Nat) (g29 : Nat) (w30 : Int32) (g31 : Nat) (g32 : Nat) (g33 : Nat) (fa : Nat → Int32) (h_a : MI n fa) (h_fr : fr ≤ 74) : Ct l yX8_sumOf cX8_sumOf 4 (some .int) 0 0 0 D T [.ref o, .int (nI fr)] [(o, .inr (8, [.int w0, .ref g1, .ref g2, .ref g3, .ref g4, .int (nI tp), .int w6, .int w7, .int w8, .int w9, .int w10, .int w11, .int w12, .int w13, .int w14, .ref g15, .int w16, .ref g17, .int w18, .int w19, .ref g20, .int w21, .ref g22, .ref g23, .ref g24, .int w25, .int w26, .int w27, .ref g28, .ref g29, .int w30, .ref g31, .ref g32, .ref g33])), (g1, .inl (T 0, 282, .inl fa))] (q_m_sumOf T n o fr w0 g1 g2 g3 g4 tp w6 w7 w8 w9 w10 w11 w12 w13 w14 g15 w16 g17 w18 w19 g20 w21 g22 g23 g24 w25 w26 w27 g28 g29 w30 g31 g32 g33 fa) := by
  refine Ct.of (cc := cX8_sumOf) (maxL := 4) (ret := (some .int)) (by decide) (Nat.le_of_ble_eq_true rfl) ?_
  intro p e s m args below meth c A ls hC hnm V hl
  obtain ⟨hx, hb, hr, hml, hown, hts, hlocks⟩ := id hC
  generalize hH : s.heap = H at V ⊢
  clear hH
  have hl : lv_has ls 4 [(0, .ref o), (1, .int (nI fr))] := hl
  generalize hlo : ([] : List Loc) = locs at V ⊢
  clear hlo
  have ms0 := ms_rf h_a
  have hn10 := h_a.1
  refine lv_iconst (v := (nI 0)) hx hb dX8_sumOf_0 (by decide +kernel) ?_
  refine lv_istore_n (lv' := [(2, .int (nI 0)), (0, .ref o), (1, .int (nI fr))]) hx hb dX8_sumOf_1 rfl hl (by decide) rfl (fun ls hl => ?_)
  refine lv_iconst (v := (nI 0)) hx hb dX8_sumOf_2 (by decide +kernel) ?_
  refine lv_istore_n (lv' := [(3, .int (nI 0)), (2, .int (nI 0)), (0, .ref o), (1, .int (nI fr))]) hx hb dX8_sumOf_3 rfl hl (by decide) rfl (fun ls hl => ?_)
  have L_1 : ∀ (fu : Nat) (k4 : Nat) (x4_2 : Int32), k4 ≤ n → n - k4 < fu → ∀ (H : Heap) (locs : List Loc) (ls : Array Slot), gW D T A s [(o, .inr (8, [.int w0, .ref g1, .ref g2, .ref g3, .ref g4, .int (nI tp), .int w6, .int w7, .int w8, .int w9, .int w10, .int w11, .int w12, .int w13, .int w14, .ref g15, .int w16, .ref g17, .int w18, .int w19, .ref g20, .int w21, .ref g22, .ref g23, .ref g24, .int w25, .int w26, .int w27, .ref g28, .ref g29, .int w30, .ref g31, .ref g32, .ref g33])), (g1, .inl (T 0, 282, .inl fa))] H locs → lv_has ls 4 [(3, .int (nI k4)), (2, .int x4_2), (0, .ref o), (1, .int (nI fr))] → W p l e (rmD 0 0 0) s m args below meth c H locs 0 0 (MQ below (gQ D A (q_m_sumOf T n o fr w0 g1 g2 g3 g4 tp w6 w7 w8 w9 w10 w11 w12 w13 w14 g15 w16 g17 w18 w19 g20 w21 g22 g23 g24 w25 w26 w27 g28 g29 w30 g31 g32 g33 fa)) args s 0 0 A) (F0 m 4 ls []) := by
    intro fu_4
    induction fu_4 with
    | zero => intro k4 x4_2 hk4 hmu; exact absurd hmu (Nat.not_lt_zero _)
    | succ fu_4 ih_4 =>
      intro k4 x4_2 hk4 hmu_4 H locs ls V hl
      refine lv_iload_n hx hb dX8_sumOf_4 rfl (lv_at hl 0 rfl) ?_
      refine lv_aload_n hx hb dX8_sumOf_5 rfl (lv_at hl 2 rfl) ?_
      refine g_get hC V (ci := 8) uwX8 0 rfl rfl 1 (by decide) w_913 rfl rfl dX8_sumOf_6 ?_
      refine lv_iconst (v := (nI 0)) hx hb dX8_sumOf_9 (by decide +kernel) ?_
      refine g_iald hC V 1 rfl (vp_in_nI (by decide) (by decide)) (v := (nI n)) (by rw [nI_clamp (by decide)]; first | rfl | exact h_a.2.1) dX8_sumOf_10 ?_
      refine lv_icmp_ge (tgt := 31) hx hb dX8_sumOf_11 (by decide) (fun c_2 => ?_) (fun c_2 => ?_)
      · skip
        have c_2 := b_le (by omega) (by omega) c_2
        refine lv_iload_n hx hb dX8_sumOf_31 rfl (lv_at hl 1 rfl) ?_
        exact g_iret (Qr := (q_m_sumOf T n o fr w0 g1 g2 g3 g4 tp w6 w7 w8 w9 w10 w11 w12 w13 w14 g15 w16 g17 w18 w19 g20 w21 g22 g23 g24 w25 w26 w27 g28 g29 w30 g31 g32 g33 fa)) hC V ⟨(Nat.le_of_ble_eq_true rfl), (Nat.le_of_ble_eq_true rfl)⟩ ⟨x4_2, rfl, rfl⟩ dX8_sumOf_32
      · skip
        have c_2 := b_nle (by omega) (by omega) c_2
        refine lv_iload_n hx hb dX8_sumOf_14 rfl (lv_at hl 1 rfl) ?_
        refine lv_aload_n hx hb dX8_sumOf_15 rfl (lv_at hl 2 rfl) ?_
        refine g_get hC V (ci := 8) uwX8 0 rfl rfl 1 (by decide) w_913 rfl rfl dX8_sumOf_16 ?_
        refine lv_iload_n hx hb dX8_sumOf_19 rfl (lv_at hl 3 rfl) ?_
        refine lv_iload_n hx hb dX8_sumOf_20 rfl (lv_at hl 0 rfl) ?_
        refine lv_iadd hx hb dX8_sumOf_21 ?_
        refine g_vi (y := (nI (fr + k4))) (nI_add _ _) ?_
        refine g_iald hC V 1 rfl (vp_in_nI (by omega) (by omega)) (v := (fa (fr + k4))) (congrArg _ (nI_clamp (by omega))) dX8_sumOf_22 ?_
        refine lv_iadd hx hb dX8_sumOf_23 ?_
        refine lv_istore_n (lv' := [(2, .int (x4_2 + (fa (fr + k4)))), (3, .int (nI k4)), (0, .ref o), (1, .int (nI fr))]) hx hb dX8_sumOf_24 rfl hl (by decide) rfl (fun ls hl => ?_)
        refine lv_iinc (v := (nI (k4 + 1))) (lv' := [(3, .int (nI (k4 + 1))), (2, .int (x4_2 + (fa (fr + k4)))), (0, .ref o), (1, .int (nI fr))]) hx hb dX8_sumOf_25 hl (k := 1) rfl (nI_1 _) (by decide) rfl (fun ls hl => ?_)
        refine lv_goto (tgt := 4) hx hb dX8_sumOf_28 (by decide) ?_
        exact ih_4 (k4 + 1) (x4_2 + (fa (fr + k4))) (by omega) (by omega) _ _ _ V (lv_sub hl [0, 1, 2, 3] rfl)
  exact L_1 _ 0 (nI 0) (by omega) (Nat.lt_succ_self _) _ _ _ V (lv_sub hl [0, 1, 2, 3] rfl)

def q_m_warmOnes (T : Nat → ClassId) (n : Nat) (o : Nat) (w0 : Int32) (g1 : Nat) (g2 : Nat) (g3 : Nat) (g4 : Nat) (tp : Nat) (w6 : Int32) (w7 : Int32) (w8 : Int32) (w9 : Int32) (w10 : Int32) (w11 : Int32) (w12 : Int32) (w13 : Int32) (w14 : Int32) (g15 : Nat) (w16 : Int32) (g17 : Nat) (w18 : Int32) (w19 : Int32) (g20 : Nat) (w21 : Int32) (g22 : Nat) (g23 : Nat) (g24 : Nat) (w25 : Int32) (w26 : Int32) (w27 : Int32) (g28 : Nat) (g29 : Nat) (w30 : Int32) (g31 : Nat) (g32 : Nat) (g33 : Nat) (fa : Nat → Int32) : Option Value → va_W → Prop := fun rr ww => (∃ (z : Int32), rr = some (.int z) ∧ ww = [(o, .inr (8, [.int w0, .ref g1, .ref g2, .ref g3, .ref g4, .int (nI tp), .int w6, .int w7, .int w8, .int w9, .int w10, .int w11, .int w12, .int w13, .int w14, .ref g15, .int w16, .ref g17, .int w18, .int w19, .ref g20, .int w21, .ref g22, .ref g23, .ref g24, .int w25, .int w26, .int w27, .ref g28, .ref g29, .int w30, .ref g31, .ref g32, .ref g33])), (g1, .inl (T 0, 282, .inl fa))])
set_option maxHeartbeats 4000000 in
set_option maxRecDepth 100000 in
theorem m_warmOnes (l : Launch) (D : va_G) (T : Nat → ClassId) (n : Nat) (o : Nat) (w0 : Int32) (g1 : Nat) (g2 : Nat) (g3 : Nat) (g4 : Nat) (tp : Nat) (w6 : Int32) (w7 : Int32) (w8 : Int32) (w9 : Int32) (w10 : Int32) (w11 : Int32) (w12 : Int32) (w13 : Int32) (w14 : Int32) (g15 : Nat) (w16 : Int32) (g17 : Nat) (w18 : Int32) (w19 : Int32) (g20 : Nat) (w21 : Int32) (g22 : Nat) (g23 : Nat) (g24 : Nat) (w25 : Int32) (w26 : Int32) (w27 : Int32) (g28 : Nat) (g29 : Nat) (w30 : Int32) (g31 : Nat) (g32 : Nat) (g33 : Nat) (fa : Nat → Int32) (h_a : MI n fa) : Ct l yX8_warmOnes cX8_warmOnes 3 (some .int) 1 0 0 D T [.ref o] [(o, .inr (8, [.int w0, .ref g1, .ref g2, .ref g3, .ref g4, .int (nI tp), .int w6, .int w7, .int w8, .int w9, .int w10, .int w11, .int w12, .int w13, .int w14, .ref g15, .int w16, .ref g17, .int w18, .int w19, .ref g20, .int w21, .ref g22, .ref g23, .ref g24, .int w25, .int w26, .int w27, .ref g28, .ref g29, .int w30, .ref g31, .ref g32, .ref g33])), (g1, .inl (T 0, 282, .inl fa))] (q_m_warmOnes T n o w0 g1 g2 g3 g4 tp w6 w7 w8 w9 w10 w11 w12 w13 w14 g15 w16 g17 w18 w19 g20 w21 g22 g23 g24 w25 w26 w27 g28 g29 w30 g31 g32 g33 fa) := by
  refine Ct.of (cc := cX8_warmOnes) (maxL := 3) (ret := (some .int)) (by decide) (Nat.le_of_ble_eq_true rfl) ?_
  intro p e s m args below meth c A ls hC hnm V hl
  obtain ⟨hx, hb, hr, hml, hown, hts, hlocks⟩ := id hC
  generalize hH : s.heap = H at V ⊢
  clear hH
  have hl : lv_has ls 3 [(0, .ref o)] := hl
  generalize hlo : ([] : List Loc) = locs at V ⊢
  clear hlo
  have ms0 := ms_rf h_a
  have hn10 := h_a.1
  refine lv_iconst (v := (nI 0)) hx hb dX8_warmOnes_0 (by decide +kernel) ?_
  refine lv_istore_n (lv' := [(1, .int (nI 0)), (0, .ref o)]) hx hb dX8_warmOnes_1 rfl hl (by decide) rfl (fun ls hl => ?_)
  refine lv_iconst (v := (nI 0)) hx hb dX8_warmOnes_2 (by decide +kernel) ?_
  refine lv_istore_n (lv' := [(2, .int (nI 0)), (1, .int (nI 0)), (0, .ref o)]) hx hb dX8_warmOnes_3 rfl hl (by decide) rfl (fun ls hl => ?_)
  have L_1 : ∀ (fu : Nat) (k4 : Nat) (x4_1 : Int32), k4 ≤ n → n - k4 < fu → ∀ (H : Heap) (locs : List Loc) (ls : Array Slot), gW D T A s [(o, .inr (8, [.int w0, .ref g1, .ref g2, .ref g3, .ref g4, .int (nI tp), .int w6, .int w7, .int w8, .int w9, .int w10, .int w11, .int w12, .int w13, .int w14, .ref g15, .int w16, .ref g17, .int w18, .int w19, .ref g20, .int w21, .ref g22, .ref g23, .ref g24, .int w25, .int w26, .int w27, .ref g28, .ref g29, .int w30, .ref g31, .ref g32, .ref g33])), (g1, .inl (T 0, 282, .inl fa))] H locs → lv_has ls 3 [(2, .int (nI k4)), (1, .int x4_1), (0, .ref o)] → W p l e (rmD 1 0 0) s m args below meth c H locs 0 0 (MQ below (gQ D A (q_m_warmOnes T n o w0 g1 g2 g3 g4 tp w6 w7 w8 w9 w10 w11 w12 w13 w14 g15 w16 g17 w18 w19 g20 w21 g22 g23 g24 w25 w26 w27 g28 g29 w30 g31 g32 g33 fa)) args s 0 0 A) (F0 m 4 ls []) := by
    intro fu_4
    induction fu_4 with
    | zero => intro k4 x4_1 hk4 hmu; exact absurd hmu (Nat.not_lt_zero _)
    | succ fu_4 ih_4 =>
      intro k4 x4_1 hk4 hmu_4 H locs ls V hl
      refine lv_iload_n hx hb dX8_warmOnes_4 rfl (lv_at hl 0 rfl) ?_
      refine lv_aload_n hx hb dX8_warmOnes_5 rfl (lv_at hl 2 rfl) ?_
      refine g_get hC V (ci := 8) uwX8 0 rfl rfl 1 (by decide) w_913 rfl rfl dX8_warmOnes_6 ?_
      refine lv_iconst (v := (nI 0)) hx hb dX8_warmOnes_9 (by decide +kernel) ?_
      refine g_iald hC V 1 rfl (vp_in_nI (by decide) (by decide)) (v := (nI n)) (by rw [nI_clamp (by decide)]; first | rfl | exact h_a.2.1) dX8_warmOnes_10 ?_
      refine lv_icmp_ge (tgt := 38) hx hb dX8_warmOnes_11 (by decide) (fun c_2 => ?_) (fun c_2 => ?_)
      · skip
        have c_2 := b_le (by omega) (by omega) c_2
        refine lv_iload_n hx hb dX8_warmOnes_38 rfl (lv_at hl 1 rfl) ?_
        exact g_iret (Qr := (q_m_warmOnes T n o w0 g1 g2 g3 g4 tp w6 w7 w8 w9 w10 w11 w12 w13 w14 g15 w16 g17 w18 w19 g20 w21 g22 g23 g24 w25 w26 w27 g28 g29 w30 g31 g32 g33 fa)) hC V ⟨(Nat.le_of_ble_eq_true rfl), (Nat.le_of_ble_eq_true rfl)⟩ ⟨x4_1, rfl, rfl⟩ dX8_warmOnes_39
      · skip
        have c_2 := b_nle (by omega) (by omega) c_2
        refine lv_iload_n hx hb dX8_warmOnes_14 rfl (lv_at hl 1 rfl) ?_
        refine lv_aload_n hx hb dX8_warmOnes_15 rfl (lv_at hl 2 rfl) ?_
        refine lv_iload_n hx hb dX8_warmOnes_16 rfl (lv_at hl 0 rfl) ?_
        refine g_callV (wr := []) (nA := 1) hC V hl.1 (m_isWarm l D T o k4 w0 g1 g2 g3 g4 tp w6 w7 w8 w9 w10 w11 w12 w13 w14 g15 w16 g17 w18 w19 g20 w21 g22 g23 g24 w25 w26 w27 g28 g29 w30 g31 g32 g33 fa (by first | assumption | omega)) w_1136 w_1138 w_s52 w_9 w_1139 (by decide +kernel) rfl ⟨(Nat.le_of_ble_eq_true rfl), (Nat.le_of_ble_eq_true rfl)⟩ 0 (ci := 8) rfl rfl [0, 1] [] rfl rfl rfl rfl (by decide) (Nat.le_of_ble_eq_true rfl) dX8_warmOnes_17 ⟨(Nat.le_of_ble_eq_true rfl), (Nat.le_of_ble_eq_true rfl)⟩ rfl (fun r w1 H locs hQ V => ?_)
        rcases hQ with ⟨rfl, rfl⟩ | ⟨rfl, rfl⟩
        · have V : gW D T A s [(o, .inr (8, [.int w0, .ref g1, .ref g2, .ref g3, .ref g4, .int (nI tp), .int w6, .int w7, .int w8, .int w9, .int w10, .int w11, .int w12, .int w13, .int w14, .ref g15, .int w16, .ref g17, .int w18, .int w19, .ref g20, .int w21, .ref g22, .ref g23, .ref g24, .int w25, .int w26, .int w27, .ref g28, .ref g29, .int w30, .ref g31, .ref g32, .ref g33])), (g1, .inl (T 0, 282, .inl fa))] H locs := V
          show W p l e _ s m args below meth c H locs _ _ _ (F0 m 20 ls [.int (nI 1), .int x4_1])
          refine lv_if_eq (tgt := 29) hx hb dX8_warmOnes_20 (by decide) (fun c => absurd (show (nI 1) = 0 from c) (by decide +kernel)) (fun _ => ?_)
          refine lv_iconst (v := (nI 1)) hx hb dX8_warmOnes_23 (by decide +kernel) ?_
          refine lv_iload_n hx hb dX8_warmOnes_24 rfl (lv_at hl 0 rfl) ?_
          refine lv_ishl hx hb dX8_warmOnes_25 ?_
          refine lv_goto (tgt := 30) hx hb dX8_warmOnes_26 (by decide) ?_
          refine lv_ior hx hb dX8_warmOnes_30 ?_
          refine lv_istore_n (lv' := [(1, .int (x4_1 ||| ((nI 1) <<< ((nI k4) &&& 31)))), (2, .int (nI k4)), (0, .ref o)]) hx hb dX8_warmOnes_31 rfl hl (by decide) rfl (fun ls hl => ?_)
          refine lv_iinc (v := (nI (k4 + 1))) (lv' := [(2, .int (nI (k4 + 1))), (1, .int (x4_1 ||| ((nI 1) <<< ((nI k4) &&& 31)))), (0, .ref o)]) hx hb dX8_warmOnes_32 hl (k := 1) rfl (nI_1 _) (by decide) rfl (fun ls hl => ?_)
          refine lv_goto (tgt := 4) hx hb dX8_warmOnes_35 (by decide) ?_
          exact ih_4 (k4 + 1) (x4_1 ||| ((nI 1) <<< ((nI k4) &&& 31))) (by omega) (by omega) _ _ _ V (lv_sub hl [0, 1, 2] rfl)
        · have V : gW D T A s [(o, .inr (8, [.int w0, .ref g1, .ref g2, .ref g3, .ref g4, .int (nI tp), .int w6, .int w7, .int w8, .int w9, .int w10, .int w11, .int w12, .int w13, .int w14, .ref g15, .int w16, .ref g17, .int w18, .int w19, .ref g20, .int w21, .ref g22, .ref g23, .ref g24, .int w25, .int w26, .int w27, .ref g28, .ref g29, .int w30, .ref g31, .ref g32, .ref g33])), (g1, .inl (T 0, 282, .inl fa))] H locs := V
          show W p l e _ s m args below meth c H locs _ _ _ (F0 m 20 ls [.int (nI 0), .int x4_1])
          refine lv_if_eq (tgt := 29) hx hb dX8_warmOnes_20 (by decide) (fun _ => ?_) (fun c => absurd (show (nI 0) = 0 by decide +kernel) c)
          refine lv_iconst (v := (nI 0)) hx hb dX8_warmOnes_29 (by decide +kernel) ?_
          refine lv_ior hx hb dX8_warmOnes_30 ?_
          refine lv_istore_n (lv' := [(1, .int (x4_1 ||| (nI 0))), (2, .int (nI k4)), (0, .ref o)]) hx hb dX8_warmOnes_31 rfl hl (by decide) rfl (fun ls hl => ?_)
          refine lv_iinc (v := (nI (k4 + 1))) (lv' := [(2, .int (nI (k4 + 1))), (1, .int (x4_1 ||| (nI 0))), (0, .ref o)]) hx hb dX8_warmOnes_32 hl (k := 1) rfl (nI_1 _) (by decide) rfl (fun ls hl => ?_)
          refine lv_goto (tgt := 4) hx hb dX8_warmOnes_35 (by decide) ?_
          exact ih_4 (k4 + 1) (x4_1 ||| (nI 0)) (by omega) (by omega) _ _ _ V (lv_sub hl [0, 1, 2] rfl)
  exact L_1 _ 0 (nI 0) (by omega) (Nat.lt_succ_self _) _ _ _ V (lv_sub hl [0, 1, 2] rfl)

def q_m_count (T : Nat → ClassId) (n : Nat) (o : Nat) (wh : Int32) (w0 : Int32) (g1 : Nat) (g2 : Nat) (g3 : Nat) (g4 : Nat) (tp : Nat) (w6 : Int32) (w7 : Int32) (w8 : Int32) (w9 : Int32) (w10 : Int32) (w11 : Int32) (w12 : Int32) (w13 : Int32) (w14 : Int32) (g15 : Nat) (w16 : Int32) (g17 : Nat) (w18 : Int32) (w19 : Int32) (g20 : Nat) (w21 : Int32) (g22 : Nat) (g23 : Nat) (g24 : Nat) (w25 : Int32) (w26 : Int32) (w27 : Int32) (g28 : Nat) (g29 : Nat) (w30 : Int32) (g31 : Nat) (g32 : Nat) (g33 : Nat) (fa : Nat → Int32) : Option Value → va_W → Prop := fun rr ww => (∃ (z : Int32), rr = some (.int z) ∧ ww = [(o, .inr (8, [.int (nI 0), .ref g1, .ref g2, .ref g3, .ref g4, .int (nI tp), .int w6, .int w7, .int w8, .int w9, .int w10, .int w11, .int w12, .int w13, .int w14, .ref g15, .int w16, .ref g17, .int w18, .int w19, .ref g20, .int w21, .ref g22, .ref g23, .ref g24, .int w25, .int w26, .int w27, .ref g28, .ref g29, .int w30, .ref g31, .ref g32, .ref g33])), (g1, .inl (T 0, 282, .inl fa))])
set_option maxHeartbeats 4000000 in
set_option maxRecDepth 100000 in
theorem m_count (l : Launch) (D : va_G) (T : Nat → ClassId) (n : Nat) (o : Nat) (wh : Int32) (w0 : Int32) (g1 : Nat) (g2 : Nat) (g3 : Nat) (g4 : Nat) (tp : Nat) (w6 : Int32) (w7 : Int32) (w8 : Int32) (w9 : Int32) (w10 : Int32) (w11 : Int32) (w12 : Int32) (w13 : Int32) (w14 : Int32) (g15 : Nat) (w16 : Int32) (g17 : Nat) (w18 : Int32) (w19 : Int32) (g20 : Nat) (w21 : Int32) (g22 : Nat) (g23 : Nat) (g24 : Nat) (w25 : Int32) (w26 : Int32) (w27 : Int32) (g28 : Nat) (g29 : Nat) (w30 : Int32) (g31 : Nat) (g32 : Nat) (g33 : Nat) (fa : Nat → Int32) (h_a : MI n fa) : Ct l yX8_count cX8_count 2 (some .int) 2 0 0 D T [.ref o, .int wh] [(o, .inr (8, [.int w0, .ref g1, .ref g2, .ref g3, .ref g4, .int (nI tp), .int w6, .int w7, .int w8, .int w9, .int w10, .int w11, .int w12, .int w13, .int w14, .ref g15, .int w16, .ref g17, .int w18, .int w19, .ref g20, .int w21, .ref g22, .ref g23, .ref g24, .int w25, .int w26, .int w27, .ref g28, .ref g29, .int w30, .ref g31, .ref g32, .ref g33])), (g1, .inl (T 0, 282, .inl fa))] (q_m_count T n o wh w0 g1 g2 g3 g4 tp w6 w7 w8 w9 w10 w11 w12 w13 w14 g15 w16 g17 w18 w19 g20 w21 g22 g23 g24 w25 w26 w27 g28 g29 w30 g31 g32 g33 fa) := by
  refine Ct.of (cc := cX8_count) (maxL := 2) (ret := (some .int)) (by decide) (Nat.le_of_ble_eq_true rfl) ?_
  intro p e s m args below meth c A ls hC hnm V hl
  obtain ⟨hx, hb, hr, hml, hown, hts, hlocks⟩ := id hC
  generalize hH : s.heap = H at V ⊢
  clear hH
  have hl : lv_has ls 2 [(0, .ref o), (1, .int wh)] := hl
  generalize hlo : ([] : List Loc) = locs at V ⊢
  clear hlo
  have ms0 := ms_rf h_a
  have hn10 := h_a.1
  refine lv_aload_n hx hb dX8_count_0 rfl (lv_at hl 0 rfl) ?_
  refine lv_iconst (v := (nI 0)) hx hb dX8_count_1 (by decide +kernel) ?_
  refine g_put hC V (ci := 8) uwX8 tyX8 tyX8_ok nmX8 0 rfl rfl 0 (by decide) w_912 rfl rfl rfl rfl (Nat.le_of_ble_eq_true rfl) (ws' := [(o, .inr (8, [.int (nI 0), .ref g1, .ref g2, .ref g3, .ref g4, .int (nI tp), .int w6, .int w7, .int w8, .int w9, .int w10, .int w11, .int w12, .int w13, .int w14, .ref g15, .int w16, .ref g17, .int w18, .int w19, .ref g20, .int w21, .ref g22, .ref g23, .ref g24, .int w25, .int w26, .int w27, .ref g28, .ref g29, .int w30, .ref g31, .ref g32, .ref g33])), (g1, .inl (T 0, 282, .inl fa))]) rfl dX8_count_2 (fun H locs V => ?_)
  refine lv_iload_n hx hb dX8_count_5 rfl (lv_at hl 1 rfl) ?_
  by_cases c_10 : wh = (nI 0)
  · skip
    refine lv_tableIn (tgt := 56) (off := 50) hx hb dX8_count_6 (by first | decide +kernel | (rw [c_10]; decide +kernel)) (by first | decide +kernel | (rw [c_10]; decide +kernel)) (by first | decide +kernel | (rw [c_10]; decide +kernel)) (by decide) ?_
    refine lv_aload_n hx hb dX8_count_56 rfl (lv_at hl 0 rfl) ?_
    refine g_get hC V (ci := 8) uwX8 0 rfl rfl 1 (by decide) w_913 rfl rfl dX8_count_57 ?_
    refine lv_iconst (v := (nI 0)) hx hb dX8_count_60 (by decide +kernel) ?_
    refine g_iald hC V 1 rfl (vp_in_nI (by decide) (by decide)) (v := (nI n)) (by rw [nI_clamp (by decide)]; first | rfl | exact h_a.2.1) dX8_count_61 ?_
    exact g_iret (Qr := (q_m_count T n o wh w0 g1 g2 g3 g4 tp w6 w7 w8 w9 w10 w11 w12 w13 w14 g15 w16 g17 w18 w19 g20 w21 g22 g23 g24 w25 w26 w27 g28 g29 w30 g31 g32 g33 fa)) hC V ⟨(Nat.le_of_ble_eq_true rfl), (Nat.le_of_ble_eq_true rfl)⟩ ⟨(nI n), rfl, rfl⟩ dX8_count_62
  by_cases c_11 : wh = (nI 1)
  · skip
    refine lv_tableIn (tgt := 63) (off := 57) hx hb dX8_count_6 (by first | decide +kernel | (rw [c_11]; decide +kernel)) (by first | decide +kernel | (rw [c_11]; decide +kernel)) (by first | decide +kernel | (rw [c_11]; decide +kernel)) (by decide) ?_
    refine lv_aload_n hx hb dX8_count_63 rfl (lv_at hl 0 rfl) ?_
    refine g_get hC V (ci := 8) uwX8 0 rfl rfl 1 (by decide) w_913 rfl rfl dX8_count_64 ?_
    refine lv_iconst (v := (nI 1)) hx hb dX8_count_67 (by decide +kernel) ?_
    refine g_iald hC V 1 rfl (vp_in_nI (by decide) (by decide)) (v := (fa 1)) (congrArg _ (nI_clamp (by decide))) dX8_count_68 ?_
    exact g_iret (Qr := (q_m_count T n o wh w0 g1 g2 g3 g4 tp w6 w7 w8 w9 w10 w11 w12 w13 w14 g15 w16 g17 w18 w19 g20 w21 g22 g23 g24 w25 w26 w27 g28 g29 w30 g31 g32 g33 fa)) hC V ⟨(Nat.le_of_ble_eq_true rfl), (Nat.le_of_ble_eq_true rfl)⟩ ⟨(fa 1), rfl, rfl⟩ dX8_count_69
  by_cases c_12 : wh = (nI 2)
  · skip
    refine lv_tableIn (tgt := 70) (off := 64) hx hb dX8_count_6 (by first | decide +kernel | (rw [c_12]; decide +kernel)) (by first | decide +kernel | (rw [c_12]; decide +kernel)) (by first | decide +kernel | (rw [c_12]; decide +kernel)) (by decide) ?_
    refine lv_aload_n hx hb dX8_count_70 rfl (lv_at hl 0 rfl) ?_
    refine g_callV (wr := []) (nA := 0) hC V hl.1 (m_doneMany l D T n o (nI 0) g1 g2 g3 g4 tp w6 w7 w8 w9 w10 w11 w12 w13 w14 g15 w16 g17 w18 w19 g20 w21 g22 g23 g24 w25 w26 w27 g28 g29 w30 g31 g32 g33 fa h_a) w_1158 w_1160 w_s56 w_9 w_1161 (by decide +kernel) rfl ⟨(Nat.le_of_ble_eq_true rfl), (Nat.le_of_ble_eq_true rfl)⟩ 0 (ci := 8) rfl rfl [0, 1] [] rfl rfl rfl rfl (by decide) (Nat.le_of_ble_eq_true rfl) dX8_count_71 ⟨(Nat.le_of_ble_eq_true rfl), (Nat.le_of_ble_eq_true rfl)⟩ rfl (fun r w1 H locs hQ V => ?_)
    obtain ⟨z_2, rfl, rfl⟩ := hQ
    have V : gW D T A s [(o, .inr (8, [.int (nI 0), .ref g1, .ref g2, .ref g3, .ref g4, .int (nI tp), .int w6, .int w7, .int w8, .int w9, .int w10, .int w11, .int w12, .int w13, .int w14, .ref g15, .int w16, .ref g17, .int w18, .int w19, .ref g20, .int w21, .ref g22, .ref g23, .ref g24, .int w25, .int w26, .int w27, .ref g28, .ref g29, .int w30, .ref g31, .ref g32, .ref g33])), (g1, .inl (T 0, 282, .inl fa))] H locs := V
    show W p l e _ s m args below meth c H locs _ _ _ (F0 m 74 ls [.int z_2])
    exact g_iret (Qr := (q_m_count T n o wh w0 g1 g2 g3 g4 tp w6 w7 w8 w9 w10 w11 w12 w13 w14 g15 w16 g17 w18 w19 g20 w21 g22 g23 g24 w25 w26 w27 g28 g29 w30 g31 g32 g33 fa)) hC V ⟨(Nat.le_of_ble_eq_true rfl), (Nat.le_of_ble_eq_true rfl)⟩ ⟨z_2, rfl, rfl⟩ dX8_count_74
  by_cases c_13 : wh = (nI 3)
  · skip
    refine lv_tableIn (tgt := 75) (off := 69) hx hb dX8_count_6 (by first | decide +kernel | (rw [c_13]; decide +kernel)) (by first | decide +kernel | (rw [c_13]; decide +kernel)) (by first | decide +kernel | (rw [c_13]; decide +kernel)) (by decide) ?_
    refine lv_aload_n hx hb dX8_count_75 rfl (lv_at hl 0 rfl) ?_
    refine lv_bipush (v := (nI 74)) hx hb dX8_count_76 (by decide +kernel) ?_
    refine g_callV (wr := []) (nA := 1) hC V hl.1 (m_sumOf l D T n o 74 (nI 0) g1 g2 g3 g4 tp w6 w7 w8 w9 w10 w11 w12 w13 w14 g15 w16 g17 w18 w19 g20 w21 g22 g23 g24 w25 w26 w27 g28 g29 w30 g31 g32 g33 fa h_a (by omega)) w_1403 w_1405 w_s81 w_9 w_1406 (by decide +kernel) rfl ⟨(Nat.le_of_ble_eq_true rfl), (Nat.le_of_ble_eq_true rfl)⟩ 0 (ci := 8) rfl rfl [0, 1] [] rfl rfl rfl rfl (by decide) (Nat.le_of_ble_eq_true rfl) dX8_count_78 ⟨(Nat.le_of_ble_eq_true rfl), (Nat.le_of_ble_eq_true rfl)⟩ rfl (fun r w1 H locs hQ V => ?_)
    obtain ⟨z_3, rfl, rfl⟩ := hQ
    have V : gW D T A s [(o, .inr (8, [.int (nI 0), .ref g1, .ref g2, .ref g3, .ref g4, .int (nI tp), .int w6, .int w7, .int w8, .int w9, .int w10, .int w11, .int w12, .int w13, .int w14, .ref g15, .int w16, .ref g17, .int w18, .int w19, .ref g20, .int w21, .ref g22, .ref g23, .ref g24, .int w25, .int w26, .int w27, .ref g28, .ref g29, .int w30, .ref g31, .ref g32, .ref g33])), (g1, .inl (T 0, 282, .inl fa))] H locs := V
    show W p l e _ s m args below meth c H locs _ _ _ (F0 m 81 ls [.int z_3])
    exact g_iret (Qr := (q_m_count T n o wh w0 g1 g2 g3 g4 tp w6 w7 w8 w9 w10 w11 w12 w13 w14 g15 w16 g17 w18 w19 g20 w21 g22 g23 g24 w25 w26 w27 g28 g29 w30 g31 g32 g33 fa)) hC V ⟨(Nat.le_of_ble_eq_true rfl), (Nat.le_of_ble_eq_true rfl)⟩ ⟨z_3, rfl, rfl⟩ dX8_count_81
  by_cases c_14 : wh = (nI 4)
  · skip
    refine lv_tableIn (tgt := 82) (off := 76) hx hb dX8_count_6 (by first | decide +kernel | (rw [c_14]; decide +kernel)) (by first | decide +kernel | (rw [c_14]; decide +kernel)) (by first | decide +kernel | (rw [c_14]; decide +kernel)) (by decide) ?_
    refine lv_aload_n hx hb dX8_count_82 rfl (lv_at hl 0 rfl) ?_
    refine g_callV (wr := []) (nA := 0) hC V hl.1 (m_warmOnes l D T n o (nI 0) g1 g2 g3 g4 tp w6 w7 w8 w9 w10 w11 w12 w13 w14 g15 w16 g17 w18 w19 g20 w21 g22 g23 g24 w25 w26 w27 g28 g29 w30 g31 g32 g33 fa h_a) w_1407 w_1409 w_s82 w_9 w_1410 (by decide +kernel) rfl ⟨(Nat.le_of_ble_eq_true rfl), (Nat.le_of_ble_eq_true rfl)⟩ 0 (ci := 8) rfl rfl [0, 1] [] rfl rfl rfl rfl (by decide) (Nat.le_of_ble_eq_true rfl) dX8_count_83 ⟨(Nat.le_of_ble_eq_true rfl), (Nat.le_of_ble_eq_true rfl)⟩ rfl (fun r w1 H locs hQ V => ?_)
    obtain ⟨z_4, rfl, rfl⟩ := hQ
    have V : gW D T A s [(o, .inr (8, [.int (nI 0), .ref g1, .ref g2, .ref g3, .ref g4, .int (nI tp), .int w6, .int w7, .int w8, .int w9, .int w10, .int w11, .int w12, .int w13, .int w14, .ref g15, .int w16, .ref g17, .int w18, .int w19, .ref g20, .int w21, .ref g22, .ref g23, .ref g24, .int w25, .int w26, .int w27, .ref g28, .ref g29, .int w30, .ref g31, .ref g32, .ref g33])), (g1, .inl (T 0, 282, .inl fa))] H locs := V
    show W p l e _ s m args below meth c H locs _ _ _ (F0 m 86 ls [.int z_4])
    exact g_iret (Qr := (q_m_count T n o wh w0 g1 g2 g3 g4 tp w6 w7 w8 w9 w10 w11 w12 w13 w14 g15 w16 g17 w18 w19 g20 w21 g22 g23 g24 w25 w26 w27 g28 g29 w30 g31 g32 g33 fa)) hC V ⟨(Nat.le_of_ble_eq_true rfl), (Nat.le_of_ble_eq_true rfl)⟩ ⟨z_4, rfl, rfl⟩ dX8_count_86
  by_cases c_15 : wh = (nI 5)
  · skip
    refine lv_tableIn (tgt := 87) (off := 81) hx hb dX8_count_6 (by first | decide +kernel | (rw [c_15]; decide +kernel)) (by first | decide +kernel | (rw [c_15]; decide +kernel)) (by first | decide +kernel | (rw [c_15]; decide +kernel)) (by decide) ?_
    refine lv_aload_n hx hb dX8_count_87 rfl (lv_at hl 0 rfl) ?_
    refine lv_bipush (v := (nI 24)) hx hb dX8_count_88 (by decide +kernel) ?_
    refine g_callV (wr := []) (nA := 1) hC V hl.1 (m_sumOf l D T n o 24 (nI 0) g1 g2 g3 g4 tp w6 w7 w8 w9 w10 w11 w12 w13 w14 g15 w16 g17 w18 w19 g20 w21 g22 g23 g24 w25 w26 w27 g28 g29 w30 g31 g32 g33 fa h_a (by first | assumption | omega)) w_1403 w_1405 w_s81 w_9 w_1406 (by decide +kernel) rfl ⟨(Nat.le_of_ble_eq_true rfl), (Nat.le_of_ble_eq_true rfl)⟩ 0 (ci := 8) rfl rfl [0, 1] [] rfl rfl rfl rfl (by decide) (Nat.le_of_ble_eq_true rfl) dX8_count_90 ⟨(Nat.le_of_ble_eq_true rfl), (Nat.le_of_ble_eq_true rfl)⟩ rfl (fun r w1 H locs hQ V => ?_)
    obtain ⟨z_5, rfl, rfl⟩ := hQ
    have V : gW D T A s [(o, .inr (8, [.int (nI 0), .ref g1, .ref g2, .ref g3, .ref g4, .int (nI tp), .int w6, .int w7, .int w8, .int w9, .int w10, .int w11, .int w12, .int w13, .int w14, .ref g15, .int w16, .ref g17, .int w18, .int w19, .ref g20, .int w21, .ref g22, .ref g23, .ref g24, .int w25, .int w26, .int w27, .ref g28, .ref g29, .int w30, .ref g31, .ref g32, .ref g33])), (g1, .inl (T 0, 282, .inl fa))] H locs := V
    show W p l e _ s m args below meth c H locs _ _ _ (F0 m 93 ls [.int z_5])
    exact g_iret (Qr := (q_m_count T n o wh w0 g1 g2 g3 g4 tp w6 w7 w8 w9 w10 w11 w12 w13 w14 g15 w16 g17 w18 w19 g20 w21 g22 g23 g24 w25 w26 w27 g28 g29 w30 g31 g32 g33 fa)) hC V ⟨(Nat.le_of_ble_eq_true rfl), (Nat.le_of_ble_eq_true rfl)⟩ ⟨z_5, rfl, rfl⟩ dX8_count_93
  by_cases c_16 : wh = (nI 6)
  · skip
    refine lv_tableIn (tgt := 94) (off := 88) hx hb dX8_count_6 (by first | decide +kernel | (rw [c_16]; decide +kernel)) (by first | decide +kernel | (rw [c_16]; decide +kernel)) (by first | decide +kernel | (rw [c_16]; decide +kernel)) (by decide) ?_
    refine lv_aload_n hx hb dX8_count_94 rfl (lv_at hl 0 rfl) ?_
    refine g_get hC V (ci := 8) uwX8 0 rfl rfl 5 (by decide) w_917 rfl rfl dX8_count_95 ?_
    exact g_iret (Qr := (q_m_count T n o wh w0 g1 g2 g3 g4 tp w6 w7 w8 w9 w10 w11 w12 w13 w14 g15 w16 g17 w18 w19 g20 w21 g22 g23 g24 w25 w26 w27 g28 g29 w30 g31 g32 g33 fa)) hC V ⟨(Nat.le_of_ble_eq_true rfl), (Nat.le_of_ble_eq_true rfl)⟩ ⟨(nI tp), rfl, rfl⟩ dX8_count_98
  by_cases c_17 : wh = (nI 7)
  · skip
    refine lv_tableIn (tgt := 99) (off := 93) hx hb dX8_count_6 (by first | decide +kernel | (rw [c_17]; decide +kernel)) (by first | decide +kernel | (rw [c_17]; decide +kernel)) (by first | decide +kernel | (rw [c_17]; decide +kernel)) (by decide) ?_
    refine lv_aload_n hx hb dX8_count_99 rfl (lv_at hl 0 rfl) ?_
    refine g_get hC V (ci := 8) uwX8 0 rfl rfl 1 (by decide) w_913 rfl rfl dX8_count_100 ?_
    refine lv_iconst (v := (nI 3)) hx hb dX8_count_103 (by decide +kernel) ?_
    refine g_iald hC V 1 rfl (vp_in_nI (by decide) (by decide)) (v := (fa 3)) (congrArg _ (nI_clamp (by decide))) dX8_count_104 ?_
    exact g_iret (Qr := (q_m_count T n o wh w0 g1 g2 g3 g4 tp w6 w7 w8 w9 w10 w11 w12 w13 w14 g15 w16 g17 w18 w19 g20 w21 g22 g23 g24 w25 w26 w27 g28 g29 w30 g31 g32 g33 fa)) hC V ⟨(Nat.le_of_ble_eq_true rfl), (Nat.le_of_ble_eq_true rfl)⟩ ⟨(fa 3), rfl, rfl⟩ dX8_count_105
  by_cases c_18 : wh = (nI 8)
  · skip
    refine lv_tableIn (tgt := 106) (off := 100) hx hb dX8_count_6 (by first | decide +kernel | (rw [c_18]; decide +kernel)) (by first | decide +kernel | (rw [c_18]; decide +kernel)) (by first | decide +kernel | (rw [c_18]; decide +kernel)) (by decide) ?_
    refine lv_aload_n hx hb dX8_count_106 rfl (lv_at hl 0 rfl) ?_
    refine g_get hC V (ci := 8) uwX8 0 rfl rfl 1 (by decide) w_913 rfl rfl dX8_count_107 ?_
    refine lv_iconst (v := (nI 2)) hx hb dX8_count_110 (by decide +kernel) ?_
    obtain ⟨j_6, hj_6, ej_6⟩ := bd_ex (mi_lost h_a)
    refine g_iald hC V 1 rfl (vp_in_nI (by decide) (by decide)) (v := (nI j_6)) (by rw [nI_clamp (by omega)]; exact ej_6) dX8_count_111 ?_
    exact g_iret (Qr := (q_m_count T n o wh w0 g1 g2 g3 g4 tp w6 w7 w8 w9 w10 w11 w12 w13 w14 g15 w16 g17 w18 w19 g20 w21 g22 g23 g24 w25 w26 w27 g28 g29 w30 g31 g32 g33 fa)) hC V ⟨(Nat.le_of_ble_eq_true rfl), (Nat.le_of_ble_eq_true rfl)⟩ ⟨(nI j_6), rfl, rfl⟩ dX8_count_112
  refine lv_tableOut (tgt := 113) hx hb dX8_count_6 (g_out 0 8 (fun k h1 h2 => ?_)) (by decide) ?_
  · intro h
    have h3 : k = 0 ∨ k = 1 ∨ k = 2 ∨ k = 3 ∨ k = 4 ∨ k = 5 ∨ k = 6 ∨ k = 7 ∨ k = 8 := by omega
    rcases h3 with rfl | rfl | rfl | rfl | rfl | rfl | rfl | rfl | rfl
    · exact c_10 (g_out2 h (by decide +kernel))
    · exact c_11 (g_out2 h (by decide +kernel))
    · exact c_12 (g_out2 h (by decide +kernel))
    · exact c_13 (g_out2 h (by decide +kernel))
    · exact c_14 (g_out2 h (by decide +kernel))
    · exact c_15 (g_out2 h (by decide +kernel))
    · exact c_16 (g_out2 h (by decide +kernel))
    · exact c_17 (g_out2 h (by decide +kernel))
    · exact c_18 (g_out2 h (by decide +kernel))
  refine lv_iconst (v := (-1)) hx hb dX8_count_113 (by decide +kernel) ?_
  exact g_iret (Qr := (q_m_count T n o wh w0 g1 g2 g3 g4 tp w6 w7 w8 w9 w10 w11 w12 w13 w14 g15 w16 g17 w18 w19 g20 w21 g22 g23 g24 w25 w26 w27 g28 g29 w30 g31 g32 g33 fa)) hC V ⟨(Nat.le_of_ble_eq_true rfl), (Nat.le_of_ble_eq_true rfl)⟩ ⟨(-1), rfl, rfl⟩ dX8_count_114

/-- the states' bound: 13 bits a SMITH -/
def stB (n : Nat) : Nat := 8192 ^ n
theorem stB_le {n : Nat} (h : n ≤ 3) : stB n ≤ 549755813888 := Nat.pow_le_pow_right (by decide) h
theorem stB_s (n : Nat) : stB (n + 1) = 8192 * stB n := by unfold stB; rw [Nat.pow_succ, Nat.mul_comm]
theorem stB_1 (n : Nat) : 1 ≤ stB n := Nat.pos_of_ne_zero (fun h => by unfold stB at h; exact absurd (Nat.pow_eq_zero.mp h).1 (by decide))
/-- a long from 0 on, below b -/
def bl (x : Int64) (b : Nat) : Prop := ∃ j : Nat, j < b ∧ x = Int64.ofNat j
theorem oL_add (a b : Nat) : Int64.ofNat a + Int64.ofNat b = Int64.ofNat (a + b) := (Int64.ofNat_add a b).symm
theorem oL_mul (a b : Nat) : Int64.ofNat a * Int64.ofNat b = Int64.ofNat (a * b) := (Int64.ofNat_mul a b).symm
theorem oL_i {a : Nat} (h : a < 2147483648) : (nI a).toInt64 = Int64.ofNat a := by
  apply Int64.toInt_inj.mp
  rw [Int32.toInt_toInt64, nI_toInt h, Int64.toInt_ofNat_of_lt (by omega)]
theorem oL_toInt {a : Nat} (h : a < 2 ^ 63) : (Int64.ofNat a).toInt = a := Int64.toInt_ofNat_of_lt h
theorem oL_32 {a : Nat} (h : a < 2147483648) : (Int64.ofNat a).toInt32 = nI a := by
  apply Int32.toInt_inj.mp
  rw [Int64.toInt_toInt32, oL_toInt (by omega), nI_toInt h]
  apply Int.bmod_eq_of_le <;> omega
theorem oL_div {a b : Nat} (ha : a < 2 ^ 63) (hb : b < 2 ^ 62) : Int64.ofNat a / Int64.ofNat b = Int64.ofNat (a / b) := by
  apply Int64.toInt_inj.mp
  rw [Int64.toInt_div, oL_toInt ha, oL_toInt (by omega), oL_toInt (Nat.lt_of_le_of_lt (Nat.div_le_self _ _) ha)]
  have h1 : (a : Int).tdiv (b : Int) = ((a / b : Nat) : Int) := by rw [Int.tdiv_eq_ediv_of_nonneg (by omega)]; rfl
  rw [h1]
  have h2 : a / b ≤ a := Nat.div_le_self _ _
  generalize a / b = q at h2 ⊢
  apply Int.bmod_eq_of_le <;> omega
theorem oL_rem {a b : Nat} (ha : a < 2 ^ 63) (hb : b < 2 ^ 62) : Int64.ofNat a - Int64.ofNat a / Int64.ofNat b * Int64.ofNat b = Int64.ofNat (a % b) := by
  rw [oL_div ha hb, oL_mul]
  have h1 : a = a % b + a / b * b := by rw [Nat.mul_comm]; exact (Nat.mod_add_div a b).symm
  have h2 : Int64.ofNat a = Int64.ofNat (a % b) + Int64.ofNat (a / b * b) := by rw [oL_add, ← h1]
  rw [h2, Int64.add_sub_cancel]

theorem nI_div {a b : Nat} (ha : a < 2147483648) (hb : b < 1073741824) : nI a / nI b = nI (a / b) := by
  apply Int32.toInt_inj.mp
  rw [Int32.toInt_div, nI_toInt ha, nI_toInt (by omega), nI_toInt (Nat.lt_of_le_of_lt (Nat.div_le_self _ _) ha)]
  have h1 : (a : Int).tdiv (b : Int) = ((a / b : Nat) : Int) := by rw [Int.tdiv_eq_ediv_of_nonneg (by omega)]; rfl
  rw [h1]
  have h2 : a / b ≤ a := Nat.div_le_self _ _
  generalize a / b = q at h2 ⊢
  apply Int.bmod_eq_of_le <;> omega
theorem nI_rem {a b : Nat} (ha : a < 2147483648) (hb : b < 1073741824) : nI a - nI a / nI b * nI b = nI (a % b) := by
  rw [nI_div ha hb, pk_mul]
  have h1 : a = a % b + a / b * b := by rw [Nat.mul_comm]; exact (Nat.mod_add_div a b).symm
  have h2 : nI a = nI (a % b) + nI (a / b * b) := by rw [nI_add, ← h1]
  rw [h2, Int32.add_sub_cancel]
theorem st_end {s k n : Nat} (h : s < stB k) (e : k = n) : s < stB n := e ▸ h
theorem st_s {s h a k : Nat} (hs : s < stB k) (hh : h < 256) (ha : a < 32) : 8192 * s + 32 * h + a < stB (k + 1) := by rw [stB_s]; omega
/-- how many of the first m are not 0 -/
def cntNZ (f : Nat → Int32) : Nat → Nat
  | 0 => 0
  | m + 1 => cntNZ f m + (if f m = nI 0 then 0 else 1)
theorem cnt_all {f : Nat → Int32} : ∀ m, (∀ i, i < m → ¬ f i = nI 0) → cntNZ f m = m
  | 0, _ => rfl
  | m + 1, h => by
    show cntNZ f m + _ = m + 1
    rw [cnt_all m (fun i hi => h i (by omega)), if_neg (h m (by omega))]
theorem cnt_free {f : Nat → Int32} {m : Nat} (h : cntNZ f m < m) : ∃ z, z < m ∧ f z = nI 0 := by
  apply Classical.byContradiction
  intro hn
  have := cnt_all m (fun i hi e => hn ⟨i, hi, e⟩)
  omega
theorem cnt_up (f : Nat → Int32) (k : Nat) (x : Int32) : ∀ m, cntNZ (upd f k x) m ≤ cntNZ f m + (if k < m then 1 else 0)
  | 0 => by simp [cntNZ]
  | m + 1 => by
    have ih := cnt_up f k x m
    show cntNZ (upd f k x) m + (if upd f k x m = nI 0 then 0 else 1) ≤ cntNZ f m + (if f m = nI 0 then 0 else 1) + _
    by_cases e : m = k
    · subst e
      rw [if_neg (Nat.lt_irrefl m)] at ih
      rw [if_pos (Nat.lt_succ_self m)]
      split <;> split <;> omega
    · rw [up_other e]
      have : (if k < m + 1 then 1 else 0) = (if k < m then 1 else 0) := by
        by_cases c : k < m
        · rw [if_pos c, if_pos (by omega)]
        · rw [if_neg c, if_neg (by omega)]
      rw [this]
      split <;> omega
theorem cnt_zero {f : Nat → Int32} : ∀ m, (∀ i, i < m → f i = nI 0) → cntNZ f m = 0
  | 0, _ => rfl
  | m + 1, h => by
    show cntNZ f m + _ = 0
    rw [cnt_zero m (fun i hi => h i (by omega)), if_pos (h m (by omega))]
/-- the reference's table of sm states -/
def TI (sm : Nat) (f : Nat → Int32) : Prop := sm ≤ 3001 ∧ (∀ i, i < 8192 → bd (f i) (sm + 1)) ∧ cntNZ f 8192 ≤ sm
theorem ti_bd {sm i : Nat} {f : Nat → Int32} (h : TI sm f) (hi : i < 8192) : bd (f i) (sm + 1) := h.2.1 i hi
theorem ti_free {sm : Nat} {f : Nat → Int32} (h : TI sm f) : ∃ z, z < 8192 ∧ f z = nI 0 := cnt_free (Nat.lt_of_le_of_lt h.2.2 (by have := h.1; omega))
theorem ti_put {sm k : Nat} {f : Nat → Int32} (h : TI sm f) (hs : sm < 3001) : TI (sm + 1) (upd f k (nI (sm + 1))) := by
  refine ⟨by omega, up_all (p := fun x => bd x (sm + 1 + 1)) (fun i hi => bd_le (h.2.1 i hi) (by omega)) (fun _ => bd_nI (by omega)), ?_⟩
  have := cnt_up f k (nI (sm + 1)) 8192
  have h2 := h.2.2
  split at this <;> omega
theorem ti_zero {f : Nat → Int32} (h : ∀ i, i < 8192 → f i = nI 0) : TI 0 f := ⟨by decide, fun i hi => by rw [h i hi]; exact bd_nI (by decide), by rw [cnt_zero 8192 h]; exact Nat.le_refl _⟩
/-- the states that were met -/
def SL (sm : Nat) (f : Nat → Int64) : Prop := ∀ i, i < sm → bl (f i) 549755813889
theorem sl_put {sm : Nat} {f : Nat → Int64} {x : Nat} (h : SL sm f) (hx : x < 549755813889) : SL (sm + 1) (vp_updL f sm (Int64.ofNat x)) := upL_one (p := fun _ y => bl y 549755813889) h ⟨x, hx, rfl⟩
theorem nz_of {f : Nat → Int32} {k z j : Nat} (hz : f z = nI 0) (e : f k = nI j) (hj : j < 5000) (hp : 0 < j) : k ≠ z := by
  rintro rfl
  have := b_eq (by omega) (by decide) (e.symm.trans hz)
  omega

def q_m_state (T : Nat → ClassId) (n : Nat) (o : Nat) (w0 : Int32) (g1 : Nat) (g2 : Nat) (g3 : Nat) (g4 : Nat) (tp : Nat) (w6 : Int32) (w7 : Int32) (w8 : Int32) (w9 : Int32) (w10 : Int32) (w11 : Int32) (w12 : Int32) (w13 : Int32) (w14 : Int32) (g15 : Nat) (w16 : Int32) (g17 : Nat) (w18 : Int32) (w19 : Int32) (g20 : Nat) (w21 : Int32) (g22 : Nat) (g23 : Nat) (g24 : Nat) (w25 : Int32) (w26 : Int32) (w27 : Int32) (g28 : Nat) (g29 : Nat) (w30 : Int32) (g31 : Nat) (g32 : Nat) (g33 : Nat) (fa : Nat → Int32) : Option Value → va_W → Prop := fun rr ww => (∃ (r : Nat), rr = some (.long (Int64.ofNat r)) ∧ ww = [(o, .inr (8, [.int w0, .ref g1, .ref g2, .ref g3, .ref g4, .int (nI tp), .int w6, .int w7, .int w8, .int w9, .int w10, .int w11, .int w12, .int w13, .int w14, .ref g15, .int w16, .ref g17, .int w18, .int w19, .ref g20, .int w21, .ref g22, .ref g23, .ref g24, .int w25, .int w26, .int w27, .ref g28, .ref g29, .int w30, .ref g31, .ref g32, .ref g33])), (g1, .inl (T 0, 282, .inl fa))] ∧ r < stB n)
set_option maxHeartbeats 4000000 in
set_option maxRecDepth 100000 in
theorem m_state (l : Launch) (D : va_G) (T : Nat → ClassId) (n : Nat) (o : Nat) (w0 : Int32) (g1 : Nat) (g2 : Nat) (g3 : Nat) (g4 : Nat) (tp : Nat) (w6 : Int32) (w7 : Int32) (w8 : Int32) (w9 : Int32) (w10 : Int32) (w11 : Int32) (w12 : Int32) (w13 : Int32) (w14 : Int32) (g15 : Nat) (w16 : Int32) (g17 : Nat) (w18 : Int32) (w19 : Int32) (g20 : Nat) (w21 : Int32) (g22 : Nat) (g23 : Nat) (g24 : Nat) (w25 : Int32) (w26 : Int32) (w27 : Int32) (g28 : Nat) (g29 : Nat) (w30 : Int32) (g31 : Nat) (g32 : Nat) (g33 : Nat) (fa : Nat → Int32) (h_a : MI n fa) (h_3 : n ≤ 3) : Ct l yX8_state cX8_state 4 (some .long) 0 0 0 D T [.ref o] [(o, .inr (8, [.int w0, .ref g1, .ref g2, .ref g3, .ref g4, .int (nI tp), .int w6, .int w7, .int w8, .int w9, .int w10, .int w11, .int w12, .int w13, .int w14, .ref g15, .int w16, .ref g17, .int w18, .int w19, .ref g20, .int w21, .ref g22, .ref g23, .ref g24, .int w25, .int w26, .int w27, .ref g28, .ref g29, .int w30, .ref g31, .ref g32, .ref g33])), (g1, .inl (T 0, 282, .inl fa))] (q_m_state T n o w0 g1 g2 g3 g4 tp w6 w7 w8 w9 w10 w11 w12 w13 w14 g15 w16 g17 w18 w19 g20 w21 g22 g23 g24 w25 w26 w27 g28 g29 w30 g31 g32 g33 fa) := by
  refine Ct.of (cc := cX8_state) (maxL := 4) (ret := (some .long)) (by decide) (Nat.le_of_ble_eq_true rfl) ?_
  intro p e s m args below meth c A ls hC hnm V hl
  obtain ⟨hx, hb, hr, hml, hown, hts, hlocks⟩ := id hC
  generalize hH : s.heap = H at V ⊢
  clear hH
  have hl : lv_has ls 4 [(0, .ref o)] := hl
  generalize hlo : ([] : List Loc) = locs at V ⊢
  clear hlo
  have ms0 := ms_rf h_a
  have hn10 := h_a.1
  have hst := stB_le h_3
  refine lv_lconst (v := (nI 0).toInt64) hx hb dX8_state_0 (by decide +kernel) ?_
  refine g_vl (y := Int64.ofNat 0) (by decide +kernel) ?_
  refine lv_lstore_n (lv' := [(1, .long (Int64.ofNat 0)), (0, .ref o)]) hx hb dX8_state_1 rfl hl (by decide) rfl (fun ls hl => ?_)
  refine lv_iconst (v := (nI 0)) hx hb dX8_state_2 (by decide +kernel) ?_
  refine lv_istore_n (lv' := [(3, .int (nI 0)), (1, .long (Int64.ofNat 0)), (0, .ref o)]) hx hb dX8_state_3 rfl hl (by decide) rfl (fun ls hl => ?_)
  have L_1 : ∀ (fu : Nat) (k4 : Nat) (sv : Nat), k4 ≤ n → sv < stB k4 → n - k4 < fu → ∀ (H : Heap) (locs : List Loc) (ls : Array Slot), gW D T A s [(o, .inr (8, [.int w0, .ref g1, .ref g2, .ref g3, .ref g4, .int (nI tp), .int w6, .int w7, .int w8, .int w9, .int w10, .int w11, .int w12, .int w13, .int w14, .ref g15, .int w16, .ref g17, .int w18, .int w19, .ref g20, .int w21, .ref g22, .ref g23, .ref g24, .int w25, .int w26, .int w27, .ref g28, .ref g29, .int w30, .ref g31, .ref g32, .ref g33])), (g1, .inl (T 0, 282, .inl fa))] H locs → lv_has ls 4 [(3, .int (nI k4)), (1, .long (Int64.ofNat sv)), (0, .ref o)] → W p l e (rmD 0 0 0) s m args below meth c H locs 0 0 (MQ below (gQ D A (q_m_state T n o w0 g1 g2 g3 g4 tp w6 w7 w8 w9 w10 w11 w12 w13 w14 g15 w16 g17 w18 w19 g20 w21 g22 g23 g24 w25 w26 w27 g28 g29 w30 g31 g32 g33 fa)) args s 0 0 A) (F0 m 4 ls []) := by
    intro fu_4
    induction fu_4 with
    | zero => intro k4 sv hk4 hsv hmu; exact absurd hmu (Nat.not_lt_zero _)
    | succ fu_4 ih_4 =>
      intro k4 sv hk4 hsv hmu_4 H locs ls V hl
      refine lv_iload_n hx hb dX8_state_4 rfl (lv_at hl 0 rfl) ?_
      refine lv_aload_n hx hb dX8_state_5 rfl (lv_at hl 2 rfl) ?_
      refine g_get hC V (ci := 8) uwX8 0 rfl rfl 1 (by decide) w_913 rfl rfl dX8_state_6 ?_
      refine lv_iconst (v := (nI 0)) hx hb dX8_state_9 (by decide +kernel) ?_
      refine g_iald hC V 1 rfl (vp_in_nI (by decide) (by decide)) (v := (nI n)) (by rw [nI_clamp (by decide)]; first | rfl | exact h_a.2.1) dX8_state_10 ?_
      refine lv_icmp_ge (tgt := 51) hx hb dX8_state_11 (by decide) (fun c_2 => ?_) (fun c_2 => ?_)
      · skip
        have c_2 := b_le (by omega) (by omega) c_2
        refine lv_lload_n hx hb dX8_state_51 rfl (lv_at hl 1 rfl) ?_
        exact g_lret (Qr := (q_m_state T n o w0 g1 g2 g3 g4 tp w6 w7 w8 w9 w10 w11 w12 w13 w14 g15 w16 g17 w18 w19 g20 w21 g22 g23 g24 w25 w26 w27 g28 g29 w30 g31 g32 g33 fa)) hC V ⟨(Nat.le_of_ble_eq_true rfl), (Nat.le_of_ble_eq_true rfl)⟩ ⟨sv, rfl, rfl, (st_end hsv (by omega))⟩ dX8_state_52
      · skip
        have c_2 := b_nle (by omega) (by omega) c_2
        refine lv_ldc2 (v := (8192)) hx hb hown (hts _ w_1285) dX8_state_14 ?_
        refine g_vl (y := (nI 8192).toInt64) (by decide +kernel) ?_
        refine lv_lload_n hx hb dX8_state_17 rfl (lv_at hl 1 rfl) ?_
        refine lv_lmul hx hb dX8_state_18 ?_
        refine g_vl (y := Int64.ofNat (8192 * sv)) (by rw [oL_i (a := 8192) (by omega)]; exact oL_mul _ _) ?_
        refine lv_bipush (v := (nI 32)) hx hb dX8_state_19 (by decide +kernel) ?_
        refine lv_aload_n hx hb dX8_state_21 rfl (lv_at hl 2 rfl) ?_
        refine g_get hC V (ci := 8) uwX8 0 rfl rfl 1 (by decide) w_913 rfl rfl dX8_state_22 ?_
        refine lv_bipush (v := (nI 24)) hx hb dX8_state_25 (by decide +kernel) ?_
        refine lv_iload_n hx hb dX8_state_27 rfl (lv_at hl 0 rfl) ?_
        refine lv_iadd hx hb dX8_state_28 ?_
        refine g_vi (y := (nI (24 + k4))) (nI_add _ _) ?_
        obtain ⟨j_3, hj_3, ej_3⟩ := bd_ex (mi_heat h_a (i := k4) (by omega))
        refine g_iald hC V 1 rfl (vp_in_nI (by omega) (by omega)) (v := (nI j_3)) (by rw [nI_clamp (by omega)]; exact ej_3) dX8_state_29 ?_
        refine lv_imul hx hb dX8_state_30 ?_
        refine g_vi (y := (nI (32 * j_3))) (pk_mul _ _) ?_
        refine lv_i2l (v := (nI (32 * j_3)).toInt64) hx hb dX8_state_31 rfl ?_
        refine lv_ladd hx hb dX8_state_32 ?_
        refine g_vl (y := Int64.ofNat ((8192 * sv) + (32 * j_3))) (by rw [oL_i (a := (32 * j_3)) (by omega)]; exact oL_add _ _) ?_
        refine lv_aload_n hx hb dX8_state_33 rfl (lv_at hl 2 rfl) ?_
        refine g_get hC V (ci := 8) uwX8 0 rfl rfl 1 (by decide) w_913 rfl rfl dX8_state_34 ?_
        refine lv_bipush (v := (nI 64)) hx hb dX8_state_37 (by decide +kernel) ?_
        refine lv_iload_n hx hb dX8_state_39 rfl (lv_at hl 0 rfl) ?_
        refine lv_iadd hx hb dX8_state_40 ?_
        refine g_vi (y := (nI (64 + k4))) (nI_add _ _) ?_
        obtain ⟨j_4, hj_4, ej_4⟩ := bd_ex (mi_has h_a (i := k4) (by omega))
        refine g_iald hC V 1 rfl (vp_in_nI (by omega) (by omega)) (v := (nI j_4)) (by rw [nI_clamp (by omega)]; exact ej_4) dX8_state_41 ?_
        refine lv_i2l (v := (nI j_4).toInt64) hx hb dX8_state_42 rfl ?_
        refine lv_ladd hx hb dX8_state_43 ?_
        refine g_vl (y := Int64.ofNat (((8192 * sv) + (32 * j_3)) + j_4)) (by rw [oL_i (a := j_4) (by omega)]; exact oL_add _ _) ?_
        refine lv_lstore_n (lv' := [(1, .long (Int64.ofNat (((8192 * sv) + (32 * j_3)) + j_4))), (3, .int (nI k4)), (0, .ref o)]) hx hb dX8_state_44 rfl hl (by decide) rfl (fun ls hl => ?_)
        refine lv_iinc (v := (nI (k4 + 1))) (lv' := [(3, .int (nI (k4 + 1))), (1, .long (Int64.ofNat (((8192 * sv) + (32 * j_3)) + j_4))), (0, .ref o)]) hx hb dX8_state_45 hl (k := 1) rfl (nI_1 _) (by decide) rfl (fun ls hl => ?_)
        refine lv_goto (tgt := 4) hx hb dX8_state_48 (by decide) ?_
        exact ih_4 (k4 + 1) (((8192 * sv) + (32 * j_3)) + j_4) (by omega) (st_s hsv (by omega) (by omega)) (by omega) _ _ _ V (lv_sub hl [0, 1, 2] rfl)
  exact L_1 _ 0 0 (by omega) (stB_1 0) (Nat.lt_succ_self _) _ _ _ V (lv_sub hl [0, 1, 2] rfl)

def q_m_becomes (T : Nat → ClassId) (sv : Nat) (n : Nat) (o : Nat) (w0 : Int32) (g1 : Nat) (g2 : Nat) (g3 : Nat) (g4 : Nat) (tp : Nat) (w6 : Int32) (w7 : Int32) (w8 : Int32) (w9 : Int32) (w10 : Int32) (w11 : Int32) (w12 : Int32) (w13 : Int32) (w14 : Int32) (g15 : Nat) (w16 : Int32) (g17 : Nat) (w18 : Int32) (w19 : Int32) (g20 : Nat) (w21 : Int32) (g22 : Nat) (g23 : Nat) (g24 : Nat) (w25 : Int32) (w26 : Int32) (w27 : Int32) (g28 : Nat) (g29 : Nat) (w30 : Int32) (g31 : Nat) (g32 : Nat) (g33 : Nat) (fa : Nat → Int32) : Option Value → va_W → Prop := fun rr ww => (∃ (ga : Nat → Int32), rr = none ∧ ww = [(o, .inr (8, [.int w0, .ref g1, .ref g2, .ref g3, .ref g4, .int (nI tp), .int w6, .int w7, .int w8, .int w9, .int w10, .int w11, .int w12, .int w13, .int w14, .ref g15, .int w16, .ref g17, .int w18, .int w19, .ref g20, .int w21, .ref g22, .ref g23, .ref g24, .int w25, .int w26, .int w27, .ref g28, .ref g29, .int w30, .ref g31, .ref g32, .ref g33])), (g1, .inl (T 0, 282, .inl ga))] ∧ MS n fa ga)
set_option maxHeartbeats 4000000 in
set_option maxRecDepth 100000 in
theorem m_becomes (l : Launch) (D : va_G) (T : Nat → ClassId) (sv : Nat) (n : Nat) (o : Nat) (w0 : Int32) (g1 : Nat) (g2 : Nat) (g3 : Nat) (g4 : Nat) (tp : Nat) (w6 : Int32) (w7 : Int32) (w8 : Int32) (w9 : Int32) (w10 : Int32) (w11 : Int32) (w12 : Int32) (w13 : Int32) (w14 : Int32) (g15 : Nat) (w16 : Int32) (g17 : Nat) (w18 : Int32) (w19 : Int32) (g20 : Nat) (w21 : Int32) (g22 : Nat) (g23 : Nat) (g24 : Nat) (w25 : Int32) (w26 : Int32) (w27 : Int32) (g28 : Nat) (g29 : Nat) (w30 : Int32) (g31 : Nat) (g32 : Nat) (g33 : Nat) (fa : Nat → Int32) (h_a : MI n fa) (h_sv : sv < 549755813889) : Ct l yX8_becomes cX8_becomes 6 none 0 0 0 D T [.ref o, .long (Int64.ofNat sv)] [(o, .inr (8, [.int w0, .ref g1, .ref g2, .ref g3, .ref g4, .int (nI tp), .int w6, .int w7, .int w8, .int w9, .int w10, .int w11, .int w12, .int w13, .int w14, .ref g15, .int w16, .ref g17, .int w18, .int w19, .ref g20, .int w21, .ref g22, .ref g23, .ref g24, .int w25, .int w26, .int w27, .ref g28, .ref g29, .int w30, .ref g31, .ref g32, .ref g33])), (g1, .inl (T 0, 282, .inl fa))] (q_m_becomes T sv n o w0 g1 g2 g3 g4 tp w6 w7 w8 w9 w10 w11 w12 w13 w14 g15 w16 g17 w18 w19 g20 w21 g22 g23 g24 w25 w26 w27 g28 g29 w30 g31 g32 g33 fa) := by
  refine Ct.of (cc := cX8_becomes) (maxL := 6) (ret := none) (by decide) (Nat.le_of_ble_eq_true rfl) ?_
  intro p e s m args below meth c A ls hC hnm V hl
  obtain ⟨hx, hb, hr, hml, hown, hts, hlocks⟩ := id hC
  generalize hH : s.heap = H at V ⊢
  clear hH
  have hl : lv_has ls 6 [(0, .ref o), (1, .long (Int64.ofNat sv))] := hl
  generalize hlo : ([] : List Loc) = locs at V ⊢
  clear hlo
  have ms0 := ms_rf h_a
  have hn10 := h_a.1
  refine lv_lload_n hx hb dX8_becomes_0 rfl (lv_at hl 1 rfl) ?_
  refine lv_lstore_n (lv' := [(3, .long (Int64.ofNat sv)), (0, .ref o), (1, .long (Int64.ofNat sv))]) hx hb dX8_becomes_1 rfl hl (by decide) rfl (fun ls hl => ?_)
  refine lv_aload_n hx hb dX8_becomes_2 rfl (lv_at hl 1 rfl) ?_
  refine g_get hC V (ci := 8) uwX8 0 rfl rfl 1 (by decide) w_913 rfl rfl dX8_becomes_3 ?_
  refine lv_iconst (v := (nI 0)) hx hb dX8_becomes_6 (by decide +kernel) ?_
  refine g_iald hC V 1 rfl (vp_in_nI (by decide) (by decide)) (v := (nI n)) (by rw [nI_clamp (by decide)]; first | rfl | exact h_a.2.1 | exact hf12.1.2.1) dX8_becomes_7 ?_
  refine lv_iconst (v := (nI 1)) hx hb dX8_becomes_8 (by decide +kernel) ?_
  refine lv_isub hx hb dX8_becomes_9 ?_
  refine lv_istore (lv' := [(5, .int ((nI n) - (nI 1))), (3, .long (Int64.ofNat sv)), (0, .ref o), (1, .long (Int64.ofNat sv))]) hx hb dX8_becomes_10 hl (by decide) rfl (fun ls hl => ?_)
  have L_1 : ∀ (fu : Nat) (iv : Int32) (f12 : Nat → Int32) (kd : Nat) (vq : Nat), MS n fa f12 → iv = nI kd - nI 1 → kd ≤ n → vq < 549755813889 → kd < fu → ∀ (H : Heap) (locs : List Loc) (ls : Array Slot), gW D T A s [(o, .inr (8, [.int w0, .ref g1, .ref g2, .ref g3, .ref g4, .int (nI tp), .int w6, .int w7, .int w8, .int w9, .int w10, .int w11, .int w12, .int w13, .int w14, .ref g15, .int w16, .ref g17, .int w18, .int w19, .ref g20, .int w21, .ref g22, .ref g23, .ref g24, .int w25, .int w26, .int w27, .ref g28, .ref g29, .int w30, .ref g31, .ref g32, .ref g33])), (g1, .inl (T 0, 282, .inl f12))] H locs → lv_has ls 6 [(5, .int iv), (3, .long (Int64.ofNat vq)), (0, .ref o), (1, .long (Int64.ofNat sv))] → W p l e (rmD 0 0 0) s m args below meth c H locs 0 0 (MQ below (gQ D A (q_m_becomes T sv n o w0 g1 g2 g3 g4 tp w6 w7 w8 w9 w10 w11 w12 w13 w14 g15 w16 g17 w18 w19 g20 w21 g22 g23 g24 w25 w26 w27 g28 g29 w30 g31 g32 g33 fa)) args s 0 0 A) (F0 m 12 ls []) := by
    intro fu_12
    induction fu_12 with
    | zero => intro iv f12 kd vq hf12 hiv hkd hq hmu; exact absurd hmu (Nat.not_lt_zero _)
    | succ fu_12 ih_12 =>
      intro iv f12 kd vq hf12 hiv hkd hq hmu_12 H locs ls V hl
      refine lv_iload hx hb dX8_becomes_12 (lv_at hl 0 rfl) ?_
      refine lv_if_lt (tgt := 64) hx hb dX8_becomes_14 (by decide) (fun c_2 => ?_) (fun c_2 => ?_)
      · skip
        exact g_vret (Qr := (q_m_becomes T sv n o w0 g1 g2 g3 g4 tp w6 w7 w8 w9 w10 w11 w12 w13 w14 g15 w16 g17 w18 w19 g20 w21 g22 g23 g24 w25 w26 w27 g28 g29 w30 g31 g32 g33 fa)) hC V ⟨(Nat.le_of_ble_eq_true rfl), (Nat.le_of_ble_eq_true rfl)⟩ ⟨f12, rfl, rfl, (by first | assumption | omega)⟩ dX8_becomes_64
      · skip
        obtain ⟨h1kd, ekd⟩ := dn_pos hiv (by omega) c_2
        rw [ekd] at hl
        refine lv_aload_n hx hb dX8_becomes_17 rfl (lv_at hl 2 rfl) ?_
        refine g_get hC V (ci := 8) uwX8 0 rfl rfl 1 (by decide) w_913 rfl rfl dX8_becomes_18 ?_
        refine lv_bipush (v := (nI 24)) hx hb dX8_becomes_21 (by decide +kernel) ?_
        refine lv_iload hx hb dX8_becomes_23 (lv_at hl 0 rfl) ?_
        refine lv_iadd hx hb dX8_becomes_25 ?_
        refine g_vi (y := (nI (24 + (kd - 1)))) (nI_add _ _) ?_
        refine lv_lload_n hx hb dX8_becomes_26 rfl (lv_at hl 1 rfl) ?_
        refine lv_ldc2 (v := (8192)) hx hb hown (hts _ w_1285) dX8_becomes_27 ?_
        refine g_vl (y := (nI 8192).toInt64) (by decide +kernel) ?_
        refine lv_lrem hx hb dX8_becomes_30 (by decide +kernel) ?_
        refine g_vl (y := Int64.ofNat (vq % 8192)) (by rw [oL_i (a := 8192) (by omega)]; exact oL_rem (by omega) (by omega)) ?_
        refine lv_l2i hx hb dX8_becomes_31 rfl ?_
        refine g_vi (y := (nI (vq % 8192))) (oL_32 (by omega)) ?_
        refine lv_bipush (v := (nI 32)) hx hb dX8_becomes_32 (by decide +kernel) ?_
        refine lv_idiv hx hb dX8_becomes_34 (by decide +kernel) ?_
        refine g_vi (y := (nI ((vq % 8192) / 32))) (nI_div (by omega) (by omega)) ?_
        obtain ⟨f_3, ef_3⟩ : ∃ x, x = upd f12 (24 + (kd - 1)) (nI ((vq % 8192) / 32)) := ⟨_, rfl⟩
        have hf_3 : MS n fa f_3 := by rw [ef_3]; exact ms_st (by assumption) (by omega) (by omega) (by intros; first | (exfalso; omega) | exact bd_nI (by omega) | exact bd_le ‹bd (nI ((vq % 8192) / 32)) _› (by omega) | assumption) (by intros; first | (exfalso; omega) | exact bd_nI (by omega) | exact bd_le ‹bd (nI ((vq % 8192) / 32)) _› (by omega) | assumption) (by intros; first | (exfalso; omega) | exact bd_nI (by omega) | exact bd_le ‹bd (nI ((vq % 8192) / 32)) _› (by omega) | assumption) (by intros; first | (exfalso; omega) | exact bd_nI (by omega) | exact bd_le ‹bd (nI ((vq % 8192) / 32)) _› (by omega) | assumption) (by intros; first | (exfalso; omega) | exact bd_nI (by omega) | exact bd_le ‹bd (nI ((vq % 8192) / 32)) _› (by omega) | assumption) (by intros; first | (exfalso; omega) | exact bd_nI (by omega) | exact bd_le ‹bd (nI ((vq % 8192) / 32)) _› (by omega) | assumption) (by intros; first | (exfalso; omega) | exact bd_nI (by omega) | exact bd_le ‹bd (nI ((vq % 8192) / 32)) _› (by omega) | assumption)
        refine g_iast hC V 1 rfl (vp_in_nI (by omega) (by omega)) (f' := f_3) (by rw [nI_clamp (by omega)]; exact ef_3.symm) (ws' := [(o, .inr (8, [.int w0, .ref g1, .ref g2, .ref g3, .ref g4, .int (nI tp), .int w6, .int w7, .int w8, .int w9, .int w10, .int w11, .int w12, .int w13, .int w14, .ref g15, .int w16, .ref g17, .int w18, .int w19, .ref g20, .int w21, .ref g22, .ref g23, .ref g24, .int w25, .int w26, .int w27, .ref g28, .ref g29, .int w30, .ref g31, .ref g32, .ref g33])), (g1, .inl (T 0, 282, .inl f_3))]) rfl dX8_becomes_35 (fun H locs V => ?_)
        refine lv_aload_n hx hb dX8_becomes_36 rfl (lv_at hl 2 rfl) ?_
        refine g_get hC V (ci := 8) uwX8 0 rfl rfl 1 (by decide) w_913 rfl rfl dX8_becomes_37 ?_
        refine lv_bipush (v := (nI 64)) hx hb dX8_becomes_40 (by decide +kernel) ?_
        refine lv_iload hx hb dX8_becomes_42 (lv_at hl 0 rfl) ?_
        refine lv_iadd hx hb dX8_becomes_44 ?_
        refine g_vi (y := (nI (64 + (kd - 1)))) (nI_add _ _) ?_
        refine lv_lload_n hx hb dX8_becomes_45 rfl (lv_at hl 1 rfl) ?_
        refine lv_ldc2 (v := (32)) hx hb hown (hts _ w_1299) dX8_becomes_46 ?_
        refine g_vl (y := (nI 32).toInt64) (by decide +kernel) ?_
        refine lv_lrem hx hb dX8_becomes_49 (by decide +kernel) ?_
        refine g_vl (y := Int64.ofNat (vq % 32)) (by rw [oL_i (a := 32) (by omega)]; exact oL_rem (by omega) (by omega)) ?_
        refine lv_l2i hx hb dX8_becomes_50 rfl ?_
        refine g_vi (y := (nI (vq % 32))) (oL_32 (by omega)) ?_
        obtain ⟨f_4, ef_4⟩ : ∃ x, x = upd f_3 (64 + (kd - 1)) (nI (vq % 32)) := ⟨_, rfl⟩
        have hf_4 : MS n fa f_4 := by rw [ef_4]; exact ms_st (by assumption) (by omega) (by omega) (by intros; first | (exfalso; omega) | exact bd_nI (by omega) | exact bd_le ‹bd (nI (vq % 32)) _› (by omega) | assumption) (by intros; first | (exfalso; omega) | exact bd_nI (by omega) | exact bd_le ‹bd (nI (vq % 32)) _› (by omega) | assumption) (by intros; first | (exfalso; omega) | exact bd_nI (by omega) | exact bd_le ‹bd (nI (vq % 32)) _› (by omega) | assumption) (by intros; first | (exfalso; omega) | exact bd_nI (by omega) | exact bd_le ‹bd (nI (vq % 32)) _› (by omega) | assumption) (by intros; first | (exfalso; omega) | exact bd_nI (by omega) | exact bd_le ‹bd (nI (vq % 32)) _› (by omega) | assumption) (by intros; first | (exfalso; omega) | exact bd_nI (by omega) | exact bd_le ‹bd (nI (vq % 32)) _› (by omega) | assumption) (by intros; first | (exfalso; omega) | exact bd_nI (by omega) | exact bd_le ‹bd (nI (vq % 32)) _› (by omega) | assumption)
        refine g_iast hC V 1 rfl (vp_in_nI (by omega) (by omega)) (f' := f_4) (by rw [nI_clamp (by omega)]; exact ef_4.symm) (ws' := [(o, .inr (8, [.int w0, .ref g1, .ref g2, .ref g3, .ref g4, .int (nI tp), .int w6, .int w7, .int w8, .int w9, .int w10, .int w11, .int w12, .int w13, .int w14, .ref g15, .int w16, .ref g17, .int w18, .int w19, .ref g20, .int w21, .ref g22, .ref g23, .ref g24, .int w25, .int w26, .int w27, .ref g28, .ref g29, .int w30, .ref g31, .ref g32, .ref g33])), (g1, .inl (T 0, 282, .inl f_4))]) rfl dX8_becomes_51 (fun H locs V => ?_)
        refine lv_lload_n hx hb dX8_becomes_52 rfl (lv_at hl 1 rfl) ?_
        refine lv_ldc2 (v := (8192)) hx hb hown (hts _ w_1285) dX8_becomes_53 ?_
        refine g_vl (y := (nI 8192).toInt64) (by decide +kernel) ?_
        refine lv_ldiv hx hb dX8_becomes_56 (by decide +kernel) ?_
        refine g_vl (y := Int64.ofNat (vq / 8192)) (by rw [oL_i (a := 8192) (by omega)]; exact oL_div (by omega) (by omega)) ?_
        refine lv_lstore_n (lv' := [(3, .long (Int64.ofNat (vq / 8192))), (5, .int (nI (kd - 1))), (0, .ref o), (1, .long (Int64.ofNat sv))]) hx hb dX8_becomes_57 rfl hl (by decide) rfl (fun ls hl => ?_)
        refine lv_iinc (v := ((nI (kd - 1)) + (-1))) (lv' := [(5, .int ((nI (kd - 1)) + (-1))), (3, .long (Int64.ofNat (vq / 8192))), (0, .ref o), (1, .long (Int64.ofNat sv))]) hx hb dX8_becomes_58 hl (k := 1) rfl rfl (by decide) rfl (fun ls hl => ?_)
        refine lv_goto (tgt := 12) hx hb dX8_becomes_61 (by decide) ?_
        exact ih_12 ((nI (kd - 1)) + (-1)) f_4 (kd - 1) (vq / 8192) (by assumption) (dn_step _) (by omega) (by omega) (by omega) _ _ _ V (lv_sub hl [0, 1, 2, 3] rfl)
  exact L_1 _ ((nI n) - (nI 1)) fa n sv (by assumption) rfl (Nat.le_refl _) h_sv (Nat.lt_succ_self _) _ _ _ V (lv_sub hl [0, 1, 2, 3] rfl)

def q_m_meets (T : Nat → ClassId) (sv : Nat) (o : Nat) (w0 : Int32) (g1 : Nat) (g2 : Nat) (g3 : Nat) (g4 : Nat) (tp : Nat) (w6 : Int32) (w7 : Int32) (w8 : Int32) (w9 : Int32) (w10 : Int32) (w11 : Int32) (w12 : Int32) (w13 : Int32) (w14 : Int32) (g15 : Nat) (w16 : Int32) (g17 : Nat) (w18 : Int32) (w19 : Int32) (g20 : Nat) (w21 : Int32) (g22 : Nat) (g23 : Nat) (g24 : Nat) (sm : Nat) (w26 : Int32) (w27 : Int32) (g28 : Nat) (g29 : Nat) (w30 : Int32) (g31 : Nat) (g32 : Nat) (g33 : Nat) (fs : Nat → Int64) (fc : Nat → Int32) : Option Value → va_W → Prop := fun rr ww => (∃ (sm2 : Nat) (gs : Nat → Int64) (gt : Nat → Int32), rr = none ∧ ww = [(o, .inr (8, [.int w0, .ref g1, .ref g2, .ref g3, .ref g4, .int (nI tp), .int w6, .int w7, .int w8, .int w9, .int w10, .int w11, .int w12, .int w13, .int w14, .ref g15, .int w16, .ref g17, .int w18, .int w19, .ref g20, .int w21, .ref g22, .ref g23, .ref g24, .int (nI sm2), .int w26, .int w27, .ref g28, .ref g29, .int w30, .ref g31, .ref g32, .ref g33])), (g23, .inl (T 1, 3001, .inr (.inl gs))), (g24, .inl (T 0, 8192, .inl gt))] ∧ TI sm2 gt ∧ SL sm2 gs ∧ sm ≤ sm2)
set_option maxHeartbeats 4000000 in
set_option maxRecDepth 100000 in
theorem m_meets (l : Launch) (D : va_G) (T : Nat → ClassId) (sv : Nat) (o : Nat) (w0 : Int32) (g1 : Nat) (g2 : Nat) (g3 : Nat) (g4 : Nat) (tp : Nat) (w6 : Int32) (w7 : Int32) (w8 : Int32) (w9 : Int32) (w10 : Int32) (w11 : Int32) (w12 : Int32) (w13 : Int32) (w14 : Int32) (g15 : Nat) (w16 : Int32) (g17 : Nat) (w18 : Int32) (w19 : Int32) (g20 : Nat) (w21 : Int32) (g22 : Nat) (g23 : Nat) (g24 : Nat) (sm : Nat) (w26 : Int32) (w27 : Int32) (g28 : Nat) (g29 : Nat) (w30 : Int32) (g31 : Nat) (g32 : Nat) (g33 : Nat) (fs : Nat → Int64) (fc : Nat → Int32) (h_ti : TI sm fc) (h_sl : SL sm fs) (h_sv : sv < 549755813889) : Ct l yX8_meets cX8_meets 4 none 0 0 0 D T [.ref o, .long (Int64.ofNat sv)] [(o, .inr (8, [.int w0, .ref g1, .ref g2, .ref g3, .ref g4, .int (nI tp), .int w6, .int w7, .int w8, .int w9, .int w10, .int w11, .int w12, .int w13, .int w14, .ref g15, .int w16, .ref g17, .int w18, .int w19, .ref g20, .int w21, .ref g22, .ref g23, .ref g24, .int (nI sm), .int w26, .int w27, .ref g28, .ref g29, .int w30, .ref g31, .ref g32, .ref g33])), (g23, .inl (T 1, 3001, .inr (.inl fs))), (g24, .inl (T 0, 8192, .inl fc))] (q_m_meets T sv o w0 g1 g2 g3 g4 tp w6 w7 w8 w9 w10 w11 w12 w13 w14 g15 w16 g17 w18 w19 g20 w21 g22 g23 g24 sm w26 w27 g28 g29 w30 g31 g32 g33 fs fc) := by
  refine Ct.of (cc := cX8_meets) (maxL := 4) (ret := none) (by decide) (Nat.le_of_ble_eq_true rfl) ?_
  intro p e s m args below meth c A ls hC hnm V hl
  obtain ⟨hx, hb, hr, hml, hown, hts, hlocks⟩ := id hC
  generalize hH : s.heap = H at V ⊢
  clear hH
  have hl : lv_has ls 4 [(0, .ref o), (1, .long (Int64.ofNat sv))] := hl
  generalize hlo : ([] : List Loc) = locs at V ⊢
  clear hlo
  obtain ⟨z_, hz1, hz2⟩ := ti_free h_ti
  have hsm := h_ti.1
  refine lv_lload_n hx hb dX8_meets_0 rfl (lv_at hl 1 rfl) ?_
  refine lv_ldc2 (v := (8191)) hx hb hown (hts _ w_1290) dX8_meets_1 ?_
  refine g_vl (y := (nI 8191).toInt64) (by decide +kernel) ?_
  refine lv_lrem hx hb dX8_meets_4 (by decide +kernel) ?_
  refine g_vl (y := Int64.ofNat (sv % 8191)) (by rw [oL_i (a := 8191) (by omega)]; exact oL_rem (by omega) (by omega)) ?_
  refine lv_l2i hx hb dX8_meets_5 rfl ?_
  refine g_vi (y := (nI (sv % 8191))) (oL_32 (by omega)) ?_
  refine lv_istore_n (lv' := [(3, .int (nI (sv % 8191))), (0, .ref o), (1, .long (Int64.ofNat sv))]) hx hb dX8_meets_6 rfl hl (by decide) rfl (fun ls hl => ?_)
  have L_1 : ∀ (fu : Nat) (kq : Nat), kq < 8192 → (z_ + 8192 - kq) % 8192 < fu → ∀ (H : Heap) (locs : List Loc) (ls : Array Slot), gW D T A s [(o, .inr (8, [.int w0, .ref g1, .ref g2, .ref g3, .ref g4, .int (nI tp), .int w6, .int w7, .int w8, .int w9, .int w10, .int w11, .int w12, .int w13, .int w14, .ref g15, .int w16, .ref g17, .int w18, .int w19, .ref g20, .int w21, .ref g22, .ref g23, .ref g24, .int (nI sm), .int w26, .int w27, .ref g28, .ref g29, .int w30, .ref g31, .ref g32, .ref g33])), (g23, .inl (T 1, 3001, .inr (.inl fs))), (g24, .inl (T 0, 8192, .inl fc))] H locs → lv_has ls 4 [(3, .int (nI kq)), (0, .ref o), (1, .long (Int64.ofNat sv))] → W p l e (rmD 0 0 0) s m args below meth c H locs 0 0 (MQ below (gQ D A (q_m_meets T sv o w0 g1 g2 g3 g4 tp w6 w7 w8 w9 w10 w11 w12 w13 w14 g15 w16 g17 w18 w19 g20 w21 g22 g23 g24 sm w26 w27 g28 g29 w30 g31 g32 g33 fs fc)) args s 0 0 A) (F0 m 7 ls []) := by
    intro fu_7
    induction fu_7 with
    | zero => intro kq hkq hmu; exact absurd hmu (Nat.not_lt_zero _)
    | succ fu_7 ih_7 =>
      intro kq hkq hmu_7 H locs ls V hl
      refine lv_aload_n hx hb dX8_meets_7 rfl (lv_at hl 1 rfl) ?_
      refine g_get hC V (ci := 8) uwX8 0 rfl rfl 24 (by decide) w_936 rfl rfl dX8_meets_8 ?_
      refine lv_iload_n hx hb dX8_meets_11 rfl (lv_at hl 0 rfl) ?_
      obtain ⟨j_2, hj_2, ej_2⟩ := bd_ex (ti_bd h_ti (i := kq) (by omega))
      refine g_iald hC V 2 rfl (vp_in_nI (by omega) (by omega)) (v := (nI j_2)) (by rw [nI_clamp (by omega)]; exact ej_2) dX8_meets_12 ?_
      refine lv_if_le (tgt := 46) hx hb dX8_meets_13 (by decide) (fun c_3 => ?_) (fun c_3 => ?_)
      · skip
        rw [show (0 : Int32) = nI 0 from rfl] at c_3
        have c_3 := b_le (by omega) (by omega) c_3
        refine lv_aload_n hx hb dX8_meets_46 rfl (lv_at hl 1 rfl) ?_
        refine g_get hC V (ci := 8) uwX8 0 rfl rfl 25 (by decide) w_937 rfl rfl dX8_meets_47 ?_
        refine lv_sipush (v := (nI 3001)) hx hb dX8_meets_50 (by decide +kernel) ?_
        refine lv_icmp_ne (tgt := 57) hx hb dX8_meets_53 (by decide) (fun c_4 => ?_) (fun c_4 => ?_)
        · skip
          have c_4 := b_ne (by omega) (by omega) c_4
          refine lv_aload_n hx hb dX8_meets_57 rfl (lv_at hl 1 rfl) ?_
          refine g_get hC V (ci := 8) uwX8 0 rfl rfl 23 (by decide) w_935 rfl rfl dX8_meets_58 ?_
          refine lv_aload_n hx hb dX8_meets_61 rfl (lv_at hl 1 rfl) ?_
          refine g_get hC V (ci := 8) uwX8 0 rfl rfl 25 (by decide) w_937 rfl rfl dX8_meets_62 ?_
          refine lv_lload_n hx hb dX8_meets_65 rfl (lv_at hl 2 rfl) ?_
          refine g_last hC V 1 rfl (vp_in_nI (by omega) (by omega)) (f' := (vp_updL fs sm (Int64.ofNat sv))) (by rw [nI_clamp (by omega)]) (ws' := [(o, .inr (8, [.int w0, .ref g1, .ref g2, .ref g3, .ref g4, .int (nI tp), .int w6, .int w7, .int w8, .int w9, .int w10, .int w11, .int w12, .int w13, .int w14, .ref g15, .int w16, .ref g17, .int w18, .int w19, .ref g20, .int w21, .ref g22, .ref g23, .ref g24, .int (nI sm), .int w26, .int w27, .ref g28, .ref g29, .int w30, .ref g31, .ref g32, .ref g33])), (g23, .inl (T 1, 3001, .inr (.inl (vp_updL fs sm (Int64.ofNat sv))))), (g24, .inl (T 0, 8192, .inl fc))]) rfl dX8_meets_66 (fun H locs V => ?_)
          refine lv_aload_n hx hb dX8_meets_67 rfl (lv_at hl 1 rfl) ?_
          refine lv_dup hx hb dX8_meets_68 rfl ?_
          refine g_get hC V (ci := 8) uwX8 0 rfl rfl 25 (by decide) w_937 rfl rfl dX8_meets_69 ?_
          refine lv_iconst (v := (nI 1)) hx hb dX8_meets_72 (by decide +kernel) ?_
          refine lv_iadd hx hb dX8_meets_73 ?_
          refine g_vi (y := (nI (sm + 1))) (nI_add _ _) ?_
          refine g_put hC V (ci := 8) uwX8 tyX8 tyX8_ok nmX8 0 rfl rfl 25 (by decide) w_937 rfl rfl rfl rfl (Nat.le_of_ble_eq_true rfl) (ws' := [(o, .inr (8, [.int w0, .ref g1, .ref g2, .ref g3, .ref g4, .int (nI tp), .int w6, .int w7, .int w8, .int w9, .int w10, .int w11, .int w12, .int w13, .int w14, .ref g15, .int w16, .ref g17, .int w18, .int w19, .ref g20, .int w21, .ref g22, .ref g23, .ref g24, .int (nI (sm + 1)), .int w26, .int w27, .ref g28, .ref g29, .int w30, .ref g31, .ref g32, .ref g33])), (g23, .inl (T 1, 3001, .inr (.inl (vp_updL fs sm (Int64.ofNat sv))))), (g24, .inl (T 0, 8192, .inl fc))]) rfl dX8_meets_74 (fun H locs V => ?_)
          refine lv_aload_n hx hb dX8_meets_77 rfl (lv_at hl 1 rfl) ?_
          refine g_get hC V (ci := 8) uwX8 0 rfl rfl 24 (by decide) w_936 rfl rfl dX8_meets_78 ?_
          refine lv_iload_n hx hb dX8_meets_81 rfl (lv_at hl 0 rfl) ?_
          refine lv_aload_n hx hb dX8_meets_82 rfl (lv_at hl 1 rfl) ?_
          refine g_get hC V (ci := 8) uwX8 0 rfl rfl 25 (by decide) w_937 rfl rfl dX8_meets_83 ?_
          refine g_iast hC V 2 rfl (vp_in_nI (by omega) (by omega)) (f' := (upd fc kq (nI (sm + 1)))) (by rw [nI_clamp (by omega)]) (ws' := [(o, .inr (8, [.int w0, .ref g1, .ref g2, .ref g3, .ref g4, .int (nI tp), .int w6, .int w7, .int w8, .int w9, .int w10, .int w11, .int w12, .int w13, .int w14, .ref g15, .int w16, .ref g17, .int w18, .int w19, .ref g20, .int w21, .ref g22, .ref g23, .ref g24, .int (nI (sm + 1)), .int w26, .int w27, .ref g28, .ref g29, .int w30, .ref g31, .ref g32, .ref g33])), (g23, .inl (T 1, 3001, .inr (.inl (vp_updL fs sm (Int64.ofNat sv))))), (g24, .inl (T 0, 8192, .inl (upd fc kq (nI (sm + 1)))))]) rfl dX8_meets_86 (fun H locs V => ?_)
          exact g_vret (Qr := (q_m_meets T sv o w0 g1 g2 g3 g4 tp w6 w7 w8 w9 w10 w11 w12 w13 w14 g15 w16 g17 w18 w19 g20 w21 g22 g23 g24 sm w26 w27 g28 g29 w30 g31 g32 g33 fs fc)) hC V ⟨(Nat.le_of_ble_eq_true rfl), (Nat.le_of_ble_eq_true rfl)⟩ ⟨(sm + 1), (vp_updL fs sm (Int64.ofNat sv)), (upd fc kq (nI (sm + 1))), rfl, rfl, (ti_put h_ti (by omega)), (sl_put h_sl h_sv), (by omega)⟩ dX8_meets_87
        · skip
          have c_4 := b_eq (by omega) (by omega) c_4
          exact g_vret (Qr := (q_m_meets T sv o w0 g1 g2 g3 g4 tp w6 w7 w8 w9 w10 w11 w12 w13 w14 g15 w16 g17 w18 w19 g20 w21 g22 g23 g24 sm w26 w27 g28 g29 w30 g31 g32 g33 fs fc)) hC V ⟨(Nat.le_of_ble_eq_true rfl), (Nat.le_of_ble_eq_true rfl)⟩ ⟨sm, fs, fc, rfl, rfl, h_ti, h_sl, (Nat.le_refl _)⟩ dX8_meets_56
      · skip
        rw [show (0 : Int32) = nI 0 from rfl] at c_3
        have c_3 := b_nle (by omega) (by omega) c_3
        have hnz := nz_of hz2 ej_2 (by omega) (by omega)
        refine lv_aload_n hx hb dX8_meets_16 rfl (lv_at hl 1 rfl) ?_
        refine g_get hC V (ci := 8) uwX8 0 rfl rfl 23 (by decide) w_935 rfl rfl dX8_meets_17 ?_
        refine lv_aload_n hx hb dX8_meets_20 rfl (lv_at hl 1 rfl) ?_
        refine g_get hC V (ci := 8) uwX8 0 rfl rfl 24 (by decide) w_936 rfl rfl dX8_meets_21 ?_
        refine lv_iload_n hx hb dX8_meets_24 rfl (lv_at hl 0 rfl) ?_
        refine g_iald hC V 2 rfl (vp_in_nI (by omega) (by omega)) (v := (nI j_2)) (by rw [nI_clamp (by omega)]; exact ej_2) dX8_meets_25 ?_
        refine lv_iconst (v := (nI 1)) hx hb dX8_meets_26 (by decide +kernel) ?_
        refine lv_isub hx hb dX8_meets_27 ?_
        refine g_vi (y := (nI (j_2 - 1))) (nI_sub (by omega)) ?_
        refine g_lald hC V 1 rfl (vp_in_nI (by omega) (by omega)) (v := (fs (j_2 - 1))) (congrArg _ (nI_clamp (by omega))) dX8_meets_28 ?_
        refine lv_lload_n hx hb dX8_meets_29 rfl (lv_at hl 2 rfl) ?_
        refine W.lcmp hx hb dX8_meets_30 ?_
        refine lv_if_ne (tgt := 35) hx hb dX8_meets_31 (by decide) (fun c_5 => ?_) (fun c_5 => ?_)
        · skip
          refine lv_iload_n hx hb dX8_meets_35 rfl (lv_at hl 0 rfl) ?_
          refine lv_iconst (v := (nI 1)) hx hb dX8_meets_36 (by decide +kernel) ?_
          refine lv_iadd hx hb dX8_meets_37 ?_
          refine g_vi (y := (nI (kq + 1))) (nI_add _ _) ?_
          refine lv_sipush (v := (nI 8192)) hx hb dX8_meets_38 (by decide +kernel) ?_
          refine lv_irem hx hb dX8_meets_41 (by decide +kernel) ?_
          refine g_vi (y := (nI ((kq + 1) % 8192))) (nI_rem (by omega) (by omega)) ?_
          refine lv_istore_n (lv' := [(3, .int (nI ((kq + 1) % 8192))), (0, .ref o), (1, .long (Int64.ofNat sv))]) hx hb dX8_meets_42 rfl hl (by decide) rfl (fun ls hl => ?_)
          refine lv_goto (tgt := 7) hx hb dX8_meets_43 (by decide) ?_
          exact ih_7 ((kq + 1) % 8192) (by omega) (by omega) _ _ _ V (lv_sub hl [0, 1, 2] rfl)
        · skip
          exact g_vret (Qr := (q_m_meets T sv o w0 g1 g2 g3 g4 tp w6 w7 w8 w9 w10 w11 w12 w13 w14 g15 w16 g17 w18 w19 g20 w21 g22 g23 g24 sm w26 w27 g28 g29 w30 g31 g32 g33 fs fc)) hC V ⟨(Nat.le_of_ble_eq_true rfl), (Nat.le_of_ble_eq_true rfl)⟩ ⟨sm, fs, fc, rfl, rfl, h_ti, h_sl, (Nat.le_refl _)⟩ dX8_meets_34
  exact L_1 _ (sv % 8191) (by omega) (Nat.lt_succ_self _) _ _ _ V (lv_sub hl [0, 1, 2] rfl)

def q_m_doesAll (T : Nat → ClassId) (sv : Nat) (n : Nat) (o : Nat) (w0 : Int32) (g1 : Nat) (g2 : Nat) (g3 : Nat) (g4 : Nat) (tp : Nat) (w6 : Int32) (w7 : Int32) (w8 : Int32) (w9 : Int32) (w10 : Int32) (w11 : Int32) (w12 : Int32) (w13 : Int32) (w14 : Int32) (g15 : Nat) (w16 : Int32) (g17 : Nat) (w18 : Int32) (w19 : Int32) (g20 : Nat) (w21 : Int32) (g22 : Nat) (g23 : Nat) (g24 : Nat) (sm : Nat) (w26 : Int32) (w27 : Int32) (g28 : Nat) (g29 : Nat) (w30 : Int32) (g31 : Nat) (g32 : Nat) (g33 : Nat) (fa : Nat → Int32) (fh : Nat → Int32) (fs : Nat → Int64) (fc : Nat → Int32) : Option Value → va_W → Prop := fun rr ww => (∃ (bm : Int32) (ga : Nat → Int32) (gh : Nat → Int32) (sm2 : Nat) (gs : Nat → Int64) (gt : Nat → Int32), rr = some (.int (nI 1)) ∧ ww = [(o, .inr (8, [.int w0, .ref g1, .ref g2, .ref g3, .ref g4, .int (nI tp), .int w6, .int w7, .int w8, .int w9, .int w10, .int w11, .int w12, .int w13, .int w14, .ref g15, .int bm, .ref g17, .int w18, .int w19, .ref g20, .int w21, .ref g22, .ref g23, .ref g24, .int (nI sm2), .int w26, .int w27, .ref g28, .ref g29, .int w30, .ref g31, .ref g32, .ref g33])), (g1, .inl (T 0, 282, .inl ga)), (g15, .inl (T 0, 10, .inl gh)), (g23, .inl (T 1, 3001, .inr (.inl gs))), (g24, .inl (T 0, 8192, .inl gt))] ∧ MS n fa ga ∧ TI sm2 gt ∧ SL sm2 gs ∧ sm ≤ sm2) ∨ (∃ (bm : Int32) (ga : Nat → Int32) (gh : Nat → Int32) (sm2 : Nat) (gs : Nat → Int64) (gt : Nat → Int32), rr = some (.int (nI 0)) ∧ ww = [(o, .inr (8, [.int w0, .ref g1, .ref g2, .ref g3, .ref g4, .int (nI tp), .int w6, .int w7, .int w8, .int w9, .int w10, .int w11, .int w12, .int w13, .int w14, .ref g15, .int bm, .ref g17, .int w18, .int w19, .ref g20, .int w21, .ref g22, .ref g23, .ref g24, .int (nI sm2), .int w26, .int w27, .ref g28, .ref g29, .int w30, .ref g31, .ref g32, .ref g33])), (g1, .inl (T 0, 282, .inl ga)), (g15, .inl (T 0, 10, .inl gh)), (g23, .inl (T 1, 3001, .inr (.inl gs))), (g24, .inl (T 0, 8192, .inl gt))] ∧ MS n fa ga ∧ TI sm2 gt ∧ SL sm2 gs ∧ sm ≤ sm2)
set_option maxHeartbeats 4000000 in
set_option maxRecDepth 100000 in
theorem m_doesAll (l : Launch) (D : va_G) (T : Nat → ClassId) (sv : Nat) (n : Nat) (o : Nat) (w0 : Int32) (g1 : Nat) (g2 : Nat) (g3 : Nat) (g4 : Nat) (tp : Nat) (w6 : Int32) (w7 : Int32) (w8 : Int32) (w9 : Int32) (w10 : Int32) (w11 : Int32) (w12 : Int32) (w13 : Int32) (w14 : Int32) (g15 : Nat) (w16 : Int32) (g17 : Nat) (w18 : Int32) (w19 : Int32) (g20 : Nat) (w21 : Int32) (g22 : Nat) (g23 : Nat) (g24 : Nat) (sm : Nat) (w26 : Int32) (w27 : Int32) (g28 : Nat) (g29 : Nat) (w30 : Int32) (g31 : Nat) (g32 : Nat) (g33 : Nat) (fa : Nat → Int32) (fh : Nat → Int32) (fs : Nat → Int64) (fc : Nat → Int32) (h_a : MI n fa) (h_3 : n ≤ 3) (h_ti : TI sm fc) (h_sl : SL sm fs) (h_sv : sv < 549755813889) : Ct l yX8_doesAll cX8_doesAll 9 (some .boolean) 3 0 0 D T [.ref o, .long (Int64.ofNat sv)] [(o, .inr (8, [.int w0, .ref g1, .ref g2, .ref g3, .ref g4, .int (nI tp), .int w6, .int w7, .int w8, .int w9, .int w10, .int w11, .int w12, .int w13, .int w14, .ref g15, .int w16, .ref g17, .int w18, .int w19, .ref g20, .int w21, .ref g22, .ref g23, .ref g24, .int (nI sm), .int w26, .int w27, .ref g28, .ref g29, .int w30, .ref g31, .ref g32, .ref g33])), (g1, .inl (T 0, 282, .inl fa)), (g15, .inl (T 0, 10, .inl fh)), (g23, .inl (T 1, 3001, .inr (.inl fs))), (g24, .inl (T 0, 8192, .inl fc))] (q_m_doesAll T sv n o w0 g1 g2 g3 g4 tp w6 w7 w8 w9 w10 w11 w12 w13 w14 g15 w16 g17 w18 w19 g20 w21 g22 g23 g24 sm w26 w27 g28 g29 w30 g31 g32 g33 fa fh fs fc) := by
  refine Ct.of (cc := cX8_doesAll) (maxL := 9) (ret := (some .boolean)) (by decide) (Nat.le_of_ble_eq_true rfl) ?_
  intro p e s m args below meth c A ls hC hnm V hl
  obtain ⟨hx, hb, hr, hml, hown, hts, hlocks⟩ := id hC
  generalize hH : s.heap = H at V ⊢
  clear hH
  have hl : lv_has ls 9 [(0, .ref o), (1, .long (Int64.ofNat sv))] := hl
  generalize hlo : ([] : List Loc) = locs at V ⊢
  clear hlo
  have ms0 := ms_rf h_a
  have hn10 := h_a.1
  refine lv_iconst (v := (nI 1)) hx hb dX8_doesAll_0 (by decide +kernel) ?_
  refine lv_istore_n (lv' := [(3, .int (nI 1)), (0, .ref o), (1, .long (Int64.ofNat sv))]) hx hb dX8_doesAll_1 rfl hl (by decide) rfl (fun ls hl => ?_)
  refine lv_iconst (v := (nI 0)) hx hb dX8_doesAll_2 (by decide +kernel) ?_
  refine lv_istore (lv' := [(4, .int (nI 0)), (3, .int (nI 1)), (0, .ref o), (1, .long (Int64.ofNat sv))]) hx hb dX8_doesAll_3 hl (by decide) rfl (fun ls hl => ?_)
  have L_1 : ∀ (fu : Nat) (k5 : Nat) (wy : Nat), k5 ≤ n → ((k5 = 0 ∧ wy = 1) ∨ (k5 = 1 ∧ wy = 3) ∨ (k5 = 2 ∧ wy = 9) ∨ (k5 = 3 ∧ wy = 27)) → n - k5 < fu → ∀ (H : Heap) (locs : List Loc) (ls : Array Slot), gW D T A s [(o, .inr (8, [.int w0, .ref g1, .ref g2, .ref g3, .ref g4, .int (nI tp), .int w6, .int w7, .int w8, .int w9, .int w10, .int w11, .int w12, .int w13, .int w14, .ref g15, .int w16, .ref g17, .int w18, .int w19, .ref g20, .int w21, .ref g22, .ref g23, .ref g24, .int (nI sm), .int w26, .int w27, .ref g28, .ref g29, .int w30, .ref g31, .ref g32, .ref g33])), (g1, .inl (T 0, 282, .inl fa)), (g15, .inl (T 0, 10, .inl fh)), (g23, .inl (T 1, 3001, .inr (.inl fs))), (g24, .inl (T 0, 8192, .inl fc))] H locs → lv_has ls 9 [(4, .int (nI k5)), (3, .int (nI wy)), (0, .ref o), (1, .long (Int64.ofNat sv))] → W p l e (rmD 3 0 0) s m args below meth c H locs 0 0 (MQ below (gQ D A (q_m_doesAll T sv n o w0 g1 g2 g3 g4 tp w6 w7 w8 w9 w10 w11 w12 w13 w14 g15 w16 g17 w18 w19 g20 w21 g22 g23 g24 sm w26 w27 g28 g29 w30 g31 g32 g33 fa fh fs fc)) args s 0 0 A) (F0 m 5 ls []) := by
    intro fu_5
    induction fu_5 with
    | zero => intro k5 wy hk5 hwy hmu; exact absurd hmu (Nat.not_lt_zero _)
    | succ fu_5 ih_5 =>
      intro k5 wy hk5 hwy hmu_5 H locs ls V hl
      refine lv_iload hx hb dX8_doesAll_5 (lv_at hl 0 rfl) ?_
      refine lv_aload_n hx hb dX8_doesAll_7 rfl (lv_at hl 2 rfl) ?_
      refine g_get hC V (ci := 8) uwX8 0 rfl rfl 1 (by decide) w_913 rfl rfl dX8_doesAll_8 ?_
      refine lv_iconst (v := (nI 0)) hx hb dX8_doesAll_11 (by decide +kernel) ?_
      refine g_iald hC V 1 rfl (vp_in_nI (by decide) (by decide)) (v := (nI n)) (by rw [nI_clamp (by decide)]; first | rfl | exact h_a.2.1 | exact hf29.1.2.1) dX8_doesAll_12 ?_
      refine lv_icmp_ge (tgt := 26) hx hb dX8_doesAll_13 (by decide) (fun c_2 => ?_) (fun c_2 => ?_)
      · skip
        have c_2 := b_le (by omega) (by omega) c_2
        refine lv_iconst (v := (nI 0)) hx hb dX8_doesAll_26 (by decide +kernel) ?_
        refine lv_istore (lv' := [(4, .int (nI 0)), (3, .int (nI wy)), (0, .ref o), (1, .long (Int64.ofNat sv))]) hx hb dX8_doesAll_27 hl (by decide) rfl (fun ls hl => ?_)
        have L_3 : ∀ (fu : Nat) (k29 : Nat) (sn_ : Nat) (bv : Int32) (gx : Nat → Int32) (gy : Nat → Int64) (gz : Nat → Int32) (f29 : Nat → Int32), k29 ≤ wy → MS n fa f29 → TI sn_ gz → SL sn_ gy → sm ≤ sn_ → wy - k29 < fu → ∀ (H : Heap) (locs : List Loc) (ls : Array Slot), gW D T A s [(o, .inr (8, [.int w0, .ref g1, .ref g2, .ref g3, .ref g4, .int (nI tp), .int w6, .int w7, .int w8, .int w9, .int w10, .int w11, .int w12, .int w13, .int w14, .ref g15, .int bv, .ref g17, .int w18, .int w19, .ref g20, .int w21, .ref g22, .ref g23, .ref g24, .int (nI sn_), .int w26, .int w27, .ref g28, .ref g29, .int w30, .ref g31, .ref g32, .ref g33])), (g1, .inl (T 0, 282, .inl f29)), (g15, .inl (T 0, 10, .inl gx)), (g23, .inl (T 1, 3001, .inr (.inl gy))), (g24, .inl (T 0, 8192, .inl gz))] H locs → lv_has ls 9 [(4, .int (nI k29)), (3, .int (nI wy)), (0, .ref o), (1, .long (Int64.ofNat sv))] → W p l e (rmD 3 0 0) s m args below meth c H locs 0 0 (MQ below (gQ D A (q_m_doesAll T sv n o w0 g1 g2 g3 g4 tp w6 w7 w8 w9 w10 w11 w12 w13 w14 g15 w16 g17 w18 w19 g20 w21 g22 g23 g24 sm w26 w27 g28 g29 w30 g31 g32 g33 fa fh fs fc)) args s 0 0 A) (F0 m 29 ls []) := by
          intro fu_29
          induction fu_29 with
          | zero => intro k29 sn_ bv gx gy gz f29 hk29 hf29 hti hsl hsn hmu; exact absurd hmu (Nat.not_lt_zero _)
          | succ fu_29 ih_29 =>
            intro k29 sn_ bv gx gy gz f29 hk29 hf29 hti hsl hsn hmu_29 H locs ls V hl
            refine lv_iload hx hb dX8_doesAll_29 (lv_at hl 0 rfl) ?_
            refine lv_iload_n hx hb dX8_doesAll_31 rfl (lv_at hl 1 rfl) ?_
            refine lv_icmp_ge (tgt := 158) hx hb dX8_doesAll_32 (by decide) (fun c_4 => ?_) (fun c_4 => ?_)
            · skip
              have c_4 := b_le (by omega) (by omega) c_4
              refine lv_iconst (v := (nI 0)) hx hb dX8_doesAll_158 (by decide +kernel) ?_
              exact g_zret (Qr := (q_m_doesAll T sv n o w0 g1 g2 g3 g4 tp w6 w7 w8 w9 w10 w11 w12 w13 w14 g15 w16 g17 w18 w19 g20 w21 g22 g23 g24 sm w26 w27 g28 g29 w30 g31 g32 g33 fa fh fs fc)) hC V ⟨(Nat.le_of_ble_eq_true rfl), (Nat.le_of_ble_eq_true rfl)⟩ (by first | decide +kernel | exact rfl) (.inr ⟨bv, f29, gx, sn_, gy, gz, rfl, rfl, (by first | assumption | omega), (by first | assumption | omega), (by first | assumption | omega), (by first | assumption | omega)⟩) dX8_doesAll_159
            · skip
              have c_4 := b_nle (by omega) (by omega) c_4
              refine lv_iconst (v := (nI 0)) hx hb dX8_doesAll_35 (by decide +kernel) ?_
              refine lv_istore (lv' := [(5, .int (nI 0)), (4, .int (nI k29)), (3, .int (nI wy)), (0, .ref o), (1, .long (Int64.ofNat sv))]) hx hb dX8_doesAll_36 hl (by decide) rfl (fun ls hl => ?_)
              refine lv_iconst (v := (nI 0)) hx hb dX8_doesAll_38 (by decide +kernel) ?_
              refine lv_istore (lv' := [(6, .int (nI 0)), (5, .int (nI 0)), (4, .int (nI k29)), (3, .int (nI wy)), (0, .ref o), (1, .long (Int64.ofNat sv))]) hx hb dX8_doesAll_39 hl (by decide) rfl (fun ls hl => ?_)
              refine lv_iload hx hb dX8_doesAll_41 (lv_at hl 2 rfl) ?_
              refine lv_istore (lv' := [(7, .int (nI k29)), (6, .int (nI 0)), (5, .int (nI 0)), (4, .int (nI k29)), (3, .int (nI wy)), (0, .ref o), (1, .long (Int64.ofNat sv))]) hx hb dX8_doesAll_43 hl (by decide) rfl (fun ls hl => ?_)
              refine lv_iconst (v := (nI 0)) hx hb dX8_doesAll_45 (by decide +kernel) ?_
              refine lv_istore (lv' := [(8, .int (nI 0)), (7, .int (nI k29)), (6, .int (nI 0)), (5, .int (nI 0)), (4, .int (nI k29)), (3, .int (nI wy)), (0, .ref o), (1, .long (Int64.ofNat sv))]) hx hb dX8_doesAll_46 hl (by decide) rfl (fun ls hl => ?_)
              have L_5 : ∀ (fu : Nat) (k48 : Nat) (x48_7 : Int32) (x48_6 : Int32) (x48_5 : Int32), k48 ≤ n → n - k48 < fu → ∀ (H : Heap) (locs : List Loc) (ls : Array Slot), gW D T A s [(o, .inr (8, [.int w0, .ref g1, .ref g2, .ref g3, .ref g4, .int (nI tp), .int w6, .int w7, .int w8, .int w9, .int w10, .int w11, .int w12, .int w13, .int w14, .ref g15, .int bv, .ref g17, .int w18, .int w19, .ref g20, .int w21, .ref g22, .ref g23, .ref g24, .int (nI sn_), .int w26, .int w27, .ref g28, .ref g29, .int w30, .ref g31, .ref g32, .ref g33])), (g1, .inl (T 0, 282, .inl f29)), (g15, .inl (T 0, 10, .inl gx)), (g23, .inl (T 1, 3001, .inr (.inl gy))), (g24, .inl (T 0, 8192, .inl gz))] H locs → lv_has ls 9 [(8, .int (nI k48)), (7, .int x48_7), (6, .int x48_6), (5, .int x48_5), (4, .int (nI k29)), (3, .int (nI wy)), (0, .ref o), (1, .long (Int64.ofNat sv))] → W p l e (rmD 3 0 0) s m args below meth c H locs 0 0 (MQ below (gQ D A (q_m_doesAll T sv n o w0 g1 g2 g3 g4 tp w6 w7 w8 w9 w10 w11 w12 w13 w14 g15 w16 g17 w18 w19 g20 w21 g22 g23 g24 sm w26 w27 g28 g29 w30 g31 g32 g33 fa fh fs fc)) args s 0 0 A) (F0 m 48 ls []) := by
                intro fu_48
                induction fu_48 with
                | zero => intro k48 x48_7 x48_6 x48_5 hk48 hmu; exact absurd hmu (Nat.not_lt_zero _)
                | succ fu_48 ih_48 =>
                  intro k48 x48_7 x48_6 x48_5 hk48 hmu_48 H locs ls V hl
                  refine lv_iload hx hb dX8_doesAll_48 (lv_at hl 0 rfl) ?_
                  refine lv_aload_n hx hb dX8_doesAll_50 rfl (lv_at hl 6 rfl) ?_
                  refine g_get hC V (ci := 8) uwX8 0 rfl rfl 1 (by decide) w_913 rfl rfl dX8_doesAll_51 ?_
                  refine lv_iconst (v := (nI 0)) hx hb dX8_doesAll_54 (by decide +kernel) ?_
                  refine g_iald hC V 1 rfl (vp_in_nI (by decide) (by decide)) (v := (nI n)) (by rw [nI_clamp (by decide)]; first | rfl | exact h_a.2.1 | exact hf29.1.2.1) dX8_doesAll_55 ?_
                  refine lv_icmp_ge (tgt := 113) hx hb dX8_doesAll_56 (by decide) (fun c_6 => ?_) (fun c_6 => ?_)
                  · skip
                    have c_6 := b_le (by omega) (by omega) c_6
                    refine lv_aload_n hx hb dX8_doesAll_113 rfl (lv_at hl 6 rfl) ?_
                    refine lv_lload_n hx hb dX8_doesAll_114 rfl (lv_at hl 7 rfl) ?_
                    refine g_callVU (nA := 1) hC V hl.1 (m_becomes l D T sv n o w0 g1 g2 g3 g4 tp w6 w7 w8 w9 w10 w11 w12 w13 w14 g15 bv g17 w18 w19 g20 w21 g22 g23 g24 (nI sn_) w26 w27 g28 g29 w30 g31 g32 g33 f29 hf29.1 (by first | assumption | omega)) w_1295 w_1297 w_s72 w_9 w_1298 (by decide +kernel) rfl ⟨(Nat.le_of_ble_eq_true rfl), (Nat.le_of_ble_eq_true rfl)⟩ 0 (ci := 8) rfl rfl [0, 1] rfl rfl (Nat.le_of_ble_eq_true rfl) dX8_doesAll_115 ⟨(Nat.le_of_ble_eq_true rfl), (Nat.le_of_ble_eq_true rfl)⟩ rfl (fun r w1 H locs hQ V => ?_)
                    obtain ⟨ga_7, rfl, rfl, f_8⟩ := hQ
                    have V : gW D T A s [(o, .inr (8, [.int w0, .ref g1, .ref g2, .ref g3, .ref g4, .int (nI tp), .int w6, .int w7, .int w8, .int w9, .int w10, .int w11, .int w12, .int w13, .int w14, .ref g15, .int bv, .ref g17, .int w18, .int w19, .ref g20, .int w21, .ref g22, .ref g23, .ref g24, .int (nI sn_), .int w26, .int w27, .ref g28, .ref g29, .int w30, .ref g31, .ref g32, .ref g33])), (g1, .inl (T 0, 282, .inl ga_7)), (g15, .inl (T 0, 10, .inl gx)), (g23, .inl (T 1, 3001, .inr (.inl gy))), (g24, .inl (T 0, 8192, .inl gz))] H locs := V _ [0, 0] rfl rfl rfl (by decide +kernel) rfl
                    show W p l e _ s m args below meth c H locs _ _ _ (F0 m 118 ls [])
                    have hga_7 : MS n fa ga_7 := ms_tr (by assumption) f_8
                    refine lv_aload_n hx hb dX8_doesAll_118 rfl (lv_at hl 6 rfl) ?_
                    refine lv_iload hx hb dX8_doesAll_119 (lv_at hl 3 rfl) ?_
                    refine lv_iload hx hb dX8_doesAll_121 (lv_at hl 2 rfl) ?_
                    refine lv_iconst (v := (-1)) hx hb dX8_doesAll_123 (by decide +kernel) ?_
                    refine lv_iconst (v := (nI 0)) hx hb dX8_doesAll_124 (by decide +kernel) ?_
                    refine g_callVU (nA := 4) hC V hl.1 (m_goes l D T n o x48_5 x48_6 (-1) (nI 0) w0 g1 g2 g3 g4 tp w6 w7 w8 w9 w10 w11 w12 w13 w14 g15 bv g17 w18 w19 g20 w21 g22 g23 g24 (nI sn_) w26 w27 g28 g29 w30 g31 g32 g33 ga_7 gx hga_7.1) w_1122 w_1124 w_s50 w_9 w_1125 (by decide +kernel) rfl ⟨(Nat.le_of_ble_eq_true rfl), (Nat.le_of_ble_eq_true rfl)⟩ 0 (ci := 8) rfl rfl [0, 1, 2] rfl rfl (Nat.le_of_ble_eq_true rfl) dX8_doesAll_125 ⟨(Nat.le_of_ble_eq_true rfl), (Nat.le_of_ble_eq_true rfl)⟩ rfl (fun r w1 H locs hQ V => ?_)
                    obtain ⟨z_9, bm_10, ga_11, gh_12, rfl, rfl, f_13⟩ := hQ
                    have V : gW D T A s [(o, .inr (8, [.int w0, .ref g1, .ref g2, .ref g3, .ref g4, .int (nI tp), .int w6, .int w7, .int w8, .int w9, .int w10, .int w11, .int w12, .int w13, .int w14, .ref g15, .int bm_10, .ref g17, .int w18, .int w19, .ref g20, .int w21, .ref g22, .ref g23, .ref g24, .int (nI sn_), .int w26, .int w27, .ref g28, .ref g29, .int w30, .ref g31, .ref g32, .ref g33])), (g1, .inl (T 0, 282, .inl ga_11)), (g15, .inl (T 0, 10, .inl gh_12)), (g23, .inl (T 1, 3001, .inr (.inl gy))), (g24, .inl (T 0, 8192, .inl gz))] H locs := V _ [0, 0, 0] rfl rfl rfl (by decide +kernel) rfl
                    show W p l e _ s m args below meth c H locs _ _ _ (F0 m 128 ls [.int z_9])
                    have hga_11 : MS n fa ga_11 := ms_tr (by assumption) f_13
                    refine lv_pop hx hb dX8_doesAll_128 rfl ?_
                    refine lv_aload_n hx hb dX8_doesAll_129 rfl (lv_at hl 6 rfl) ?_
                    refine g_callVU (nA := 0) hC V hl.1 (m_doneMany l D T n o w0 g1 g2 g3 g4 tp w6 w7 w8 w9 w10 w11 w12 w13 w14 g15 bm_10 g17 w18 w19 g20 w21 g22 g23 g24 (nI sn_) w26 w27 g28 g29 w30 g31 g32 g33 ga_11 hga_11.1) w_1158 w_1160 w_s56 w_9 w_1161 (by decide +kernel) rfl ⟨(Nat.le_of_ble_eq_true rfl), (Nat.le_of_ble_eq_true rfl)⟩ 0 (ci := 8) rfl rfl [0, 1] rfl rfl (Nat.le_of_ble_eq_true rfl) dX8_doesAll_130 ⟨(Nat.le_of_ble_eq_true rfl), (Nat.le_of_ble_eq_true rfl)⟩ rfl (fun r w1 H locs hQ V => ?_)
                    obtain ⟨z_14, rfl, rfl⟩ := hQ
                    have V : gW D T A s [(o, .inr (8, [.int w0, .ref g1, .ref g2, .ref g3, .ref g4, .int (nI tp), .int w6, .int w7, .int w8, .int w9, .int w10, .int w11, .int w12, .int w13, .int w14, .ref g15, .int bm_10, .ref g17, .int w18, .int w19, .ref g20, .int w21, .ref g22, .ref g23, .ref g24, .int (nI sn_), .int w26, .int w27, .ref g28, .ref g29, .int w30, .ref g31, .ref g32, .ref g33])), (g1, .inl (T 0, 282, .inl ga_11)), (g15, .inl (T 0, 10, .inl gh_12)), (g23, .inl (T 1, 3001, .inr (.inl gy))), (g24, .inl (T 0, 8192, .inl gz))] H locs := V _ [0, 0] rfl rfl rfl (by decide +kernel) rfl
                    show W p l e _ s m args below meth c H locs _ _ _ (F0 m 133 ls [.int z_14])
                    refine lv_aload_n hx hb dX8_doesAll_133 rfl (lv_at hl 6 rfl) ?_
                    refine g_get hC V (ci := 8) uwX8 0 rfl rfl 1 (by decide) w_913 rfl rfl dX8_doesAll_134 ?_
                    refine lv_iconst (v := (nI 0)) hx hb dX8_doesAll_137 (by decide +kernel) ?_
                    refine g_iald hC V 1 rfl (vp_in_nI (by decide) (by decide)) (v := (nI n)) (by rw [nI_clamp (by decide)]; first | rfl | exact h_a.2.1 | exact hf29.1.2.1 | exact hga_7.1.2.1 | exact hga_11.1.2.1) dX8_doesAll_138 ?_
                    refine lv_icmp_ne (tgt := 144) hx hb dX8_doesAll_139 (by decide) (fun c_15 => ?_) (fun c_15 => ?_)
                    · skip
                      refine lv_aload_n hx hb dX8_doesAll_144 rfl (lv_at hl 6 rfl) ?_
                      refine lv_aload_n hx hb dX8_doesAll_145 rfl (lv_at hl 6 rfl) ?_
                      refine g_callVU (nA := 0) hC V hl.1 (m_state l D T n o w0 g1 g2 g3 g4 tp w6 w7 w8 w9 w10 w11 w12 w13 w14 g15 bm_10 g17 w18 w19 g20 w21 g22 g23 g24 (nI sn_) w26 w27 g28 g29 w30 g31 g32 g33 ga_11 hga_11.1 (by first | assumption | omega)) w_1281 w_1283 w_s69 w_9 w_1284 (by decide +kernel) rfl ⟨(Nat.le_of_ble_eq_true rfl), (Nat.le_of_ble_eq_true rfl)⟩ 0 (ci := 8) rfl rfl [0, 1] rfl rfl (Nat.le_of_ble_eq_true rfl) dX8_doesAll_146 ⟨(Nat.le_of_ble_eq_true rfl), (Nat.le_of_ble_eq_true rfl)⟩ rfl (fun r w1 H locs hQ V => ?_)
                      obtain ⟨r_16, rfl, rfl, f_17⟩ := hQ
                      have V : gW D T A s [(o, .inr (8, [.int w0, .ref g1, .ref g2, .ref g3, .ref g4, .int (nI tp), .int w6, .int w7, .int w8, .int w9, .int w10, .int w11, .int w12, .int w13, .int w14, .ref g15, .int bm_10, .ref g17, .int w18, .int w19, .ref g20, .int w21, .ref g22, .ref g23, .ref g24, .int (nI sn_), .int w26, .int w27, .ref g28, .ref g29, .int w30, .ref g31, .ref g32, .ref g33])), (g1, .inl (T 0, 282, .inl ga_11)), (g15, .inl (T 0, 10, .inl gh_12)), (g23, .inl (T 1, 3001, .inr (.inl gy))), (g24, .inl (T 0, 8192, .inl gz))] H locs := V _ [0, 0] rfl rfl rfl (by decide +kernel) rfl
                      show W p l e _ s m args below meth c H locs _ _ _ (F0 m 149 ls [.long (Int64.ofNat r_16), .ref o])
                      have hr_ : r_16 < 549755813889 := Nat.lt_of_lt_of_le f_17 (Nat.le_trans (stB_le h_3) (by decide))
                      refine g_callVU (nA := 1) hC V hl.1 (m_meets l D T r_16 o w0 g1 g2 g3 g4 tp w6 w7 w8 w9 w10 w11 w12 w13 w14 g15 bm_10 g17 w18 w19 g20 w21 g22 g23 g24 sn_ w26 w27 g28 g29 w30 g31 g32 g33 gy gz (by first | assumption | omega) (by first | assumption | omega) (by first | assumption | omega)) w_1286 w_1288 w_s70 w_9 w_1289 (by decide +kernel) rfl ⟨(Nat.le_of_ble_eq_true rfl), (Nat.le_of_ble_eq_true rfl)⟩ 0 (ci := 8) rfl rfl [0, 3, 4] rfl rfl (Nat.le_of_ble_eq_true rfl) dX8_doesAll_149 ⟨(Nat.le_of_ble_eq_true rfl), (Nat.le_of_ble_eq_true rfl)⟩ rfl (fun r w1 H locs hQ V => ?_)
                      obtain ⟨sm2_18, gs_19, gt_20, rfl, rfl, f_21, f_22, f_23⟩ := hQ
                      have V : gW D T A s [(o, .inr (8, [.int w0, .ref g1, .ref g2, .ref g3, .ref g4, .int (nI tp), .int w6, .int w7, .int w8, .int w9, .int w10, .int w11, .int w12, .int w13, .int w14, .ref g15, .int bm_10, .ref g17, .int w18, .int w19, .ref g20, .int w21, .ref g22, .ref g23, .ref g24, .int (nI sm2_18), .int w26, .int w27, .ref g28, .ref g29, .int w30, .ref g31, .ref g32, .ref g33])), (g1, .inl (T 0, 282, .inl ga_11)), (g15, .inl (T 0, 10, .inl gh_12)), (g23, .inl (T 1, 3001, .inr (.inl gs_19))), (g24, .inl (T 0, 8192, .inl gt_20))] H locs := V _ [0, 2, 0] rfl rfl rfl (by decide +kernel) rfl
                      show W p l e _ s m args below meth c H locs _ _ _ (F0 m 152 ls [])
                      refine lv_iinc (v := (nI (k29 + 1))) (lv' := [(4, .int (nI (k29 + 1))), (8, .int (nI k48)), (7, .int x48_7), (6, .int x48_6), (5, .int x48_5), (3, .int (nI wy)), (0, .ref o), (1, .long (Int64.ofNat sv))]) hx hb dX8_doesAll_152 hl (k := 4) rfl (nI_1 _) (by decide) rfl (fun ls hl => ?_)
                      refine lv_goto (tgt := 29) hx hb dX8_doesAll_155 (by decide) ?_
                      exact ih_29 (k29 + 1) sm2_18 bm_10 gh_12 gs_19 gt_20 ga_11 (by omega) (by assumption) (by assumption) (by assumption) (by omega) (by omega) _ _ _ V (lv_sub hl [0, 5, 6, 7] rfl)
                    · skip
                      refine lv_iconst (v := (nI 1)) hx hb dX8_doesAll_142 (by decide +kernel) ?_
                      exact g_zret (Qr := (q_m_doesAll T sv n o w0 g1 g2 g3 g4 tp w6 w7 w8 w9 w10 w11 w12 w13 w14 g15 w16 g17 w18 w19 g20 w21 g22 g23 g24 sm w26 w27 g28 g29 w30 g31 g32 g33 fa fh fs fc)) hC V ⟨(Nat.le_of_ble_eq_true rfl), (Nat.le_of_ble_eq_true rfl)⟩ (by first | decide +kernel | exact rfl) (.inl ⟨bm_10, ga_11, gh_12, sn_, gy, gz, rfl, rfl, (by first | assumption | omega), (by first | assumption | omega), (by first | assumption | omega), (by first | assumption | omega)⟩) dX8_doesAll_143
                  · skip
                    have c_6 := b_nle (by omega) (by omega) c_6
                    refine lv_iload hx hb dX8_doesAll_59 (lv_at hl 3 rfl) ?_
                    refine lv_iload hx hb dX8_doesAll_61 (lv_at hl 1 rfl) ?_
                    refine lv_iconst (v := (nI 3)) hx hb dX8_doesAll_63 (by decide +kernel) ?_
                    refine lv_irem hx hb dX8_doesAll_64 (by decide +kernel) ?_
                    refine lv_iconst (v := (nI 1)) hx hb dX8_doesAll_65 (by decide +kernel) ?_
                    refine lv_icmp_ne (tgt := 76) hx hb dX8_doesAll_66 (by decide) (fun c_24 => ?_) (fun c_24 => ?_)
                    · skip
                      refine lv_iconst (v := (nI 0)) hx hb dX8_doesAll_76 (by decide +kernel) ?_
                      refine lv_ior hx hb dX8_doesAll_77 ?_
                      refine lv_istore (lv' := [(5, .int (x48_5 ||| (nI 0))), (8, .int (nI k48)), (7, .int x48_7), (6, .int x48_6), (4, .int (nI k29)), (3, .int (nI wy)), (0, .ref o), (1, .long (Int64.ofNat sv))]) hx hb dX8_doesAll_78 hl (by decide) rfl (fun ls hl => ?_)
                      refine lv_iload hx hb dX8_doesAll_80 (lv_at hl 3 rfl) ?_
                      refine lv_iload hx hb dX8_doesAll_82 (lv_at hl 2 rfl) ?_
                      refine lv_iconst (v := (nI 3)) hx hb dX8_doesAll_84 (by decide +kernel) ?_
                      refine lv_irem hx hb dX8_doesAll_85 (by decide +kernel) ?_
                      refine lv_iconst (v := (nI 2)) hx hb dX8_doesAll_86 (by decide +kernel) ?_
                      refine lv_icmp_ne (tgt := 97) hx hb dX8_doesAll_87 (by decide) (fun c_25 => ?_) (fun c_25 => ?_)
                      · skip
                        refine lv_iconst (v := (nI 0)) hx hb dX8_doesAll_97 (by decide +kernel) ?_
                        refine lv_ior hx hb dX8_doesAll_98 ?_
                        refine lv_istore (lv' := [(6, .int (x48_6 ||| (nI 0))), (5, .int (x48_5 ||| (nI 0))), (8, .int (nI k48)), (7, .int x48_7), (4, .int (nI k29)), (3, .int (nI wy)), (0, .ref o), (1, .long (Int64.ofNat sv))]) hx hb dX8_doesAll_99 hl (by decide) rfl (fun ls hl => ?_)
                        refine lv_iload hx hb dX8_doesAll_101 (lv_at hl 3 rfl) ?_
                        refine lv_iconst (v := (nI 3)) hx hb dX8_doesAll_103 (by decide +kernel) ?_
                        refine lv_idiv hx hb dX8_doesAll_104 (by decide +kernel) ?_
                        refine lv_istore (lv' := [(7, .int (x48_7 / (nI 3))), (6, .int (x48_6 ||| (nI 0))), (5, .int (x48_5 ||| (nI 0))), (8, .int (nI k48)), (4, .int (nI k29)), (3, .int (nI wy)), (0, .ref o), (1, .long (Int64.ofNat sv))]) hx hb dX8_doesAll_105 hl (by decide) rfl (fun ls hl => ?_)
                        refine lv_iinc (v := (nI (k48 + 1))) (lv' := [(8, .int (nI (k48 + 1))), (7, .int (x48_7 / (nI 3))), (6, .int (x48_6 ||| (nI 0))), (5, .int (x48_5 ||| (nI 0))), (4, .int (nI k29)), (3, .int (nI wy)), (0, .ref o), (1, .long (Int64.ofNat sv))]) hx hb dX8_doesAll_107 hl (k := 3) rfl (nI_1 _) (by decide) rfl (fun ls hl => ?_)
                        refine lv_goto (tgt := 48) hx hb dX8_doesAll_110 (by decide) ?_
                        exact ih_48 (k48 + 1) (x48_7 / (nI 3)) (x48_6 ||| (nI 0)) (x48_5 ||| (nI 0)) (by omega) (by omega) _ _ _ V (lv_sub hl [0, 1, 2, 3, 4, 5, 6, 7] rfl)
                      · skip
                        refine lv_iconst (v := (nI 1)) hx hb dX8_doesAll_90 (by decide +kernel) ?_
                        refine lv_iload hx hb dX8_doesAll_91 (lv_at hl 1 rfl) ?_
                        refine lv_ishl hx hb dX8_doesAll_93 ?_
                        refine lv_goto (tgt := 98) hx hb dX8_doesAll_94 (by decide) ?_
                        refine lv_ior hx hb dX8_doesAll_98 ?_
                        refine lv_istore (lv' := [(6, .int (x48_6 ||| ((nI 1) <<< ((nI k48) &&& 31)))), (5, .int (x48_5 ||| (nI 0))), (8, .int (nI k48)), (7, .int x48_7), (4, .int (nI k29)), (3, .int (nI wy)), (0, .ref o), (1, .long (Int64.ofNat sv))]) hx hb dX8_doesAll_99 hl (by decide) rfl (fun ls hl => ?_)
                        refine lv_iload hx hb dX8_doesAll_101 (lv_at hl 3 rfl) ?_
                        refine lv_iconst (v := (nI 3)) hx hb dX8_doesAll_103 (by decide +kernel) ?_
                        refine lv_idiv hx hb dX8_doesAll_104 (by decide +kernel) ?_
                        refine lv_istore (lv' := [(7, .int (x48_7 / (nI 3))), (6, .int (x48_6 ||| ((nI 1) <<< ((nI k48) &&& 31)))), (5, .int (x48_5 ||| (nI 0))), (8, .int (nI k48)), (4, .int (nI k29)), (3, .int (nI wy)), (0, .ref o), (1, .long (Int64.ofNat sv))]) hx hb dX8_doesAll_105 hl (by decide) rfl (fun ls hl => ?_)
                        refine lv_iinc (v := (nI (k48 + 1))) (lv' := [(8, .int (nI (k48 + 1))), (7, .int (x48_7 / (nI 3))), (6, .int (x48_6 ||| ((nI 1) <<< ((nI k48) &&& 31)))), (5, .int (x48_5 ||| (nI 0))), (4, .int (nI k29)), (3, .int (nI wy)), (0, .ref o), (1, .long (Int64.ofNat sv))]) hx hb dX8_doesAll_107 hl (k := 3) rfl (nI_1 _) (by decide) rfl (fun ls hl => ?_)
                        refine lv_goto (tgt := 48) hx hb dX8_doesAll_110 (by decide) ?_
                        exact ih_48 (k48 + 1) (x48_7 / (nI 3)) (x48_6 ||| ((nI 1) <<< ((nI k48) &&& 31))) (x48_5 ||| (nI 0)) (by omega) (by omega) _ _ _ V (lv_sub hl [0, 1, 2, 3, 4, 5, 6, 7] rfl)
                    · skip
                      refine lv_iconst (v := (nI 1)) hx hb dX8_doesAll_69 (by decide +kernel) ?_
                      refine lv_iload hx hb dX8_doesAll_70 (lv_at hl 0 rfl) ?_
                      refine lv_ishl hx hb dX8_doesAll_72 ?_
                      refine lv_goto (tgt := 77) hx hb dX8_doesAll_73 (by decide) ?_
                      refine lv_ior hx hb dX8_doesAll_77 ?_
                      refine lv_istore (lv' := [(5, .int (x48_5 ||| ((nI 1) <<< ((nI k48) &&& 31)))), (8, .int (nI k48)), (7, .int x48_7), (6, .int x48_6), (4, .int (nI k29)), (3, .int (nI wy)), (0, .ref o), (1, .long (Int64.ofNat sv))]) hx hb dX8_doesAll_78 hl (by decide) rfl (fun ls hl => ?_)
                      refine lv_iload hx hb dX8_doesAll_80 (lv_at hl 3 rfl) ?_
                      refine lv_iload hx hb dX8_doesAll_82 (lv_at hl 2 rfl) ?_
                      refine lv_iconst (v := (nI 3)) hx hb dX8_doesAll_84 (by decide +kernel) ?_
                      refine lv_irem hx hb dX8_doesAll_85 (by decide +kernel) ?_
                      refine lv_iconst (v := (nI 2)) hx hb dX8_doesAll_86 (by decide +kernel) ?_
                      refine lv_icmp_ne (tgt := 97) hx hb dX8_doesAll_87 (by decide) (fun c_26 => ?_) (fun c_26 => ?_)
                      · skip
                        refine lv_iconst (v := (nI 0)) hx hb dX8_doesAll_97 (by decide +kernel) ?_
                        refine lv_ior hx hb dX8_doesAll_98 ?_
                        refine lv_istore (lv' := [(6, .int (x48_6 ||| (nI 0))), (5, .int (x48_5 ||| ((nI 1) <<< ((nI k48) &&& 31)))), (8, .int (nI k48)), (7, .int x48_7), (4, .int (nI k29)), (3, .int (nI wy)), (0, .ref o), (1, .long (Int64.ofNat sv))]) hx hb dX8_doesAll_99 hl (by decide) rfl (fun ls hl => ?_)
                        refine lv_iload hx hb dX8_doesAll_101 (lv_at hl 3 rfl) ?_
                        refine lv_iconst (v := (nI 3)) hx hb dX8_doesAll_103 (by decide +kernel) ?_
                        refine lv_idiv hx hb dX8_doesAll_104 (by decide +kernel) ?_
                        refine lv_istore (lv' := [(7, .int (x48_7 / (nI 3))), (6, .int (x48_6 ||| (nI 0))), (5, .int (x48_5 ||| ((nI 1) <<< ((nI k48) &&& 31)))), (8, .int (nI k48)), (4, .int (nI k29)), (3, .int (nI wy)), (0, .ref o), (1, .long (Int64.ofNat sv))]) hx hb dX8_doesAll_105 hl (by decide) rfl (fun ls hl => ?_)
                        refine lv_iinc (v := (nI (k48 + 1))) (lv' := [(8, .int (nI (k48 + 1))), (7, .int (x48_7 / (nI 3))), (6, .int (x48_6 ||| (nI 0))), (5, .int (x48_5 ||| ((nI 1) <<< ((nI k48) &&& 31)))), (4, .int (nI k29)), (3, .int (nI wy)), (0, .ref o), (1, .long (Int64.ofNat sv))]) hx hb dX8_doesAll_107 hl (k := 3) rfl (nI_1 _) (by decide) rfl (fun ls hl => ?_)
                        refine lv_goto (tgt := 48) hx hb dX8_doesAll_110 (by decide) ?_
                        exact ih_48 (k48 + 1) (x48_7 / (nI 3)) (x48_6 ||| (nI 0)) (x48_5 ||| ((nI 1) <<< ((nI k48) &&& 31))) (by omega) (by omega) _ _ _ V (lv_sub hl [0, 1, 2, 3, 4, 5, 6, 7] rfl)
                      · skip
                        refine lv_iconst (v := (nI 1)) hx hb dX8_doesAll_90 (by decide +kernel) ?_
                        refine lv_iload hx hb dX8_doesAll_91 (lv_at hl 1 rfl) ?_
                        refine lv_ishl hx hb dX8_doesAll_93 ?_
                        refine lv_goto (tgt := 98) hx hb dX8_doesAll_94 (by decide) ?_
                        refine lv_ior hx hb dX8_doesAll_98 ?_
                        refine lv_istore (lv' := [(6, .int (x48_6 ||| ((nI 1) <<< ((nI k48) &&& 31)))), (5, .int (x48_5 ||| ((nI 1) <<< ((nI k48) &&& 31)))), (8, .int (nI k48)), (7, .int x48_7), (4, .int (nI k29)), (3, .int (nI wy)), (0, .ref o), (1, .long (Int64.ofNat sv))]) hx hb dX8_doesAll_99 hl (by decide) rfl (fun ls hl => ?_)
                        refine lv_iload hx hb dX8_doesAll_101 (lv_at hl 3 rfl) ?_
                        refine lv_iconst (v := (nI 3)) hx hb dX8_doesAll_103 (by decide +kernel) ?_
                        refine lv_idiv hx hb dX8_doesAll_104 (by decide +kernel) ?_
                        refine lv_istore (lv' := [(7, .int (x48_7 / (nI 3))), (6, .int (x48_6 ||| ((nI 1) <<< ((nI k48) &&& 31)))), (5, .int (x48_5 ||| ((nI 1) <<< ((nI k48) &&& 31)))), (8, .int (nI k48)), (4, .int (nI k29)), (3, .int (nI wy)), (0, .ref o), (1, .long (Int64.ofNat sv))]) hx hb dX8_doesAll_105 hl (by decide) rfl (fun ls hl => ?_)
                        refine lv_iinc (v := (nI (k48 + 1))) (lv' := [(8, .int (nI (k48 + 1))), (7, .int (x48_7 / (nI 3))), (6, .int (x48_6 ||| ((nI 1) <<< ((nI k48) &&& 31)))), (5, .int (x48_5 ||| ((nI 1) <<< ((nI k48) &&& 31)))), (4, .int (nI k29)), (3, .int (nI wy)), (0, .ref o), (1, .long (Int64.ofNat sv))]) hx hb dX8_doesAll_107 hl (k := 3) rfl (nI_1 _) (by decide) rfl (fun ls hl => ?_)
                        refine lv_goto (tgt := 48) hx hb dX8_doesAll_110 (by decide) ?_
                        exact ih_48 (k48 + 1) (x48_7 / (nI 3)) (x48_6 ||| ((nI 1) <<< ((nI k48) &&& 31))) (x48_5 ||| ((nI 1) <<< ((nI k48) &&& 31))) (by omega) (by omega) _ _ _ V (lv_sub hl [0, 1, 2, 3, 4, 5, 6, 7] rfl)
              exact L_5 _ 0 (nI k29) (nI 0) (nI 0) (by omega) (Nat.lt_succ_self _) _ _ _ V (lv_sub hl [0, 1, 2, 3, 4, 5, 6, 7] rfl)
        exact L_3 _ 0 sm w16 fh fs fc fa (by omega) (by assumption) (by assumption) (by assumption) (by omega) (Nat.lt_succ_self _) _ _ _ V (lv_sub hl [0, 1, 2, 3] rfl)
      · skip
        have c_2 := b_nle (by omega) (by omega) c_2
        refine lv_iload_n hx hb dX8_doesAll_16 rfl (lv_at hl 1 rfl) ?_
        refine lv_iconst (v := (nI 3)) hx hb dX8_doesAll_17 (by decide +kernel) ?_
        refine lv_imul hx hb dX8_doesAll_18 ?_
        refine g_vi (y := (nI (wy * 3))) (pk_mul _ _) ?_
        refine lv_istore_n (lv' := [(3, .int (nI (wy * 3))), (4, .int (nI k5)), (0, .ref o), (1, .long (Int64.ofNat sv))]) hx hb dX8_doesAll_19 rfl hl (by decide) rfl (fun ls hl => ?_)
        refine lv_iinc (v := (nI (k5 + 1))) (lv' := [(4, .int (nI (k5 + 1))), (3, .int (nI (wy * 3))), (0, .ref o), (1, .long (Int64.ofNat sv))]) hx hb dX8_doesAll_20 hl (k := 1) rfl (nI_1 _) (by decide) rfl (fun ls hl => ?_)
        refine lv_goto (tgt := 5) hx hb dX8_doesAll_23 (by decide) ?_
        exact ih_5 (k5 + 1) (wy * 3) (by omega) (by omega) (by omega) _ _ _ V (lv_sub hl [0, 1, 2, 3] rfl)
  exact L_1 _ 0 1 (by omega) (Or.inl ⟨rfl, rfl⟩) (Nat.lt_succ_self _) _ _ _ V (lv_sub hl [0, 1, 2, 3] rfl)

def q_m_soonest (T : Nat → ClassId) (n : Nat) (o : Nat) (w0 : Int32) (g1 : Nat) (g2 : Nat) (g3 : Nat) (g4 : Nat) (tp : Nat) (w6 : Int32) (w7 : Int32) (w8 : Int32) (w9 : Int32) (w10 : Int32) (w11 : Int32) (w12 : Int32) (w13 : Int32) (w14 : Int32) (g15 : Nat) (w16 : Int32) (g17 : Nat) (w18 : Int32) (w19 : Int32) (g20 : Nat) (w21 : Int32) (g22 : Nat) (g23 : Nat) (g24 : Nat) (w25 : Int32) (w26 : Int32) (w27 : Int32) (g28 : Nat) (g29 : Nat) (w30 : Int32) (g31 : Nat) (g32 : Nat) (g33 : Nat) (fa : Nat → Int32) (fh : Nat → Int32) (fk : Nat → Int32) (fs : Nat → Int64) (fc : Nat → Int32) : Option Value → va_W → Prop := fun rr ww => (∃ (z : Int32) (sq : Int32) (bm : Int32) (gh : Nat → Int32) (gk : Nat → Int32) (gs : Nat → Int64) (gt : Nat → Int32), rr = some (.int z) ∧ ww = [(o, .inr (8, [.int (nI 0), .ref g1, .ref g2, .ref g3, .ref g4, .int (nI tp), .int w6, .int w7, .int w8, .int w9, .int w10, .int w11, .int w12, .int w13, .int w14, .ref g15, .int bm, .ref g17, .int w18, .int w19, .ref g20, .int w21, .ref g22, .ref g23, .ref g24, .int sq, .int w26, .int w27, .ref g28, .ref g29, .int w30, .ref g31, .ref g32, .ref g33])), (g1, .inl (T 0, 282, .inl fa)), (g15, .inl (T 0, 10, .inl gh)), (g17, .inl (T 0, 94, .inl gk)), (g23, .inl (T 1, 3001, .inr (.inl gs))), (g24, .inl (T 0, 8192, .inl gt))])
set_option maxHeartbeats 4000000 in
set_option maxRecDepth 100000 in
theorem m_soonest (l : Launch) (D : va_G) (T : Nat → ClassId) (n : Nat) (o : Nat) (w0 : Int32) (g1 : Nat) (g2 : Nat) (g3 : Nat) (g4 : Nat) (tp : Nat) (w6 : Int32) (w7 : Int32) (w8 : Int32) (w9 : Int32) (w10 : Int32) (w11 : Int32) (w12 : Int32) (w13 : Int32) (w14 : Int32) (g15 : Nat) (w16 : Int32) (g17 : Nat) (w18 : Int32) (w19 : Int32) (g20 : Nat) (w21 : Int32) (g22 : Nat) (g23 : Nat) (g24 : Nat) (w25 : Int32) (w26 : Int32) (w27 : Int32) (g28 : Nat) (g29 : Nat) (w30 : Int32) (g31 : Nat) (g32 : Nat) (g33 : Nat) (fa : Nat → Int32) (fh : Nat → Int32) (fk : Nat → Int32) (fs : Nat → Int64) (fc : Nat → Int32) (h_a : MI n fa) : Ct l yX8_soonest cX8_soonest 6 (some .int) 4 0 0 D T [.ref o] [(o, .inr (8, [.int w0, .ref g1, .ref g2, .ref g3, .ref g4, .int (nI tp), .int w6, .int w7, .int w8, .int w9, .int w10, .int w11, .int w12, .int w13, .int w14, .ref g15, .int w16, .ref g17, .int w18, .int w19, .ref g20, .int w21, .ref g22, .ref g23, .ref g24, .int w25, .int w26, .int w27, .ref g28, .ref g29, .int w30, .ref g31, .ref g32, .ref g33])), (g1, .inl (T 0, 282, .inl fa)), (g15, .inl (T 0, 10, .inl fh)), (g17, .inl (T 0, 94, .inl fk)), (g23, .inl (T 1, 3001, .inr (.inl fs))), (g24, .inl (T 0, 8192, .inl fc))] (q_m_soonest T n o w0 g1 g2 g3 g4 tp w6 w7 w8 w9 w10 w11 w12 w13 w14 g15 w16 g17 w18 w19 g20 w21 g22 g23 g24 w25 w26 w27 g28 g29 w30 g31 g32 g33 fa fh fk fs fc) := by
  refine Ct.of (cc := cX8_soonest) (maxL := 6) (ret := (some .int)) (by decide) (Nat.le_of_ble_eq_true rfl) ?_
  intro p e s m args below meth c A ls hC hnm V hl
  obtain ⟨hx, hb, hr, hml, hown, hts, hlocks⟩ := id hC
  generalize hH : s.heap = H at V ⊢
  clear hH
  have hl : lv_has ls 6 [(0, .ref o)] := hl
  generalize hlo : ([] : List Loc) = locs at V ⊢
  clear hlo
  have ms0 := ms_rf h_a
  have hn10 := h_a.1
  refine lv_aload_n hx hb dX8_soonest_0 rfl (lv_at hl 0 rfl) ?_
  refine lv_iconst (v := (nI 0)) hx hb dX8_soonest_1 (by decide +kernel) ?_
  refine g_put hC V (ci := 8) uwX8 tyX8 tyX8_ok nmX8 0 rfl rfl 0 (by decide) w_912 rfl rfl rfl rfl (Nat.le_of_ble_eq_true rfl) (ws' := [(o, .inr (8, [.int (nI 0), .ref g1, .ref g2, .ref g3, .ref g4, .int (nI tp), .int w6, .int w7, .int w8, .int w9, .int w10, .int w11, .int w12, .int w13, .int w14, .ref g15, .int w16, .ref g17, .int w18, .int w19, .ref g20, .int w21, .ref g22, .ref g23, .ref g24, .int w25, .int w26, .int w27, .ref g28, .ref g29, .int w30, .ref g31, .ref g32, .ref g33])), (g1, .inl (T 0, 282, .inl fa)), (g15, .inl (T 0, 10, .inl fh)), (g17, .inl (T 0, 94, .inl fk)), (g23, .inl (T 1, 3001, .inr (.inl fs))), (g24, .inl (T 0, 8192, .inl fc))]) rfl dX8_soonest_2 (fun H locs V => ?_)
  refine lv_aload_n hx hb dX8_soonest_5 rfl (lv_at hl 0 rfl) ?_
  refine g_get hC V (ci := 8) uwX8 0 rfl rfl 1 (by decide) w_913 rfl rfl dX8_soonest_6 ?_
  refine lv_iconst (v := (nI 0)) hx hb dX8_soonest_9 (by decide +kernel) ?_
  refine g_iald hC V 1 rfl (vp_in_nI (by decide) (by decide)) (v := (nI n)) (by rw [nI_clamp (by decide)]; first | rfl | exact h_a.2.1 | exact hf66.1.2.1 | exact hf134.1.2.1 | exact hf156.1.2.1) dX8_soonest_10 ?_
  refine lv_iconst (v := (nI 3)) hx hb dX8_soonest_11 (by decide +kernel) ?_
  refine lv_icmp_le (tgt := 18) hx hb dX8_soonest_12 (by decide) (fun c_1 => ?_) (fun c_1 => ?_)
  · skip
    have c_1 := b_le (by omega) (by omega) c_1
    refine lv_aload_n hx hb dX8_soonest_18 rfl (lv_at hl 0 rfl) ?_
    refine g_callVU (nA := 0) hC V hl.1 (m_doneMany l D T n o (nI 0) g1 g2 g3 g4 tp w6 w7 w8 w9 w10 w11 w12 w13 w14 g15 w16 g17 w18 w19 g20 w21 g22 g23 g24 w25 w26 w27 g28 g29 w30 g31 g32 g33 fa h_a) w_1158 w_1160 w_s56 w_9 w_1161 (by decide +kernel) rfl ⟨(Nat.le_of_ble_eq_true rfl), (Nat.le_of_ble_eq_true rfl)⟩ 0 (ci := 8) rfl rfl [0, 1] rfl rfl (Nat.le_of_ble_eq_true rfl) dX8_soonest_19 ⟨(Nat.le_of_ble_eq_true rfl), (Nat.le_of_ble_eq_true rfl)⟩ rfl (fun r w1 H locs hQ V => ?_)
    obtain ⟨z_2, rfl, rfl⟩ := hQ
    have V : gW D T A s [(o, .inr (8, [.int (nI 0), .ref g1, .ref g2, .ref g3, .ref g4, .int (nI tp), .int w6, .int w7, .int w8, .int w9, .int w10, .int w11, .int w12, .int w13, .int w14, .ref g15, .int w16, .ref g17, .int w18, .int w19, .ref g20, .int w21, .ref g22, .ref g23, .ref g24, .int w25, .int w26, .int w27, .ref g28, .ref g29, .int w30, .ref g31, .ref g32, .ref g33])), (g1, .inl (T 0, 282, .inl fa)), (g15, .inl (T 0, 10, .inl fh)), (g17, .inl (T 0, 94, .inl fk)), (g23, .inl (T 1, 3001, .inr (.inl fs))), (g24, .inl (T 0, 8192, .inl fc))] H locs := V _ [0, 0] rfl rfl rfl (by decide +kernel) rfl
    show W p l e _ s m args below meth c H locs _ _ _ (F0 m 22 ls [.int z_2])
    refine lv_aload_n hx hb dX8_soonest_22 rfl (lv_at hl 0 rfl) ?_
    refine g_get hC V (ci := 8) uwX8 0 rfl rfl 1 (by decide) w_913 rfl rfl dX8_soonest_23 ?_
    refine lv_iconst (v := (nI 0)) hx hb dX8_soonest_26 (by decide +kernel) ?_
    refine g_iald hC V 1 rfl (vp_in_nI (by decide) (by decide)) (v := (nI n)) (by rw [nI_clamp (by decide)]; first | rfl | exact h_a.2.1 | exact hf66.1.2.1 | exact hf134.1.2.1 | exact hf156.1.2.1) dX8_soonest_27 ?_
    refine lv_icmp_ne (tgt := 33) hx hb dX8_soonest_28 (by decide) (fun c_3 => ?_) (fun c_3 => ?_)
    · skip
      refine lv_aload_n hx hb dX8_soonest_33 rfl (lv_at hl 0 rfl) ?_
      refine g_callVU (nA := 0) hC V hl.1 (m_keeps l D T o (nI 0) g1 g2 g3 g4 tp w6 w7 w8 w9 w10 w11 w12 w13 w14 g15 w16 g17 w18 w19 g20 w21 g22 g23 g24 w25 w26 w27 g28 g29 w30 g31 g32 g33 fa fk) w_1146 w_1148 w_s53 w_9 w_1149 (by decide +kernel) rfl ⟨(Nat.le_of_ble_eq_true rfl), (Nat.le_of_ble_eq_true rfl)⟩ 0 (ci := 8) rfl rfl [0, 1, 3] rfl rfl (Nat.le_of_ble_eq_true rfl) dX8_soonest_34 ⟨(Nat.le_of_ble_eq_true rfl), (Nat.le_of_ble_eq_true rfl)⟩ rfl (fun r w1 H locs hQ V => ?_)
      obtain ⟨gk_4, rfl, rfl, f_5⟩ := hQ
      have V : gW D T A s [(o, .inr (8, [.int (nI 0), .ref g1, .ref g2, .ref g3, .ref g4, .int (nI tp), .int w6, .int w7, .int w8, .int w9, .int w10, .int w11, .int w12, .int w13, .int w14, .ref g15, .int w16, .ref g17, .int w18, .int w19, .ref g20, .int w21, .ref g22, .ref g23, .ref g24, .int w25, .int w26, .int w27, .ref g28, .ref g29, .int w30, .ref g31, .ref g32, .ref g33])), (g1, .inl (T 0, 282, .inl fa)), (g15, .inl (T 0, 10, .inl fh)), (g17, .inl (T 0, 94, .inl gk_4)), (g23, .inl (T 1, 3001, .inr (.inl fs))), (g24, .inl (T 0, 8192, .inl fc))] H locs := V _ [0, 0, 1] rfl rfl rfl (by decide +kernel) rfl
      show W p l e _ s m args below meth c H locs _ _ _ (F0 m 37 ls [])
      refine lv_iconst (v := (nI 0)) hx hb dX8_soonest_37 (by decide +kernel) ?_
      refine lv_istore_n (lv' := [(1, .int (nI 0)), (0, .ref o)]) hx hb dX8_soonest_38 rfl hl (by decide) rfl (fun ls hl => ?_)
      have L_6 : ∀ (fu : Nat) (k39 : Nat) (fz39 : Nat → Int32), k39 ≤ 8192 → (∀ i, i < k39 → fz39 i = nI 0) → 8192 - k39 < fu → ∀ (H : Heap) (locs : List Loc) (ls : Array Slot), gW D T A s [(o, .inr (8, [.int (nI 0), .ref g1, .ref g2, .ref g3, .ref g4, .int (nI tp), .int w6, .int w7, .int w8, .int w9, .int w10, .int w11, .int w12, .int w13, .int w14, .ref g15, .int w16, .ref g17, .int w18, .int w19, .ref g20, .int w21, .ref g22, .ref g23, .ref g24, .int w25, .int w26, .int w27, .ref g28, .ref g29, .int w30, .ref g31, .ref g32, .ref g33])), (g1, .inl (T 0, 282, .inl fa)), (g15, .inl (T 0, 10, .inl fh)), (g17, .inl (T 0, 94, .inl gk_4)), (g23, .inl (T 1, 3001, .inr (.inl fs))), (g24, .inl (T 0, 8192, .inl fz39))] H locs → lv_has ls 6 [(1, .int (nI k39)), (0, .ref o)] → W p l e (rmD 4 0 0) s m args below meth c H locs 0 0 (MQ below (gQ D A (q_m_soonest T n o w0 g1 g2 g3 g4 tp w6 w7 w8 w9 w10 w11 w12 w13 w14 g15 w16 g17 w18 w19 g20 w21 g22 g23 g24 w25 w26 w27 g28 g29 w30 g31 g32 g33 fa fh fk fs fc)) args s 0 0 A) (F0 m 39 ls []) := by
        intro fu_39
        induction fu_39 with
        | zero => intro k39 fz39 hk39 hfz hmu; exact absurd hmu (Nat.not_lt_zero _)
        | succ fu_39 ih_39 =>
          intro k39 fz39 hk39 hfz hmu_39 H locs ls V hl
          refine lv_iload_n hx hb dX8_soonest_39 rfl (lv_at hl 0 rfl) ?_
          refine lv_sipush (v := (nI 8192)) hx hb dX8_soonest_40 (by decide +kernel) ?_
          refine lv_icmp_ge (tgt := 59) hx hb dX8_soonest_43 (by decide) (fun c_7 => ?_) (fun c_7 => ?_)
          · skip
            have c_7 := b_le (by omega) (by omega) c_7
            have hz0 : TI 0 fz39 := ti_zero (fun i h => hfz i (by omega))
            have hs0 : SL 0 fs := fun i h => absurd h (Nat.not_lt_zero _)
            have h_3 : n ≤ 3 := by omega
            refine lv_aload_n hx hb dX8_soonest_59 rfl (lv_at hl 1 rfl) ?_
            refine lv_iconst (v := (nI 0)) hx hb dX8_soonest_60 (by decide +kernel) ?_
            refine g_put hC V (ci := 8) uwX8 tyX8 tyX8_ok nmX8 0 rfl rfl 25 (by decide) w_937 rfl rfl rfl rfl (Nat.le_of_ble_eq_true rfl) (ws' := [(o, .inr (8, [.int (nI 0), .ref g1, .ref g2, .ref g3, .ref g4, .int (nI tp), .int w6, .int w7, .int w8, .int w9, .int w10, .int w11, .int w12, .int w13, .int w14, .ref g15, .int w16, .ref g17, .int w18, .int w19, .ref g20, .int w21, .ref g22, .ref g23, .ref g24, .int (nI 0), .int w26, .int w27, .ref g28, .ref g29, .int w30, .ref g31, .ref g32, .ref g33])), (g1, .inl (T 0, 282, .inl fa)), (g15, .inl (T 0, 10, .inl fh)), (g17, .inl (T 0, 94, .inl gk_4)), (g23, .inl (T 1, 3001, .inr (.inl fs))), (g24, .inl (T 0, 8192, .inl fz39))]) rfl dX8_soonest_61 (fun H locs V => ?_)
            refine lv_iconst (v := (nI 0)) hx hb dX8_soonest_64 (by decide +kernel) ?_
            refine lv_istore_n (lv' := [(1, .int (nI 0)), (0, .ref o)]) hx hb dX8_soonest_65 rfl hl (by decide) rfl (fun ls hl => ?_)
            have L_8 : ∀ (fu : Nat) (k66 : Nat) (f66 : Nat → Int32), k66 ≤ n → MS n fa f66 → n - k66 < fu → ∀ (H : Heap) (locs : List Loc) (ls : Array Slot), gW D T A s [(o, .inr (8, [.int (nI 0), .ref g1, .ref g2, .ref g3, .ref g4, .int (nI tp), .int w6, .int w7, .int w8, .int w9, .int w10, .int w11, .int w12, .int w13, .int w14, .ref g15, .int w16, .ref g17, .int w18, .int w19, .ref g20, .int w21, .ref g22, .ref g23, .ref g24, .int (nI 0), .int w26, .int w27, .ref g28, .ref g29, .int w30, .ref g31, .ref g32, .ref g33])), (g1, .inl (T 0, 282, .inl f66)), (g15, .inl (T 0, 10, .inl fh)), (g17, .inl (T 0, 94, .inl gk_4)), (g23, .inl (T 1, 3001, .inr (.inl fs))), (g24, .inl (T 0, 8192, .inl fz39))] H locs → lv_has ls 6 [(1, .int (nI k66)), (0, .ref o)] → W p l e (rmD 4 0 0) s m args below meth c H locs 0 0 (MQ below (gQ D A (q_m_soonest T n o w0 g1 g2 g3 g4 tp w6 w7 w8 w9 w10 w11 w12 w13 w14 g15 w16 g17 w18 w19 g20 w21 g22 g23 g24 w25 w26 w27 g28 g29 w30 g31 g32 g33 fa fh fk fs fc)) args s 0 0 A) (F0 m 66 ls []) := by
              intro fu_66
              induction fu_66 with
              | zero => intro k66 f66 hk66 hf66 hmu; exact absurd hmu (Nat.not_lt_zero _)
              | succ fu_66 ih_66 =>
                intro k66 f66 hk66 hf66 hmu_66 H locs ls V hl
                refine lv_iload_n hx hb dX8_soonest_66 rfl (lv_at hl 0 rfl) ?_
                refine lv_aload_n hx hb dX8_soonest_67 rfl (lv_at hl 1 rfl) ?_
                refine g_get hC V (ci := 8) uwX8 0 rfl rfl 1 (by decide) w_913 rfl rfl dX8_soonest_68 ?_
                refine lv_iconst (v := (nI 0)) hx hb dX8_soonest_71 (by decide +kernel) ?_
                refine g_iald hC V 1 rfl (vp_in_nI (by decide) (by decide)) (v := (nI n)) (by rw [nI_clamp (by decide)]; first | rfl | exact h_a.2.1 | exact hf66.1.2.1 | exact hf134.1.2.1 | exact hf156.1.2.1) dX8_soonest_72 ?_
                refine lv_icmp_ge (tgt := 120) hx hb dX8_soonest_73 (by decide) (fun c_9 => ?_) (fun c_9 => ?_)
                · skip
                  have c_9 := b_le (by omega) (by omega) c_9
                  refine lv_aload_n hx hb dX8_soonest_120 rfl (lv_at hl 1 rfl) ?_
                  refine lv_aload_n hx hb dX8_soonest_121 rfl (lv_at hl 1 rfl) ?_
                  refine g_callVU (nA := 0) hC V hl.1 (m_state l D T n o (nI 0) g1 g2 g3 g4 tp w6 w7 w8 w9 w10 w11 w12 w13 w14 g15 w16 g17 w18 w19 g20 w21 g22 g23 g24 (nI 0) w26 w27 g28 g29 w30 g31 g32 g33 f66 hf66.1 (by first | assumption | omega)) w_1281 w_1283 w_s69 w_9 w_1284 (by decide +kernel) rfl ⟨(Nat.le_of_ble_eq_true rfl), (Nat.le_of_ble_eq_true rfl)⟩ 0 (ci := 8) rfl rfl [0, 1] rfl rfl (Nat.le_of_ble_eq_true rfl) dX8_soonest_122 ⟨(Nat.le_of_ble_eq_true rfl), (Nat.le_of_ble_eq_true rfl)⟩ rfl (fun r w1 H locs hQ V => ?_)
                  obtain ⟨r_10, rfl, rfl, f_11⟩ := hQ
                  have V : gW D T A s [(o, .inr (8, [.int (nI 0), .ref g1, .ref g2, .ref g3, .ref g4, .int (nI tp), .int w6, .int w7, .int w8, .int w9, .int w10, .int w11, .int w12, .int w13, .int w14, .ref g15, .int w16, .ref g17, .int w18, .int w19, .ref g20, .int w21, .ref g22, .ref g23, .ref g24, .int (nI 0), .int w26, .int w27, .ref g28, .ref g29, .int w30, .ref g31, .ref g32, .ref g33])), (g1, .inl (T 0, 282, .inl f66)), (g15, .inl (T 0, 10, .inl fh)), (g17, .inl (T 0, 94, .inl gk_4)), (g23, .inl (T 1, 3001, .inr (.inl fs))), (g24, .inl (T 0, 8192, .inl fz39))] H locs := V _ [0, 0] rfl rfl rfl (by decide +kernel) rfl
                  show W p l e _ s m args below meth c H locs _ _ _ (F0 m 125 ls [.long (Int64.ofNat r_10), .ref o])
                  have hr_ : r_10 < 549755813889 := Nat.lt_of_lt_of_le f_11 (Nat.le_trans (stB_le h_3) (by decide))
                  refine g_callVU (nA := 1) hC V hl.1 (m_meets l D T r_10 o (nI 0) g1 g2 g3 g4 tp w6 w7 w8 w9 w10 w11 w12 w13 w14 g15 w16 g17 w18 w19 g20 w21 g22 g23 g24 0 w26 w27 g28 g29 w30 g31 g32 g33 fs fz39 (by first | assumption | omega) (by first | assumption | omega) (by first | assumption | omega)) w_1286 w_1288 w_s70 w_9 w_1289 (by decide +kernel) rfl ⟨(Nat.le_of_ble_eq_true rfl), (Nat.le_of_ble_eq_true rfl)⟩ 0 (ci := 8) rfl rfl [0, 4, 5] rfl rfl (Nat.le_of_ble_eq_true rfl) dX8_soonest_125 ⟨(Nat.le_of_ble_eq_true rfl), (Nat.le_of_ble_eq_true rfl)⟩ rfl (fun r w1 H locs hQ V => ?_)
                  obtain ⟨sm2_12, gs_13, gt_14, rfl, rfl, f_15, f_16, f_17⟩ := hQ
                  have V : gW D T A s [(o, .inr (8, [.int (nI 0), .ref g1, .ref g2, .ref g3, .ref g4, .int (nI tp), .int w6, .int w7, .int w8, .int w9, .int w10, .int w11, .int w12, .int w13, .int w14, .ref g15, .int w16, .ref g17, .int w18, .int w19, .ref g20, .int w21, .ref g22, .ref g23, .ref g24, .int (nI sm2_12), .int w26, .int w27, .ref g28, .ref g29, .int w30, .ref g31, .ref g32, .ref g33])), (g1, .inl (T 0, 282, .inl f66)), (g15, .inl (T 0, 10, .inl fh)), (g17, .inl (T 0, 94, .inl gk_4)), (g23, .inl (T 1, 3001, .inr (.inl gs_13))), (g24, .inl (T 0, 8192, .inl gt_14))] H locs := V _ [0, 3, 0] rfl rfl rfl (by decide +kernel) rfl
                  show W p l e _ s m args below meth c H locs _ _ _ (F0 m 128 ls [])
                  refine lv_iconst (v := (nI 0)) hx hb dX8_soonest_128 (by decide +kernel) ?_
                  refine lv_istore_n (lv' := [(1, .int (nI 0)), (0, .ref o)]) hx hb dX8_soonest_129 rfl hl (by decide) rfl (fun ls hl => ?_)
                  refine lv_iconst (v := (-1)) hx hb dX8_soonest_130 (by decide +kernel) ?_
                  refine lv_istore_n (lv' := [(2, .int (-1)), (1, .int (nI 0)), (0, .ref o)]) hx hb dX8_soonest_131 rfl hl (by decide) rfl (fun ls hl => ?_)
                  refine lv_iconst (v := (nI 1)) hx hb dX8_soonest_132 (by decide +kernel) ?_
                  refine lv_istore_n (lv' := [(3, .int (nI 1)), (2, .int (-1)), (1, .int (nI 0)), (0, .ref o)]) hx hb dX8_soonest_133 rfl hl (by decide) rfl (fun ls hl => ?_)
                  have L_18 : ∀ (fu : Nat) (fr_ : Nat) (x134_3 : Int32) (x134_2 : Int32) (sn_ : Nat) (bv : Int32) (gx : Nat → Int32) (gy : Nat → Int64) (gz : Nat → Int32) (f134 : Nat → Int32), MS n fa f134 → TI sn_ gz → SL sn_ gy → fr_ ≤ sn_ → 3002 - fr_ < fu → ∀ (H : Heap) (locs : List Loc) (ls : Array Slot), gW D T A s [(o, .inr (8, [.int (nI 0), .ref g1, .ref g2, .ref g3, .ref g4, .int (nI tp), .int w6, .int w7, .int w8, .int w9, .int w10, .int w11, .int w12, .int w13, .int w14, .ref g15, .int bv, .ref g17, .int w18, .int w19, .ref g20, .int w21, .ref g22, .ref g23, .ref g24, .int (nI sn_), .int w26, .int w27, .ref g28, .ref g29, .int w30, .ref g31, .ref g32, .ref g33])), (g1, .inl (T 0, 282, .inl f134)), (g15, .inl (T 0, 10, .inl gx)), (g17, .inl (T 0, 94, .inl gk_4)), (g23, .inl (T 1, 3001, .inr (.inl gy))), (g24, .inl (T 0, 8192, .inl gz))] H locs → lv_has ls 6 [(3, .int x134_3), (2, .int x134_2), (1, .int (nI fr_)), (0, .ref o)] → W p l e (rmD 4 0 0) s m args below meth c H locs 0 0 (MQ below (gQ D A (q_m_soonest T n o w0 g1 g2 g3 g4 tp w6 w7 w8 w9 w10 w11 w12 w13 w14 g15 w16 g17 w18 w19 g20 w21 g22 g23 g24 w25 w26 w27 g28 g29 w30 g31 g32 g33 fa fh fk fs fc)) args s 0 0 A) (F0 m 134 ls []) := by
                    intro fu_134
                    induction fu_134 with
                    | zero => intro fr_ x134_3 x134_2 sn_ bv gx gy gz f134 hf134 hti hsl hfr hmu; exact absurd hmu (Nat.not_lt_zero _)
                    | succ fu_134 ih_134 =>
                      intro fr_ x134_3 x134_2 sn_ bv gx gy gz f134 hf134 hti hsl hfr hmu_134 H locs ls V hl
                      have hsb := hti.1
                      refine lv_iload_n hx hb dX8_soonest_134 rfl (lv_at hl 1 rfl) ?_
                      refine lv_iconst (v := (-1)) hx hb dX8_soonest_135 (by decide +kernel) ?_
                      refine lv_icmp_ne (tgt := 217) hx hb dX8_soonest_136 (by decide) (fun c_19 => ?_) (fun c_19 => ?_)
                      · skip
                        refine lv_aload_n hx hb dX8_soonest_217 rfl (lv_at hl 3 rfl) ?_
                        refine g_callVU (nA := 0) hC V hl.1 (m_isAgain l D T o (nI 0) g1 g2 g3 g4 tp w6 w7 w8 w9 w10 w11 w12 w13 w14 g15 bv g17 w18 w19 g20 w21 g22 g23 g24 (nI sn_) w26 w27 g28 g29 w30 g31 g32 g33 f134 gk_4) w_1162 w_1164 w_s57 w_9 w_1165 (by decide +kernel) rfl ⟨(Nat.le_of_ble_eq_true rfl), (Nat.le_of_ble_eq_true rfl)⟩ 0 (ci := 8) rfl rfl [0, 1, 3] rfl rfl (Nat.le_of_ble_eq_true rfl) dX8_soonest_218 ⟨(Nat.le_of_ble_eq_true rfl), (Nat.le_of_ble_eq_true rfl)⟩ rfl (fun r w1 H locs hQ V => ?_)
                        obtain ⟨ga_20, rfl, rfl, f_21, f_22⟩ := hQ
                        have V : gW D T A s [(o, .inr (8, [.int (nI 0), .ref g1, .ref g2, .ref g3, .ref g4, .int (nI tp), .int w6, .int w7, .int w8, .int w9, .int w10, .int w11, .int w12, .int w13, .int w14, .ref g15, .int bv, .ref g17, .int w18, .int w19, .ref g20, .int w21, .ref g22, .ref g23, .ref g24, .int (nI sn_), .int w26, .int w27, .ref g28, .ref g29, .int w30, .ref g31, .ref g32, .ref g33])), (g1, .inl (T 0, 282, .inl ga_20)), (g15, .inl (T 0, 10, .inl gx)), (g17, .inl (T 0, 94, .inl gk_4)), (g23, .inl (T 1, 3001, .inr (.inl gy))), (g24, .inl (T 0, 8192, .inl gz))] H locs := V _ [0, 0, 1] rfl rfl rfl (by decide +kernel) rfl
                        show W p l e _ s m args below meth c H locs _ _ _ (F0 m 221 ls [])
                        have ega_20 : ga_20 = fa := funext (fun j => if h : j < 94 then (f_21 j h).trans (f_5 j h) else (f_22 j (by omega)).trans ((by assumption : MS n fa _).2 j (by omega)))
                        rw [ega_20] at V
                        refine lv_iload_n hx hb dX8_soonest_221 rfl (lv_at hl 1 rfl) ?_
                        exact g_iret (Qr := (q_m_soonest T n o w0 g1 g2 g3 g4 tp w6 w7 w8 w9 w10 w11 w12 w13 w14 g15 w16 g17 w18 w19 g20 w21 g22 g23 g24 w25 w26 w27 g28 g29 w30 g31 g32 g33 fa fh fk fs fc)) hC V ⟨(Nat.le_of_ble_eq_true rfl), (Nat.le_of_ble_eq_true rfl)⟩ ⟨x134_2, (nI sn_), bv, gx, gk_4, gy, gz, rfl, rfl⟩ dX8_soonest_222
                      · skip
                        refine lv_iload_n hx hb dX8_soonest_139 rfl (lv_at hl 2 rfl) ?_
                        refine lv_aload_n hx hb dX8_soonest_140 rfl (lv_at hl 3 rfl) ?_
                        refine g_get hC V (ci := 8) uwX8 0 rfl rfl 25 (by decide) w_937 rfl rfl dX8_soonest_141 ?_
                        refine lv_icmp_ge (tgt := 217) hx hb dX8_soonest_144 (by decide) (fun c_23 => ?_) (fun c_23 => ?_)
                        · skip
                          have c_23 := b_le (by omega) (by omega) c_23
                          refine lv_aload_n hx hb dX8_soonest_217 rfl (lv_at hl 3 rfl) ?_
                          refine g_callVU (nA := 0) hC V hl.1 (m_isAgain l D T o (nI 0) g1 g2 g3 g4 tp w6 w7 w8 w9 w10 w11 w12 w13 w14 g15 bv g17 w18 w19 g20 w21 g22 g23 g24 (nI sn_) w26 w27 g28 g29 w30 g31 g32 g33 f134 gk_4) w_1162 w_1164 w_s57 w_9 w_1165 (by decide +kernel) rfl ⟨(Nat.le_of_ble_eq_true rfl), (Nat.le_of_ble_eq_true rfl)⟩ 0 (ci := 8) rfl rfl [0, 1, 3] rfl rfl (Nat.le_of_ble_eq_true rfl) dX8_soonest_218 ⟨(Nat.le_of_ble_eq_true rfl), (Nat.le_of_ble_eq_true rfl)⟩ rfl (fun r w1 H locs hQ V => ?_)
                          obtain ⟨ga_24, rfl, rfl, f_25, f_26⟩ := hQ
                          have V : gW D T A s [(o, .inr (8, [.int (nI 0), .ref g1, .ref g2, .ref g3, .ref g4, .int (nI tp), .int w6, .int w7, .int w8, .int w9, .int w10, .int w11, .int w12, .int w13, .int w14, .ref g15, .int bv, .ref g17, .int w18, .int w19, .ref g20, .int w21, .ref g22, .ref g23, .ref g24, .int (nI sn_), .int w26, .int w27, .ref g28, .ref g29, .int w30, .ref g31, .ref g32, .ref g33])), (g1, .inl (T 0, 282, .inl ga_24)), (g15, .inl (T 0, 10, .inl gx)), (g17, .inl (T 0, 94, .inl gk_4)), (g23, .inl (T 1, 3001, .inr (.inl gy))), (g24, .inl (T 0, 8192, .inl gz))] H locs := V _ [0, 0, 1] rfl rfl rfl (by decide +kernel) rfl
                          show W p l e _ s m args below meth c H locs _ _ _ (F0 m 221 ls [])
                          have ega_24 : ga_24 = fa := funext (fun j => if h : j < 94 then (f_25 j h).trans (f_5 j h) else (f_26 j (by omega)).trans ((by assumption : MS n fa _).2 j (by omega)))
                          rw [ega_24] at V
                          refine lv_iload_n hx hb dX8_soonest_221 rfl (lv_at hl 1 rfl) ?_
                          exact g_iret (Qr := (q_m_soonest T n o w0 g1 g2 g3 g4 tp w6 w7 w8 w9 w10 w11 w12 w13 w14 g15 w16 g17 w18 w19 g20 w21 g22 g23 g24 w25 w26 w27 g28 g29 w30 g31 g32 g33 fa fh fk fs fc)) hC V ⟨(Nat.le_of_ble_eq_true rfl), (Nat.le_of_ble_eq_true rfl)⟩ ⟨x134_2, (nI sn_), bv, gx, gk_4, gy, gz, rfl, rfl⟩ dX8_soonest_222
                        · skip
                          have c_23 := b_nle (by omega) (by omega) c_23
                          refine lv_aload_n hx hb dX8_soonest_147 rfl (lv_at hl 3 rfl) ?_
                          refine g_get hC V (ci := 8) uwX8 0 rfl rfl 25 (by decide) w_937 rfl rfl dX8_soonest_148 ?_
                          refine lv_istore (lv' := [(4, .int (nI sn_)), (3, .int x134_3), (2, .int x134_2), (1, .int (nI fr_)), (0, .ref o)]) hx hb dX8_soonest_151 hl (by decide) rfl (fun ls hl => ?_)
                          refine lv_iload_n hx hb dX8_soonest_153 rfl (lv_at hl 3 rfl) ?_
                          refine lv_istore (lv' := [(5, .int (nI fr_)), (4, .int (nI sn_)), (3, .int x134_3), (2, .int x134_2), (1, .int (nI fr_)), (0, .ref o)]) hx hb dX8_soonest_154 hl (by decide) rfl (fun ls hl => ?_)
                          have L_27 : ∀ (fu : Nat) (k156 : Nat) (x156_2 : Int32) (so_ : Nat) (bw : Int32) (gx2 : Nat → Int32) (gy2 : Nat → Int64) (gz2 : Nat → Int32) (f156 : Nat → Int32), k156 ≤ sn_ → MS n fa f156 → TI so_ gz2 → SL so_ gy2 → sn_ ≤ so_ → sn_ - k156 < fu → ∀ (H : Heap) (locs : List Loc) (ls : Array Slot), gW D T A s [(o, .inr (8, [.int (nI 0), .ref g1, .ref g2, .ref g3, .ref g4, .int (nI tp), .int w6, .int w7, .int w8, .int w9, .int w10, .int w11, .int w12, .int w13, .int w14, .ref g15, .int bw, .ref g17, .int w18, .int w19, .ref g20, .int w21, .ref g22, .ref g23, .ref g24, .int (nI so_), .int w26, .int w27, .ref g28, .ref g29, .int w30, .ref g31, .ref g32, .ref g33])), (g1, .inl (T 0, 282, .inl f156)), (g15, .inl (T 0, 10, .inl gx2)), (g17, .inl (T 0, 94, .inl gk_4)), (g23, .inl (T 1, 3001, .inr (.inl gy2))), (g24, .inl (T 0, 8192, .inl gz2))] H locs → lv_has ls 6 [(5, .int (nI k156)), (4, .int (nI sn_)), (3, .int x134_3), (2, .int x156_2), (1, .int (nI fr_)), (0, .ref o)] → W p l e (rmD 4 0 0) s m args below meth c H locs 0 0 (MQ below (gQ D A (q_m_soonest T n o w0 g1 g2 g3 g4 tp w6 w7 w8 w9 w10 w11 w12 w13 w14 g15 w16 g17 w18 w19 g20 w21 g22 g23 g24 w25 w26 w27 g28 g29 w30 g31 g32 g33 fa fh fk fs fc)) args s 0 0 A) (F0 m 156 ls []) := by
                            intro fu_156
                            induction fu_156 with
                            | zero => intro k156 x156_2 so_ bw gx2 gy2 gz2 f156 hk156 hf156 hti2 hsl2 hso hmu; exact absurd hmu (Nat.not_lt_zero _)
                            | succ fu_156 ih_156 =>
                              intro k156 x156_2 so_ bw gx2 gy2 gz2 f156 hk156 hf156 hti2 hsl2 hso hmu_156 H locs ls V hl
                              have hsb2 := hti2.1
                              refine lv_iload hx hb dX8_soonest_156 (lv_at hl 0 rfl) ?_
                              refine lv_iload hx hb dX8_soonest_158 (lv_at hl 1 rfl) ?_
                              refine lv_icmp_ge (tgt := 190) hx hb dX8_soonest_160 (by decide) (fun c_28 => ?_) (fun c_28 => ?_)
                              · skip
                                have c_28 := b_le (by omega) (by omega) c_28
                                refine lv_iload_n hx hb dX8_soonest_190 rfl (lv_at hl 3 rfl) ?_
                                refine lv_iconst (v := (-1)) hx hb dX8_soonest_191 (by decide +kernel) ?_
                                refine lv_icmp_ne (tgt := 208) hx hb dX8_soonest_192 (by decide) (fun c_29 => ?_) (fun c_29 => ?_)
                                · skip
                                  refine lv_iload hx hb dX8_soonest_208 (lv_at hl 1 rfl) ?_
                                  refine lv_istore_n (lv' := [(1, .int (nI sn_)), (5, .int (nI k156)), (4, .int (nI sn_)), (3, .int x134_3), (2, .int x156_2), (0, .ref o)]) hx hb dX8_soonest_210 rfl hl (by decide) rfl (fun ls hl => ?_)
                                  refine lv_iinc (v := (x134_3 + 1)) (lv' := [(3, .int (x134_3 + 1)), (1, .int (nI sn_)), (5, .int (nI k156)), (4, .int (nI sn_)), (2, .int x156_2), (0, .ref o)]) hx hb dX8_soonest_211 hl (k := 3) rfl rfl (by decide) rfl (fun ls hl => ?_)
                                  refine lv_goto (tgt := 134) hx hb dX8_soonest_214 (by decide) ?_
                                  exact ih_134 sn_ (x134_3 + 1) x156_2 so_ bw gx2 gy2 gz2 f156 (by assumption) (by assumption) (by assumption) (by omega) (by omega) _ _ _ V (lv_sub hl [0, 4, 1, 5] rfl)
                                · skip
                                  refine lv_aload_n hx hb dX8_soonest_195 rfl (lv_at hl 5 rfl) ?_
                                  refine g_get hC V (ci := 8) uwX8 0 rfl rfl 25 (by decide) w_937 rfl rfl dX8_soonest_196 ?_
                                  refine lv_sipush (v := (nI 3000)) hx hb dX8_soonest_199 (by decide +kernel) ?_
                                  refine lv_icmp_le (tgt := 208) hx hb dX8_soonest_202 (by decide) (fun c_30 => ?_) (fun c_30 => ?_)
                                  · skip
                                    have c_30 := b_le (by omega) (by omega) c_30
                                    refine lv_iload hx hb dX8_soonest_208 (lv_at hl 1 rfl) ?_
                                    refine lv_istore_n (lv' := [(1, .int (nI sn_)), (5, .int (nI k156)), (4, .int (nI sn_)), (3, .int x134_3), (2, .int x156_2), (0, .ref o)]) hx hb dX8_soonest_210 rfl hl (by decide) rfl (fun ls hl => ?_)
                                    refine lv_iinc (v := (x134_3 + 1)) (lv' := [(3, .int (x134_3 + 1)), (1, .int (nI sn_)), (5, .int (nI k156)), (4, .int (nI sn_)), (2, .int x156_2), (0, .ref o)]) hx hb dX8_soonest_211 hl (k := 3) rfl rfl (by decide) rfl (fun ls hl => ?_)
                                    refine lv_goto (tgt := 134) hx hb dX8_soonest_214 (by decide) ?_
                                    exact ih_134 sn_ (x134_3 + 1) x156_2 so_ bw gx2 gy2 gz2 f156 (by assumption) (by assumption) (by assumption) (by omega) (by omega) _ _ _ V (lv_sub hl [0, 4, 1, 5] rfl)
                                  · skip
                                    have c_30 := b_nle (by omega) (by omega) c_30
                                    refine lv_bipush (v := (-4)) hx hb dX8_soonest_205 (by decide +kernel) ?_
                                    refine lv_istore_n (lv' := [(2, .int (-4)), (5, .int (nI k156)), (4, .int (nI sn_)), (3, .int x134_3), (1, .int (nI fr_)), (0, .ref o)]) hx hb dX8_soonest_207 rfl hl (by decide) rfl (fun ls hl => ?_)
                                    refine lv_iload hx hb dX8_soonest_208 (lv_at hl 2 rfl) ?_
                                    refine lv_istore_n (lv' := [(1, .int (nI sn_)), (2, .int (-4)), (5, .int (nI k156)), (4, .int (nI sn_)), (3, .int x134_3), (0, .ref o)]) hx hb dX8_soonest_210 rfl hl (by decide) rfl (fun ls hl => ?_)
                                    refine lv_iinc (v := (x134_3 + 1)) (lv' := [(3, .int (x134_3 + 1)), (1, .int (nI sn_)), (2, .int (-4)), (5, .int (nI k156)), (4, .int (nI sn_)), (0, .ref o)]) hx hb dX8_soonest_211 hl (k := 4) rfl rfl (by decide) rfl (fun ls hl => ?_)
                                    refine lv_goto (tgt := 134) hx hb dX8_soonest_214 (by decide) ?_
                                    exact ih_134 sn_ (x134_3 + 1) (-4) so_ bw gx2 gy2 gz2 f156 (by assumption) (by assumption) (by assumption) (by omega) (by omega) _ _ _ V (lv_sub hl [0, 2, 1, 5] rfl)
                              · skip
                                have c_28 := b_nle (by omega) (by omega) c_28
                                refine lv_iload_n hx hb dX8_soonest_163 rfl (lv_at hl 3 rfl) ?_
                                refine lv_iconst (v := (-1)) hx hb dX8_soonest_164 (by decide +kernel) ?_
                                refine lv_icmp_ne (tgt := 190) hx hb dX8_soonest_165 (by decide) (fun c_31 => ?_) (fun c_31 => ?_)
                                · skip
                                  refine lv_iload_n hx hb dX8_soonest_190 rfl (lv_at hl 3 rfl) ?_
                                  refine lv_iconst (v := (-1)) hx hb dX8_soonest_191 (by decide +kernel) ?_
                                  refine lv_icmp_ne (tgt := 208) hx hb dX8_soonest_192 (by decide) (fun c_32 => ?_) (fun c_32 => ?_)
                                  · skip
                                    refine lv_iload hx hb dX8_soonest_208 (lv_at hl 1 rfl) ?_
                                    refine lv_istore_n (lv' := [(1, .int (nI sn_)), (5, .int (nI k156)), (4, .int (nI sn_)), (3, .int x134_3), (2, .int x156_2), (0, .ref o)]) hx hb dX8_soonest_210 rfl hl (by decide) rfl (fun ls hl => ?_)
                                    refine lv_iinc (v := (x134_3 + 1)) (lv' := [(3, .int (x134_3 + 1)), (1, .int (nI sn_)), (5, .int (nI k156)), (4, .int (nI sn_)), (2, .int x156_2), (0, .ref o)]) hx hb dX8_soonest_211 hl (k := 3) rfl rfl (by decide) rfl (fun ls hl => ?_)
                                    refine lv_goto (tgt := 134) hx hb dX8_soonest_214 (by decide) ?_
                                    exact ih_134 sn_ (x134_3 + 1) x156_2 so_ bw gx2 gy2 gz2 f156 (by assumption) (by assumption) (by assumption) (by omega) (by omega) _ _ _ V (lv_sub hl [0, 4, 1, 5] rfl)
                                  · skip
                                    refine lv_aload_n hx hb dX8_soonest_195 rfl (lv_at hl 5 rfl) ?_
                                    refine g_get hC V (ci := 8) uwX8 0 rfl rfl 25 (by decide) w_937 rfl rfl dX8_soonest_196 ?_
                                    refine lv_sipush (v := (nI 3000)) hx hb dX8_soonest_199 (by decide +kernel) ?_
                                    refine lv_icmp_le (tgt := 208) hx hb dX8_soonest_202 (by decide) (fun c_33 => ?_) (fun c_33 => ?_)
                                    · skip
                                      have c_33 := b_le (by omega) (by omega) c_33
                                      refine lv_iload hx hb dX8_soonest_208 (lv_at hl 1 rfl) ?_
                                      refine lv_istore_n (lv' := [(1, .int (nI sn_)), (5, .int (nI k156)), (4, .int (nI sn_)), (3, .int x134_3), (2, .int x156_2), (0, .ref o)]) hx hb dX8_soonest_210 rfl hl (by decide) rfl (fun ls hl => ?_)
                                      refine lv_iinc (v := (x134_3 + 1)) (lv' := [(3, .int (x134_3 + 1)), (1, .int (nI sn_)), (5, .int (nI k156)), (4, .int (nI sn_)), (2, .int x156_2), (0, .ref o)]) hx hb dX8_soonest_211 hl (k := 3) rfl rfl (by decide) rfl (fun ls hl => ?_)
                                      refine lv_goto (tgt := 134) hx hb dX8_soonest_214 (by decide) ?_
                                      exact ih_134 sn_ (x134_3 + 1) x156_2 so_ bw gx2 gy2 gz2 f156 (by assumption) (by assumption) (by assumption) (by omega) (by omega) _ _ _ V (lv_sub hl [0, 4, 1, 5] rfl)
                                    · skip
                                      have c_33 := b_nle (by omega) (by omega) c_33
                                      refine lv_bipush (v := (-4)) hx hb dX8_soonest_205 (by decide +kernel) ?_
                                      refine lv_istore_n (lv' := [(2, .int (-4)), (5, .int (nI k156)), (4, .int (nI sn_)), (3, .int x134_3), (1, .int (nI fr_)), (0, .ref o)]) hx hb dX8_soonest_207 rfl hl (by decide) rfl (fun ls hl => ?_)
                                      refine lv_iload hx hb dX8_soonest_208 (lv_at hl 2 rfl) ?_
                                      refine lv_istore_n (lv' := [(1, .int (nI sn_)), (2, .int (-4)), (5, .int (nI k156)), (4, .int (nI sn_)), (3, .int x134_3), (0, .ref o)]) hx hb dX8_soonest_210 rfl hl (by decide) rfl (fun ls hl => ?_)
                                      refine lv_iinc (v := (x134_3 + 1)) (lv' := [(3, .int (x134_3 + 1)), (1, .int (nI sn_)), (2, .int (-4)), (5, .int (nI k156)), (4, .int (nI sn_)), (0, .ref o)]) hx hb dX8_soonest_211 hl (k := 4) rfl rfl (by decide) rfl (fun ls hl => ?_)
                                      refine lv_goto (tgt := 134) hx hb dX8_soonest_214 (by decide) ?_
                                      exact ih_134 sn_ (x134_3 + 1) (-4) so_ bw gx2 gy2 gz2 f156 (by assumption) (by assumption) (by assumption) (by omega) (by omega) _ _ _ V (lv_sub hl [0, 2, 1, 5] rfl)
                                · skip
                                  refine lv_aload_n hx hb dX8_soonest_168 rfl (lv_at hl 5 rfl) ?_
                                  refine lv_aload_n hx hb dX8_soonest_169 rfl (lv_at hl 5 rfl) ?_
                                  refine g_get hC V (ci := 8) uwX8 0 rfl rfl 23 (by decide) w_935 rfl rfl dX8_soonest_170 ?_
                                  refine lv_iload hx hb dX8_soonest_173 (lv_at hl 0 rfl) ?_
                                  refine g_lald hC V 4 rfl (vp_in_nI (by omega) (by omega)) (v := (gy2 k156)) (congrArg _ (nI_clamp (by omega))) dX8_soonest_175 ?_
                                  obtain ⟨sv_, hsv_, esv_⟩ := hsl2 k156 (by omega)
                                  refine g_vl (y := Int64.ofNat sv_) esv_ ?_
                                  refine g_callVU (nA := 1) hC V hl.1 (m_doesAll l D T sv_ n o (nI 0) g1 g2 g3 g4 tp w6 w7 w8 w9 w10 w11 w12 w13 w14 g15 bw g17 w18 w19 g20 w21 g22 g23 g24 so_ w26 w27 g28 g29 w30 g31 g32 g33 f156 gx2 gy2 gz2 hf156.1 (by first | assumption | omega) (by first | assumption | omega) (by first | assumption | omega) (by first | assumption | omega)) w_1291 w_1293 w_s71 w_9 w_1294 (by decide +kernel) rfl ⟨(Nat.le_of_ble_eq_true rfl), (Nat.le_of_ble_eq_true rfl)⟩ 0 (ci := 8) rfl rfl [0, 1, 2, 4, 5] rfl rfl (Nat.le_of_ble_eq_true rfl) dX8_soonest_176 ⟨(Nat.le_of_ble_eq_true rfl), (Nat.le_of_ble_eq_true rfl)⟩ rfl (fun r w1 H locs hQ V => ?_)
                                  rcases hQ with ⟨bm_34, ga_35, gh_36, sm2_37, gs_38, gt_39, rfl, rfl, f_40, f_41, f_42, f_43⟩ | ⟨bm_44, ga_45, gh_46, sm2_47, gs_48, gt_49, rfl, rfl, f_50, f_51, f_52, f_53⟩
                                  · have V : gW D T A s [(o, .inr (8, [.int (nI 0), .ref g1, .ref g2, .ref g3, .ref g4, .int (nI tp), .int w6, .int w7, .int w8, .int w9, .int w10, .int w11, .int w12, .int w13, .int w14, .ref g15, .int bm_34, .ref g17, .int w18, .int w19, .ref g20, .int w21, .ref g22, .ref g23, .ref g24, .int (nI sm2_37), .int w26, .int w27, .ref g28, .ref g29, .int w30, .ref g31, .ref g32, .ref g33])), (g1, .inl (T 0, 282, .inl ga_35)), (g15, .inl (T 0, 10, .inl gh_36)), (g17, .inl (T 0, 94, .inl gk_4)), (g23, .inl (T 1, 3001, .inr (.inl gs_38))), (g24, .inl (T 0, 8192, .inl gt_39))] H locs := V _ [0, 0, 0, 1, 0] rfl rfl rfl (by decide +kernel) rfl
                                    show W p l e _ s m args below meth c H locs _ _ _ (F0 m 179 ls [.int (nI 1)])
                                    have hga_35 : MS n fa ga_35 := ms_tr (by assumption) f_40
                                    refine lv_if_eq (tgt := 184) hx hb dX8_soonest_179 (by decide) (fun c => absurd (show (nI 1) = 0 from c) (by decide +kernel)) (fun _ => ?_)
                                    refine lv_iload_n hx hb dX8_soonest_182 rfl (lv_at hl 2 rfl) ?_
                                    refine lv_istore_n (lv' := [(2, .int x134_3), (5, .int (nI k156)), (4, .int (nI sn_)), (3, .int x134_3), (1, .int (nI fr_)), (0, .ref o)]) hx hb dX8_soonest_183 rfl hl (by decide) rfl (fun ls hl => ?_)
                                    refine lv_iinc (v := (nI (k156 + 1))) (lv' := [(5, .int (nI (k156 + 1))), (2, .int x134_3), (4, .int (nI sn_)), (3, .int x134_3), (1, .int (nI fr_)), (0, .ref o)]) hx hb dX8_soonest_184 hl (k := 1) rfl (nI_1 _) (by decide) rfl (fun ls hl => ?_)
                                    refine lv_goto (tgt := 156) hx hb dX8_soonest_187 (by decide) ?_
                                    exact ih_156 (k156 + 1) x134_3 sm2_37 bm_34 gh_36 gs_38 gt_39 ga_35 (by omega) (by assumption) (by assumption) (by assumption) (by omega) (by omega) _ _ _ V (lv_sub hl [0, 2, 3, 1, 4, 5] rfl)
                                  · have V : gW D T A s [(o, .inr (8, [.int (nI 0), .ref g1, .ref g2, .ref g3, .ref g4, .int (nI tp), .int w6, .int w7, .int w8, .int w9, .int w10, .int w11, .int w12, .int w13, .int w14, .ref g15, .int bm_44, .ref g17, .int w18, .int w19, .ref g20, .int w21, .ref g22, .ref g23, .ref g24, .int (nI sm2_47), .int w26, .int w27, .ref g28, .ref g29, .int w30, .ref g31, .ref g32, .ref g33])), (g1, .inl (T 0, 282, .inl ga_45)), (g15, .inl (T 0, 10, .inl gh_46)), (g17, .inl (T 0, 94, .inl gk_4)), (g23, .inl (T 1, 3001, .inr (.inl gs_48))), (g24, .inl (T 0, 8192, .inl gt_49))] H locs := V _ [0, 0, 0, 1, 0] rfl rfl rfl (by decide +kernel) rfl
                                    show W p l e _ s m args below meth c H locs _ _ _ (F0 m 179 ls [.int (nI 0)])
                                    have hga_45 : MS n fa ga_45 := ms_tr (by assumption) f_50
                                    refine lv_if_eq (tgt := 184) hx hb dX8_soonest_179 (by decide) (fun _ => ?_) (fun c => absurd (show (nI 0) = 0 by decide +kernel) c)
                                    refine lv_iinc (v := (nI (k156 + 1))) (lv' := [(5, .int (nI (k156 + 1))), (4, .int (nI sn_)), (3, .int x134_3), (2, .int x156_2), (1, .int (nI fr_)), (0, .ref o)]) hx hb dX8_soonest_184 hl (k := 0) rfl (nI_1 _) (by decide) rfl (fun ls hl => ?_)
                                    refine lv_goto (tgt := 156) hx hb dX8_soonest_187 (by decide) ?_
                                    exact ih_156 (k156 + 1) x156_2 sm2_47 bm_44 gh_46 gs_48 gt_49 ga_45 (by omega) (by assumption) (by assumption) (by assumption) (by omega) (by omega) _ _ _ V (lv_sub hl [0, 1, 2, 3, 4, 5] rfl)
                          exact L_27 _ fr_ x134_2 sn_ bv gx gy gz f134 (by omega) (by assumption) (by assumption) (by assumption) (by omega) (Nat.lt_succ_self _) _ _ _ V (lv_sub hl [0, 1, 2, 3, 4, 5] rfl)
                  exact L_18 _ 0 (nI 1) (-1) sm2_12 w16 fh gs_13 gt_14 f66 (by assumption) (by assumption) (by assumption) (by omega) (Nat.lt_succ_self _) _ _ _ V (lv_sub hl [0, 1, 2, 3] rfl)
                · skip
                  have c_9 := b_nle (by omega) (by omega) c_9
                  refine lv_aload_n hx hb dX8_soonest_76 rfl (lv_at hl 1 rfl) ?_
                  refine g_get hC V (ci := 8) uwX8 0 rfl rfl 1 (by decide) w_913 rfl rfl dX8_soonest_77 ?_
                  refine lv_bipush (v := (nI 64)) hx hb dX8_soonest_80 (by decide +kernel) ?_
                  refine lv_iload_n hx hb dX8_soonest_82 rfl (lv_at hl 0 rfl) ?_
                  refine lv_iadd hx hb dX8_soonest_83 ?_
                  refine g_vi (y := (nI (64 + k66))) (nI_add _ _) ?_
                  refine lv_aload_n hx hb dX8_soonest_84 rfl (lv_at hl 1 rfl) ?_
                  refine lv_iload_n hx hb dX8_soonest_85 rfl (lv_at hl 0 rfl) ?_
                  refine g_callVU (nA := 1) hC V hl.1 (m_isDone l D T o k66 (nI 0) g1 g2 g3 g4 tp w6 w7 w8 w9 w10 w11 w12 w13 w14 g15 w16 g17 w18 w19 g20 w21 g22 g23 g24 (nI 0) w26 w27 g28 g29 w30 g31 g32 g33 f66 (by first | assumption | omega)) w_1088 w_1090 w_s47 w_9 w_1091 (by decide +kernel) rfl ⟨(Nat.le_of_ble_eq_true rfl), (Nat.le_of_ble_eq_true rfl)⟩ 0 (ci := 8) rfl rfl [0, 1] rfl rfl (Nat.le_of_ble_eq_true rfl) dX8_soonest_86 ⟨(Nat.le_of_ble_eq_true rfl), (Nat.le_of_ble_eq_true rfl)⟩ rfl (fun r w1 H locs hQ V => ?_)
                  rcases hQ with ⟨rfl, rfl, f_54⟩ | ⟨rfl, rfl, f_55⟩
                  · have V : gW D T A s [(o, .inr (8, [.int (nI 0), .ref g1, .ref g2, .ref g3, .ref g4, .int (nI tp), .int w6, .int w7, .int w8, .int w9, .int w10, .int w11, .int w12, .int w13, .int w14, .ref g15, .int w16, .ref g17, .int w18, .int w19, .ref g20, .int w21, .ref g22, .ref g23, .ref g24, .int (nI 0), .int w26, .int w27, .ref g28, .ref g29, .int w30, .ref g31, .ref g32, .ref g33])), (g1, .inl (T 0, 282, .inl f66)), (g15, .inl (T 0, 10, .inl fh)), (g17, .inl (T 0, 94, .inl gk_4)), (g23, .inl (T 1, 3001, .inr (.inl fs))), (g24, .inl (T 0, 8192, .inl fz39))] H locs := V _ [0, 0] rfl rfl rfl (by decide +kernel) rfl
                    show W p l e _ s m args below meth c H locs _ _ _ (F0 m 89 ls [.int (nI 1), .int (nI (64 + k66)), .ref g1])
                    refine lv_if_eq (tgt := 104) hx hb dX8_soonest_89 (by decide) (fun c => absurd (show (nI 1) = 0 from c) (by decide +kernel)) (fun _ => ?_)
                    refine lv_aload_n hx hb dX8_soonest_92 rfl (lv_at hl 1 rfl) ?_
                    refine g_get hC V (ci := 8) uwX8 0 rfl rfl 1 (by decide) w_913 rfl rfl dX8_soonest_93 ?_
                    refine lv_bipush (v := (nI 54)) hx hb dX8_soonest_96 (by decide +kernel) ?_
                    refine lv_iload_n hx hb dX8_soonest_98 rfl (lv_at hl 0 rfl) ?_
                    refine lv_iadd hx hb dX8_soonest_99 ?_
                    refine g_vi (y := (nI (54 + k66))) (nI_add _ _) ?_
                    obtain ⟨j_56, hj_56, ej_56⟩ := bd_ex (mi_need hf66.1 (i := k66) (by omega))
                    refine g_iald hC V 1 rfl (vp_in_nI (by omega) (by omega)) (v := (nI j_56)) (by rw [nI_clamp (by omega)]; exact ej_56) dX8_soonest_100 ?_
                    refine lv_goto (tgt := 113) hx hb dX8_soonest_101 (by decide) ?_
                    obtain ⟨f_57, ef_57⟩ : ∃ x, x = upd f66 (64 + k66) (nI j_56) := ⟨_, rfl⟩
                    have hf_57 : MS n fa f_57 := by rw [ef_57]; exact ms_st (by assumption) (by omega) (by omega) (by intros; first | (exfalso; omega) | exact bd_nI (by omega) | exact bd_le ‹bd (nI j_56) _› (by omega) | assumption) (by intros; first | (exfalso; omega) | exact bd_nI (by omega) | exact bd_le ‹bd (nI j_56) _› (by omega) | assumption) (by intros; first | (exfalso; omega) | exact bd_nI (by omega) | exact bd_le ‹bd (nI j_56) _› (by omega) | assumption) (by intros; first | (exfalso; omega) | exact bd_nI (by omega) | exact bd_le ‹bd (nI j_56) _› (by omega) | assumption) (by intros; first | (exfalso; omega) | exact bd_nI (by omega) | exact bd_le ‹bd (nI j_56) _› (by omega) | assumption) (by intros; first | (exfalso; omega) | exact bd_nI (by omega) | exact bd_le ‹bd (nI j_56) _› (by omega) | assumption) (by intros; first | (exfalso; omega) | exact bd_nI (by omega) | exact bd_le ‹bd (nI j_56) _› (by omega) | assumption)
                    refine g_iast hC V 1 rfl (vp_in_nI (by omega) (by omega)) (f' := f_57) (by rw [nI_clamp (by omega)]; exact ef_57.symm) (ws' := [(o, .inr (8, [.int (nI 0), .ref g1, .ref g2, .ref g3, .ref g4, .int (nI tp), .int w6, .int w7, .int w8, .int w9, .int w10, .int w11, .int w12, .int w13, .int w14, .ref g15, .int w16, .ref g17, .int w18, .int w19, .ref g20, .int w21, .ref g22, .ref g23, .ref g24, .int (nI 0), .int w26, .int w27, .ref g28, .ref g29, .int w30, .ref g31, .ref g32, .ref g33])), (g1, .inl (T 0, 282, .inl f_57)), (g15, .inl (T 0, 10, .inl fh)), (g17, .inl (T 0, 94, .inl gk_4)), (g23, .inl (T 1, 3001, .inr (.inl fs))), (g24, .inl (T 0, 8192, .inl fz39))]) rfl dX8_soonest_113 (fun H locs V => ?_)
                    refine lv_iinc (v := (nI (k66 + 1))) (lv' := [(1, .int (nI (k66 + 1))), (0, .ref o)]) hx hb dX8_soonest_114 hl (k := 0) rfl (nI_1 _) (by decide) rfl (fun ls hl => ?_)
                    refine lv_goto (tgt := 66) hx hb dX8_soonest_117 (by decide) ?_
                    exact ih_66 (k66 + 1) f_57 (by omega) (by assumption) (by omega) _ _ _ V (lv_sub hl [0, 1] rfl)
                  · have V : gW D T A s [(o, .inr (8, [.int (nI 0), .ref g1, .ref g2, .ref g3, .ref g4, .int (nI tp), .int w6, .int w7, .int w8, .int w9, .int w10, .int w11, .int w12, .int w13, .int w14, .ref g15, .int w16, .ref g17, .int w18, .int w19, .ref g20, .int w21, .ref g22, .ref g23, .ref g24, .int (nI 0), .int w26, .int w27, .ref g28, .ref g29, .int w30, .ref g31, .ref g32, .ref g33])), (g1, .inl (T 0, 282, .inl f66)), (g15, .inl (T 0, 10, .inl fh)), (g17, .inl (T 0, 94, .inl gk_4)), (g23, .inl (T 1, 3001, .inr (.inl fs))), (g24, .inl (T 0, 8192, .inl fz39))] H locs := V _ [0, 0] rfl rfl rfl (by decide +kernel) rfl
                    show W p l e _ s m args below meth c H locs _ _ _ (F0 m 89 ls [.int (nI 0), .int (nI (64 + k66)), .ref g1])
                    refine lv_if_eq (tgt := 104) hx hb dX8_soonest_89 (by decide) (fun _ => ?_) (fun c => absurd (show (nI 0) = 0 by decide +kernel) c)
                    refine lv_aload_n hx hb dX8_soonest_104 rfl (lv_at hl 1 rfl) ?_
                    refine g_get hC V (ci := 8) uwX8 0 rfl rfl 1 (by decide) w_913 rfl rfl dX8_soonest_105 ?_
                    refine lv_bipush (v := (nI 64)) hx hb dX8_soonest_108 (by decide +kernel) ?_
                    refine lv_iload_n hx hb dX8_soonest_110 rfl (lv_at hl 0 rfl) ?_
                    refine lv_iadd hx hb dX8_soonest_111 ?_
                    refine g_vi (y := (nI (64 + k66))) (nI_add _ _) ?_
                    obtain ⟨j_58, hj_58, ej_58⟩ := bd_ex (mi_has hf66.1 (i := k66) (by omega))
                    refine g_iald hC V 1 rfl (vp_in_nI (by omega) (by omega)) (v := (nI j_58)) (by rw [nI_clamp (by omega)]; exact ej_58) dX8_soonest_112 ?_
                    obtain ⟨f_59, ef_59⟩ : ∃ x, x = upd f66 (64 + k66) (nI j_58) := ⟨_, rfl⟩
                    have hf_59 : MS n fa f_59 := by rw [ef_59]; exact ms_st (by assumption) (by omega) (by omega) (by intros; first | (exfalso; omega) | exact bd_nI (by omega) | exact bd_le ‹bd (nI j_58) _› (by omega) | assumption) (by intros; first | (exfalso; omega) | exact bd_nI (by omega) | exact bd_le ‹bd (nI j_58) _› (by omega) | assumption) (by intros; first | (exfalso; omega) | exact bd_nI (by omega) | exact bd_le ‹bd (nI j_58) _› (by omega) | assumption) (by intros; first | (exfalso; omega) | exact bd_nI (by omega) | exact bd_le ‹bd (nI j_58) _› (by omega) | assumption) (by intros; first | (exfalso; omega) | exact bd_nI (by omega) | exact bd_le ‹bd (nI j_58) _› (by omega) | assumption) (by intros; first | (exfalso; omega) | exact bd_nI (by omega) | exact bd_le ‹bd (nI j_58) _› (by omega) | assumption) (by intros; first | (exfalso; omega) | exact bd_nI (by omega) | exact bd_le ‹bd (nI j_58) _› (by omega) | assumption)
                    refine g_iast hC V 1 rfl (vp_in_nI (by omega) (by omega)) (f' := f_59) (by rw [nI_clamp (by omega)]; exact ef_59.symm) (ws' := [(o, .inr (8, [.int (nI 0), .ref g1, .ref g2, .ref g3, .ref g4, .int (nI tp), .int w6, .int w7, .int w8, .int w9, .int w10, .int w11, .int w12, .int w13, .int w14, .ref g15, .int w16, .ref g17, .int w18, .int w19, .ref g20, .int w21, .ref g22, .ref g23, .ref g24, .int (nI 0), .int w26, .int w27, .ref g28, .ref g29, .int w30, .ref g31, .ref g32, .ref g33])), (g1, .inl (T 0, 282, .inl f_59)), (g15, .inl (T 0, 10, .inl fh)), (g17, .inl (T 0, 94, .inl gk_4)), (g23, .inl (T 1, 3001, .inr (.inl fs))), (g24, .inl (T 0, 8192, .inl fz39))]) rfl dX8_soonest_113 (fun H locs V => ?_)
                    refine lv_iinc (v := (nI (k66 + 1))) (lv' := [(1, .int (nI (k66 + 1))), (0, .ref o)]) hx hb dX8_soonest_114 hl (k := 0) rfl (nI_1 _) (by decide) rfl (fun ls hl => ?_)
                    refine lv_goto (tgt := 66) hx hb dX8_soonest_117 (by decide) ?_
                    exact ih_66 (k66 + 1) f_59 (by omega) (by assumption) (by omega) _ _ _ V (lv_sub hl [0, 1] rfl)
            exact L_8 _ 0 fa (by omega) (by assumption) (Nat.lt_succ_self _) _ _ _ V (lv_sub hl [0, 1] rfl)
          · skip
            have c_7 := b_nle (by omega) (by omega) c_7
            refine lv_aload_n hx hb dX8_soonest_46 rfl (lv_at hl 1 rfl) ?_
            refine g_get hC V (ci := 8) uwX8 0 rfl rfl 24 (by decide) w_936 rfl rfl dX8_soonest_47 ?_
            refine lv_iload_n hx hb dX8_soonest_50 rfl (lv_at hl 0 rfl) ?_
            refine lv_iconst (v := (nI 0)) hx hb dX8_soonest_51 (by decide +kernel) ?_
            refine g_iast hC V 5 rfl (vp_in_nI (by omega) (by omega)) (f' := (upd fz39 k39 (nI 0))) (by rw [nI_clamp (by omega)]) (ws' := [(o, .inr (8, [.int (nI 0), .ref g1, .ref g2, .ref g3, .ref g4, .int (nI tp), .int w6, .int w7, .int w8, .int w9, .int w10, .int w11, .int w12, .int w13, .int w14, .ref g15, .int w16, .ref g17, .int w18, .int w19, .ref g20, .int w21, .ref g22, .ref g23, .ref g24, .int w25, .int w26, .int w27, .ref g28, .ref g29, .int w30, .ref g31, .ref g32, .ref g33])), (g1, .inl (T 0, 282, .inl fa)), (g15, .inl (T 0, 10, .inl fh)), (g17, .inl (T 0, 94, .inl gk_4)), (g23, .inl (T 1, 3001, .inr (.inl fs))), (g24, .inl (T 0, 8192, .inl (upd fz39 k39 (nI 0))))]) rfl dX8_soonest_52 (fun H locs V => ?_)
            refine lv_iinc (v := (nI (k39 + 1))) (lv' := [(1, .int (nI (k39 + 1))), (0, .ref o)]) hx hb dX8_soonest_53 hl (k := 0) rfl (nI_1 _) (by decide) rfl (fun ls hl => ?_)
            refine lv_goto (tgt := 39) hx hb dX8_soonest_56 (by decide) ?_
            exact ih_39 (k39 + 1) (upd fz39 k39 (nI 0)) (by omega) (up_one (p := fun _ y => y = nI 0) hfz rfl) (by omega) _ _ _ V (lv_sub hl [0, 1] rfl)
      exact L_6 _ 0 fc (by omega) (fun i h => absurd h (Nat.not_lt_zero _)) (Nat.lt_succ_self _) _ _ _ V (lv_sub hl [0, 1] rfl)
    · skip
      refine lv_iconst (v := (nI 0)) hx hb dX8_soonest_31 (by decide +kernel) ?_
      exact g_iret (Qr := (q_m_soonest T n o w0 g1 g2 g3 g4 tp w6 w7 w8 w9 w10 w11 w12 w13 w14 g15 w16 g17 w18 w19 g20 w21 g22 g23 g24 w25 w26 w27 g28 g29 w30 g31 g32 g33 fa fh fk fs fc)) hC V ⟨(Nat.le_of_ble_eq_true rfl), (Nat.le_of_ble_eq_true rfl)⟩ ⟨(nI 0), w25, w16, fh, fk, fs, fc, rfl, rfl⟩ dX8_soonest_32
  · skip
    have c_1 := b_nle (by omega) (by omega) c_1
    refine lv_bipush (v := (-4)) hx hb dX8_soonest_15 (by decide +kernel) ?_
    exact g_iret (Qr := (q_m_soonest T n o w0 g1 g2 g3 g4 tp w6 w7 w8 w9 w10 w11 w12 w13 w14 g15 w16 g17 w18 w19 g20 w21 g22 g23 g24 w25 w26 w27 g28 g29 w30 g31 g32 g33 fa fh fk fs fc)) hC V ⟨(Nat.le_of_ble_eq_true rfl), (Nat.le_of_ble_eq_true rfl)⟩ ⟨(-4), w25, w16, fh, fk, fs, fc, rfl, rfl⟩ dX8_soonest_17

def q_m_offBy (T : Nat → ClassId) (o : Nat) (i : Nat) (k : Nat) (w0 : Int32) (g1 : Nat) (g2 : Nat) (g3 : Nat) (g4 : Nat) (tp : Nat) (w6 : Int32) (w7 : Int32) (w8 : Int32) (w9 : Int32) (w10 : Int32) (w11 : Int32) (w12 : Int32) (w13 : Int32) (w14 : Int32) (g15 : Nat) (w16 : Int32) (g17 : Nat) (w18 : Int32) (w19 : Int32) (g20 : Nat) (w21 : Int32) (g22 : Nat) (g23 : Nat) (g24 : Nat) (w25 : Int32) (w26 : Int32) (w27 : Int32) (g28 : Nat) (g29 : Nat) (w30 : Int32) (g31 : Nat) (g32 : Nat) (g33 : Nat) (fa : Nat → Int32) : Option Value → va_W → Prop := fun rr ww => (∃ (z : Int32), rr = some (.int z) ∧ ww = [(o, .inr (8, [.int w0, .ref g1, .ref g2, .ref g3, .ref g4, .int (nI tp), .int w6, .int w7, .int w8, .int w9, .int w10, .int w11, .int w12, .int w13, .int w14, .ref g15, .int w16, .ref g17, .int w18, .int w19, .ref g20, .int w21, .ref g22, .ref g23, .ref g24, .int w25, .int w26, .int w27, .ref g28, .ref g29, .int w30, .ref g31, .ref g32, .ref g33])), (g1, .inl (T 0, 282, .inl fa))])
set_option maxHeartbeats 4000000 in
set_option maxRecDepth 100000 in
theorem m_offBy (l : Launch) (D : va_G) (T : Nat → ClassId) (o : Nat) (i : Nat) (k : Nat) (w0 : Int32) (g1 : Nat) (g2 : Nat) (g3 : Nat) (g4 : Nat) (tp : Nat) (w6 : Int32) (w7 : Int32) (w8 : Int32) (w9 : Int32) (w10 : Int32) (w11 : Int32) (w12 : Int32) (w13 : Int32) (w14 : Int32) (g15 : Nat) (w16 : Int32) (g17 : Nat) (w18 : Int32) (w19 : Int32) (g20 : Nat) (w21 : Int32) (g22 : Nat) (g23 : Nat) (g24 : Nat) (w25 : Int32) (w26 : Int32) (w27 : Int32) (g28 : Nat) (g29 : Nat) (w30 : Int32) (g31 : Nat) (g32 : Nat) (g33 : Nat) (fa : Nat → Int32) (h_i : i < 10) (h_k : k < 10) : Ct l yX8_offBy cX8_offBy 4 (some .int) 0 0 0 D T [.ref o, .int (nI i), .int (nI k)] [(o, .inr (8, [.int w0, .ref g1, .ref g2, .ref g3, .ref g4, .int (nI tp), .int w6, .int w7, .int w8, .int w9, .int w10, .int w11, .int w12, .int w13, .int w14, .ref g15, .int w16, .ref g17, .int w18, .int w19, .ref g20, .int w21, .ref g22, .ref g23, .ref g24, .int w25, .int w26, .int w27, .ref g28, .ref g29, .int w30, .ref g31, .ref g32, .ref g33])), (g1, .inl (T 0, 282, .inl fa))] (q_m_offBy T o i k w0 g1 g2 g3 g4 tp w6 w7 w8 w9 w10 w11 w12 w13 w14 g15 w16 g17 w18 w19 g20 w21 g22 g23 g24 w25 w26 w27 g28 g29 w30 g31 g32 g33 fa) := by
  refine Ct.of (cc := cX8_offBy) (maxL := 4) (ret := (some .int)) (by decide) (Nat.le_of_ble_eq_true rfl) ?_
  intro p e s m args below meth c A ls hC hnm V hl
  obtain ⟨hx, hb, hr, hml, hown, hts, hlocks⟩ := id hC
  generalize hH : s.heap = H at V ⊢
  clear hH
  have hl : lv_has ls 4 [(0, .ref o), (1, .int (nI i)), (2, .int (nI k))] := hl
  generalize hlo : ([] : List Loc) = locs at V ⊢
  clear hlo
  refine lv_aload_n hx hb dX8_offBy_0 rfl (lv_at hl 0 rfl) ?_
  refine g_get hC V (ci := 8) uwX8 0 rfl rfl 1 (by decide) w_913 rfl rfl dX8_offBy_1 ?_
  refine lv_iconst (v := (nI 4)) hx hb dX8_offBy_4 (by decide +kernel) ?_
  refine lv_iload_n hx hb dX8_offBy_5 rfl (lv_at hl 1 rfl) ?_
  refine lv_iadd hx hb dX8_offBy_6 ?_
  refine g_vi (y := (nI (4 + i))) (nI_add _ _) ?_
  refine g_iald hC V 1 rfl (vp_in_nI (by omega) (by omega)) (v := (fa (4 + i))) (congrArg _ (nI_clamp (by omega))) dX8_offBy_7 ?_
  refine lv_aload_n hx hb dX8_offBy_8 rfl (lv_at hl 0 rfl) ?_
  refine g_get hC V (ci := 8) uwX8 0 rfl rfl 1 (by decide) w_913 rfl rfl dX8_offBy_9 ?_
  refine lv_bipush (v := (nI 14)) hx hb dX8_offBy_12 (by decide +kernel) ?_
  refine lv_iload_n hx hb dX8_offBy_14 rfl (lv_at hl 2 rfl) ?_
  refine lv_iadd hx hb dX8_offBy_15 ?_
  refine g_vi (y := (nI (14 + k))) (nI_add _ _) ?_
  refine g_iald hC V 1 rfl (vp_in_nI (by omega) (by omega)) (v := (fa (14 + k))) (congrArg _ (nI_clamp (by omega))) dX8_offBy_16 ?_
  refine lv_isub hx hb dX8_offBy_17 ?_
  refine lv_istore_n (lv' := [(3, .int ((fa (4 + i)) - (fa (14 + k)))), (0, .ref o), (1, .int (nI i)), (2, .int (nI k))]) hx hb dX8_offBy_18 rfl hl (by decide) rfl (fun ls hl => ?_)
  refine lv_iload_n hx hb dX8_offBy_19 rfl (lv_at hl 0 rfl) ?_
  refine lv_if_ge (tgt := 28) hx hb dX8_offBy_20 (by decide) (fun c_1 => ?_) (fun c_1 => ?_)
  · skip
    refine lv_iload_n hx hb dX8_offBy_28 rfl (lv_at hl 0 rfl) ?_
    exact g_iret (Qr := (q_m_offBy T o i k w0 g1 g2 g3 g4 tp w6 w7 w8 w9 w10 w11 w12 w13 w14 g15 w16 g17 w18 w19 g20 w21 g22 g23 g24 w25 w26 w27 g28 g29 w30 g31 g32 g33 fa)) hC V ⟨(Nat.le_of_ble_eq_true rfl), (Nat.le_of_ble_eq_true rfl)⟩ ⟨((fa (4 + i)) - (fa (14 + k))), rfl, rfl⟩ dX8_offBy_29
  · skip
    refine lv_iload_n hx hb dX8_offBy_23 rfl (lv_at hl 0 rfl) ?_
    refine lv_ineg hx hb dX8_offBy_24 ?_
    refine lv_goto (tgt := 29) hx hb dX8_offBy_25 (by decide) ?_
    exact g_iret (Qr := (q_m_offBy T o i k w0 g1 g2 g3 g4 tp w6 w7 w8 w9 w10 w11 w12 w13 w14 g15 w16 g17 w18 w19 g20 w21 g22 g23 g24 w25 w26 w27 g28 g29 w30 g31 g32 g33 fa)) hC V ⟨(Nat.le_of_ble_eq_true rfl), (Nat.le_of_ble_eq_true rfl)⟩ ⟨(-((fa (4 + i)) - (fa (14 + k)))), rfl, rfl⟩ dX8_offBy_29

/-- the ropes that are laid, as numbers -/
def toF (f : Nat → Int32) (j : Nat) : Nat := (f j).toNatClampNeg
def itF (f : Nat → Int32) : Nat → Nat
  | 0 => 0
  | k + 1 => toF f (itF f k)
/-- n ropes laid to n others, no two to the same -/
def LI (n : Nat) (f : Nat → Int32) : Prop := (∀ j, j < n → f j = nI (toF f j) ∧ toF f j < 7) ∧ ∀ i j, i < n → j < n → toF f i = toF f j → i = j
def LF (n : Nat) (f : Nat → Int32) : Prop := LI n f ∧ ∀ j, j < n → toF f j < n
theorem lf_lt {n : Nat} {f : Nat → Int32} (h : LF n f) (hn : 1 ≤ n) : ∀ k, itF f k < n
  | 0 => hn
  | k + 1 => h.2 _ (lf_lt h hn k)
theorem lf_back {n : Nat} {f : Nat → Int32} (h : LF n f) (hn : 1 ≤ n) : ∀ a b, itF f (a + b) = itF f a → itF f b = 0
  | 0, b, e => by rw [Nat.zero_add] at e; exact e
  | a + 1, b, e => by
    rw [show a + 1 + b = (a + b) + 1 by omega] at e
    exact lf_back h hn a b (h.1.2 _ _ (lf_lt h hn _) (lf_lt h hn _) e)
theorem lf_cyc {n : Nat} {f : Nat → Int32} (h : LF n f) (hn : 1 ≤ n) : ∃ m, 1 ≤ m ∧ m ≤ n ∧ itF f m = 0 := by
  obtain ⟨a, b, hab, hb, e⟩ := pigeon n (itF f) (fun k _ => lf_lt h hn k)
  refine ⟨b - a, by omega, by omega, lf_back h hn a (b - a) ?_⟩
  rw [show a + (b - a) = b by omega]
  exact e.symm
theorem lf_nx {n k a j : Nat} {f : Nat → Int32} (h : a = itF f k ∧ a < n) (e : f a = nI j) (hj : j < n) (hn : n ≤ 7) : j = itF f (k + 1) ∧ j < n := by
  refine ⟨?_, hj⟩
  show j = (f (itF f k)).toNatClampNeg
  rw [← h.1, e, nI_clamp (by omega)]
theorem lf_bd {n a : Nat} {f : Nat → Int32} (h : LF n f) (ha : a < n) : bd (f a) n := ⟨_, h.2 a ha, (h.1.1 a ha).1⟩
theorem lf_go {f : Nat → Int32} {m k j n : Nat} (hm : itF f m = 0) (h : j = itF f (k + 1) ∧ j < n) (hk : k < m) (hj : ¬ j = 0) : k + 1 < m := by
  have : k + 1 ≠ m := by
    rintro rfl
    exact hj (h.1.trans hm)
  omega
theorem li_put {n k : Nat} {f : Nat → Int32} (h : LI n f) (hk : k < 7) (hne : ∀ j, j < n → toF f j ≠ k) : LI (n + 1) (upd f n (nI k)) := by
  have e1 : ∀ j, j < n → toF (upd f n (nI k)) j = toF f j := fun j hj => by unfold toF; rw [up_other (by omega)]
  have e2 : toF (upd f n (nI k)) n = k := by unfold toF; rw [up_same, nI_clamp (by omega)]
  refine ⟨fun j hj => ?_, fun i j hi hj e => ?_⟩
  · by_cases c : j = n
    · subst c; rw [e2, up_same]; exact ⟨rfl, hk⟩
    · rw [e1 j (by omega), up_other c]; exact h.1 j (by omega)
  · by_cases ci : i = n
    · by_cases cj : j = n
      · omega
      · subst ci; rw [e2, e1 j (by omega)] at e; exact absurd e.symm (hne j (by omega))
    · by_cases cj : j = n
      · subst cj; rw [e2, e1 i (by omega)] at e; exact absurd e (hne i (by omega))
      · rw [e1 i (by omega), e1 j (by omega)] at e; exact h.2 i j (by omega) (by omega) e
/-- the bits of used are the fires that are taken -/
def UB (n u : Nat) (f : Nat → Int32) : Prop := u < 128 ∧ ∀ j, j < n → u.testBit (toF f j) = true
theorem ub_put {n u k : Nat} {f : Nat → Int32} (h : UB n u f) (hk : k < 7) : UB (n + 1) (u ||| 2 ^ k) (upd f n (nI k)) := by
  refine ⟨Nat.or_lt_two_pow (n := 7) h.1 (Nat.pow_lt_pow_right (by decide) hk), fun j hj => ?_⟩
  rw [Nat.testBit_or]
  by_cases c : j = n
  · subst c
    have : toF (upd f j (nI k)) j = k := by unfold toF; rw [up_same, nI_clamp (by omega)]
    rw [this, Nat.testBit_two_pow_self, Bool.or_true]
  · have : toF (upd f n (nI k)) j = toF f j := by unfold toF; rw [up_other c]
    rw [this, h.2 j (by omega), Bool.true_or]
theorem ub_free {n u k : Nat} {f : Nat → Int32} (h : UB n u f) (hk : u.testBit k = false) : ∀ j, j < n → toF f j ≠ k := fun j hj e => by
  have := h.2 j hj
  rw [e, hk] at this
  cases this
theorem ub_ext {n u : Nat} {f g : Nat → Int32} (h : UB n u f) (e : ∀ j, j < n → g j = f j) : UB n u g := ⟨h.1, fun j hj => by have := h.2 j hj; unfold toF at this ⊢; rw [e j hj]; exact this⟩
theorem li_ext {n : Nat} {f g : Nat → Int32} (h : LI n f) (e : ∀ j, j < n → g j = f j) : LI n g := by
  have et : ∀ j, j < n → toF g j = toF f j := fun j hj => by unfold toF; rw [e j hj]
  exact ⟨fun j hj => by rw [et j hj, e j hj]; exact h.1 j hj, fun i j hi hj q => h.2 i j hi hj (by rw [← et i hi, ← et j hj]; exact q)⟩
theorem or7 {u k : Nat} (hu : u < 128) (hk : k < 7) : nI u ||| nI (2 ^ k) = nI (u ||| 2 ^ k) := by
  have H : ∀ (u : Fin 128) (k : Fin 7), nI u.1 ||| nI (2 ^ k.1) = nI (u.1 ||| 2 ^ k.1) := by decide +kernel
  exact H ⟨u, hu⟩ ⟨k, hk⟩
theorem in7 {u k : Nat} (hu : u < 128) (hk : k < 7) : (lg_cmp ((nI u).toInt64 >>> ((nI k).toInt64 &&& 63) &&& (nI 1).toInt64) (nI 1).toInt64 = 0) ↔ u.testBit k = true := by
  have H : ∀ (u : Fin 128) (k : Fin 7), (lg_cmp ((nI u.1).toInt64 >>> ((nI k.1).toInt64 &&& 63) &&& (nI 1).toInt64) (nI 1).toInt64 = 0) ↔ u.1.testBit k.1 = true := by decide +kernel
  exact H ⟨u, hu⟩ ⟨k, hk⟩

def q_m_isIn7 (T : Nat → ClassId) (u : Nat) (k : Nat) : Option Value → va_W → Prop := fun rr ww => (rr = some (.int (nI 1)) ∧ ww = [] ∧ u.testBit k = true) ∨ (rr = some (.int (nI 0)) ∧ ww = [] ∧ u.testBit k = false)
set_option maxHeartbeats 4000000 in
set_option maxRecDepth 100000 in
theorem m_isIn7 (l : Launch) (D : va_G) (T : Nat → ClassId) (u : Nat) (k : Nat) (h_u : u < 128) (h_k : k < 7) : Ct l yX8_isIn cX8_isIn 3 (some .boolean) 0 0 0 D T [.long (nI u).toInt64, .int (nI k)] [] (q_m_isIn7 T u k) := by
  refine Ct.of (cc := cX8_isIn) (maxL := 3) (ret := (some .boolean)) (by decide) (Nat.le_of_ble_eq_true rfl) ?_
  intro p e s m args below meth c A ls hC hnm V hl
  obtain ⟨hx, hb, hr, hml, hown, hts, hlocks⟩ := id hC
  generalize hH : s.heap = H at V ⊢
  clear hH
  have hl : lv_has ls 3 [(0, .long (nI u).toInt64), (2, .int (nI k))] := hl
  generalize hlo : ([] : List Loc) = locs at V ⊢
  clear hlo
  refine lv_lload_n hx hb dX8_isIn_0 rfl (lv_at hl 0 rfl) ?_
  refine lv_iload_n hx hb dX8_isIn_1 rfl (lv_at hl 1 rfl) ?_
  refine lv_lshr hx hb dX8_isIn_2 rfl ?_
  refine lv_lconst (v := (nI 1).toInt64) hx hb dX8_isIn_3 (by decide +kernel) ?_
  refine lv_land hx hb dX8_isIn_4 ?_
  refine lv_lconst (v := (nI 1).toInt64) hx hb dX8_isIn_5 (by decide +kernel) ?_
  refine W.lcmp hx hb dX8_isIn_6 ?_
  refine lv_if_ne (tgt := 14) hx hb dX8_isIn_7 (by decide) (fun c_1 => ?_) (fun c_1 => ?_)
  · skip
    refine lv_iconst (v := (nI 0)) hx hb dX8_isIn_14 (by decide +kernel) ?_
    exact g_zret (Qr := (q_m_isIn7 T u k)) hC V ⟨(Nat.le_of_ble_eq_true rfl), (Nat.le_of_ble_eq_true rfl)⟩ (by first | decide +kernel | exact rfl) (.inr ⟨rfl, rfl, (Bool.eq_false_iff.mpr (fun h => absurd ((in7 h_u h_k).mpr h) (by assumption)))⟩) dX8_isIn_15
  · skip
    refine lv_iconst (v := (nI 1)) hx hb dX8_isIn_10 (by decide +kernel) ?_
    refine lv_goto (tgt := 15) hx hb dX8_isIn_11 (by decide) ?_
    exact g_zret (Qr := (q_m_isIn7 T u k)) hC V ⟨(Nat.le_of_ble_eq_true rfl), (Nat.le_of_ble_eq_true rfl)⟩ (by first | decide +kernel | exact rfl) (.inl ⟨rfl, rfl, ((in7 h_u h_k).mp (by assumption))⟩) dX8_isIn_15

def q_m_isOneRing (T : Nat → ClassId) (n : Nat) (o : Nat) (w0 : Int32) (g1 : Nat) (g2 : Nat) (g3 : Nat) (g4 : Nat) (tp : Nat) (w6 : Int32) (w7 : Int32) (w8 : Int32) (w9 : Int32) (w10 : Int32) (w11 : Int32) (w12 : Int32) (w13 : Int32) (w14 : Int32) (g15 : Nat) (w16 : Int32) (g17 : Nat) (w18 : Int32) (w19 : Int32) (g20 : Nat) (w21 : Int32) (g22 : Nat) (g23 : Nat) (g24 : Nat) (w25 : Int32) (w26 : Int32) (w27 : Int32) (g28 : Nat) (g29 : Nat) (w30 : Int32) (g31 : Nat) (g32 : Nat) (g33 : Nat) (fa : Nat → Int32) (fo : Nat → Int32) : Option Value → va_W → Prop := fun rr ww => (rr = some (.int (nI 1)) ∧ ww = [(o, .inr (8, [.int w0, .ref g1, .ref g2, .ref g3, .ref g4, .int (nI tp), .int w6, .int w7, .int w8, .int w9, .int w10, .int w11, .int w12, .int w13, .int w14, .ref g15, .int w16, .ref g17, .int w18, .int w19, .ref g20, .int w21, .ref g22, .ref g23, .ref g24, .int w25, .int w26, .int w27, .ref g28, .ref g29, .int w30, .ref g31, .ref g32, .ref g33])), (g1, .inl (T 0, 282, .inl fa)), (g28, .inl (T 0, 7, .inl fo))]) ∨ (rr = some (.int (nI 0)) ∧ ww = [(o, .inr (8, [.int w0, .ref g1, .ref g2, .ref g3, .ref g4, .int (nI tp), .int w6, .int w7, .int w8, .int w9, .int w10, .int w11, .int w12, .int w13, .int w14, .ref g15, .int w16, .ref g17, .int w18, .int w19, .ref g20, .int w21, .ref g22, .ref g23, .ref g24, .int w25, .int w26, .int w27, .ref g28, .ref g29, .int w30, .ref g31, .ref g32, .ref g33])), (g1, .inl (T 0, 282, .inl fa)), (g28, .inl (T 0, 7, .inl fo))])
set_option maxHeartbeats 4000000 in
set_option maxRecDepth 100000 in
theorem m_isOneRing (l : Launch) (D : va_G) (T : Nat → ClassId) (n : Nat) (o : Nat) (w0 : Int32) (g1 : Nat) (g2 : Nat) (g3 : Nat) (g4 : Nat) (tp : Nat) (w6 : Int32) (w7 : Int32) (w8 : Int32) (w9 : Int32) (w10 : Int32) (w11 : Int32) (w12 : Int32) (w13 : Int32) (w14 : Int32) (g15 : Nat) (w16 : Int32) (g17 : Nat) (w18 : Int32) (w19 : Int32) (g20 : Nat) (w21 : Int32) (g22 : Nat) (g23 : Nat) (g24 : Nat) (w25 : Int32) (w26 : Int32) (w27 : Int32) (g28 : Nat) (g29 : Nat) (w30 : Int32) (g31 : Nat) (g32 : Nat) (g33 : Nat) (fa : Nat → Int32) (fo : Nat → Int32) (h_a : MI n fa) (h_lf : LF n fo) (h_1 : 1 ≤ n) (h_7 : n ≤ 7) : Ct l yX8_isOneRing cX8_isOneRing 3 (some .boolean) 0 0 0 D T [.ref o] [(o, .inr (8, [.int w0, .ref g1, .ref g2, .ref g3, .ref g4, .int (nI tp), .int w6, .int w7, .int w8, .int w9, .int w10, .int w11, .int w12, .int w13, .int w14, .ref g15, .int w16, .ref g17, .int w18, .int w19, .ref g20, .int w21, .ref g22, .ref g23, .ref g24, .int w25, .int w26, .int w27, .ref g28, .ref g29, .int w30, .ref g31, .ref g32, .ref g33])), (g1, .inl (T 0, 282, .inl fa)), (g28, .inl (T 0, 7, .inl fo))] (q_m_isOneRing T n o w0 g1 g2 g3 g4 tp w6 w7 w8 w9 w10 w11 w12 w13 w14 g15 w16 g17 w18 w19 g20 w21 g22 g23 g24 w25 w26 w27 g28 g29 w30 g31 g32 g33 fa fo) := by
  refine Ct.of (cc := cX8_isOneRing) (maxL := 3) (ret := (some .boolean)) (by decide) (Nat.le_of_ble_eq_true rfl) ?_
  intro p e s m args below meth c A ls hC hnm V hl
  obtain ⟨hx, hb, hr, hml, hown, hts, hlocks⟩ := id hC
  generalize hH : s.heap = H at V ⊢
  clear hH
  have hl : lv_has ls 3 [(0, .ref o)] := hl
  generalize hlo : ([] : List Loc) = locs at V ⊢
  clear hlo
  have ms0 := ms_rf h_a
  have hn10 := h_a.1
  obtain ⟨mq, hm1, hm2, hm3⟩ := lf_cyc h_lf h_1
  have hbd : ∀ a, a < n → bd (fo a) n := fun a ha => lf_bd h_lf ha
  refine lv_iconst (v := (nI 0)) hx hb dX8_isOneRing_0 (by decide +kernel) ?_
  refine lv_istore_n (lv' := [(1, .int (nI 0)), (0, .ref o)]) hx hb dX8_isOneRing_1 rfl hl (by decide) rfl (fun ls hl => ?_)
  refine lv_iconst (v := (nI 0)) hx hb dX8_isOneRing_2 (by decide +kernel) ?_
  refine lv_istore_n (lv' := [(2, .int (nI 0)), (1, .int (nI 0)), (0, .ref o)]) hx hb dX8_isOneRing_3 rfl hl (by decide) rfl (fun ls hl => ?_)
  have L_1 : ∀ (fu : Nat) (at_ : Nat) (x4_2 : Int32) (kq : Nat), (at_ = itF fo kq ∧ at_ < n) → kq < mq → mq - kq < fu → ∀ (H : Heap) (locs : List Loc) (ls : Array Slot), gW D T A s [(o, .inr (8, [.int w0, .ref g1, .ref g2, .ref g3, .ref g4, .int (nI tp), .int w6, .int w7, .int w8, .int w9, .int w10, .int w11, .int w12, .int w13, .int w14, .ref g15, .int w16, .ref g17, .int w18, .int w19, .ref g20, .int w21, .ref g22, .ref g23, .ref g24, .int w25, .int w26, .int w27, .ref g28, .ref g29, .int w30, .ref g31, .ref g32, .ref g33])), (g1, .inl (T 0, 282, .inl fa)), (g28, .inl (T 0, 7, .inl fo))] H locs → lv_has ls 3 [(2, .int x4_2), (1, .int (nI at_)), (0, .ref o)] → W p l e (rmD 0 0 0) s m args below meth c H locs 0 0 (MQ below (gQ D A (q_m_isOneRing T n o w0 g1 g2 g3 g4 tp w6 w7 w8 w9 w10 w11 w12 w13 w14 g15 w16 g17 w18 w19 g20 w21 g22 g23 g24 w25 w26 w27 g28 g29 w30 g31 g32 g33 fa fo)) args s 0 0 A) (F0 m 4 ls []) := by
    intro fu_4
    induction fu_4 with
    | zero => intro at_ x4_2 kq hat hkq hmu; exact absurd hmu (Nat.not_lt_zero _)
    | succ fu_4 ih_4 =>
      intro at_ x4_2 kq hat hkq hmu_4 H locs ls V hl
      refine lv_aload_n hx hb dX8_isOneRing_4 rfl (lv_at hl 2 rfl) ?_
      refine g_get hC V (ci := 8) uwX8 0 rfl rfl 28 (by decide) w_940 rfl rfl dX8_isOneRing_5 ?_
      refine lv_iload_n hx hb dX8_isOneRing_8 rfl (lv_at hl 1 rfl) ?_
      obtain ⟨j_2, hj_2, ej_2⟩ := bd_ex (hbd at_ (by omega))
      refine g_iald hC V 2 rfl (vp_in_nI (by omega) (by omega)) (v := (nI j_2)) (by rw [nI_clamp (by omega)]; exact ej_2) dX8_isOneRing_9 ?_
      have hnx := lf_nx hat (by assumption) (by omega) h_7
      refine lv_istore_n (lv' := [(1, .int (nI j_2)), (2, .int x4_2), (0, .ref o)]) hx hb dX8_isOneRing_10 rfl hl (by decide) rfl (fun ls hl => ?_)
      refine lv_iinc (v := (x4_2 + 1)) (lv' := [(2, .int (x4_2 + 1)), (1, .int (nI j_2)), (0, .ref o)]) hx hb dX8_isOneRing_11 hl (k := 1) rfl rfl (by decide) rfl (fun ls hl => ?_)
      refine lv_iload_n hx hb dX8_isOneRing_14 rfl (lv_at hl 1 rfl) ?_
      refine lv_if_ne (tgt := 4) hx hb dX8_isOneRing_15 (by decide) (fun c_3 => ?_) (fun c_3 => ?_)
      · skip
        rw [show (0 : Int32) = nI 0 from rfl] at c_3
        have c_3 := b_ne (by omega) (by omega) c_3
        have hgo := lf_go hm3 hnx hkq (fun e => c_3 (by rw [e]))
        exact ih_4 j_2 (x4_2 + 1) (kq + 1) hnx hgo (by omega) _ _ _ V (lv_sub hl [0, 1, 2] rfl)
      · skip
        rw [show (0 : Int32) = nI 0 from rfl] at c_3
        have c_3 := b_eq (by omega) (by omega) c_3
        refine lv_iload_n hx hb dX8_isOneRing_18 rfl (lv_at hl 0 rfl) ?_
        refine lv_aload_n hx hb dX8_isOneRing_19 rfl (lv_at hl 2 rfl) ?_
        refine g_get hC V (ci := 8) uwX8 0 rfl rfl 1 (by decide) w_913 rfl rfl dX8_isOneRing_20 ?_
        refine lv_iconst (v := (nI 0)) hx hb dX8_isOneRing_23 (by decide +kernel) ?_
        refine g_iald hC V 1 rfl (vp_in_nI (by decide) (by decide)) (v := (nI n)) (by rw [nI_clamp (by decide)]; first | rfl | exact h_a.2.1) dX8_isOneRing_24 ?_
        refine lv_icmp_ne (tgt := 32) hx hb dX8_isOneRing_25 (by decide) (fun c_4 => ?_) (fun c_4 => ?_)
        · skip
          refine lv_iconst (v := (nI 0)) hx hb dX8_isOneRing_32 (by decide +kernel) ?_
          exact g_zret (Qr := (q_m_isOneRing T n o w0 g1 g2 g3 g4 tp w6 w7 w8 w9 w10 w11 w12 w13 w14 g15 w16 g17 w18 w19 g20 w21 g22 g23 g24 w25 w26 w27 g28 g29 w30 g31 g32 g33 fa fo)) hC V ⟨(Nat.le_of_ble_eq_true rfl), (Nat.le_of_ble_eq_true rfl)⟩ (by first | decide +kernel | exact rfl) (.inr ⟨rfl, rfl⟩) dX8_isOneRing_33
        · skip
          refine lv_iconst (v := (nI 1)) hx hb dX8_isOneRing_28 (by decide +kernel) ?_
          refine lv_goto (tgt := 33) hx hb dX8_isOneRing_29 (by decide) ?_
          exact g_zret (Qr := (q_m_isOneRing T n o w0 g1 g2 g3 g4 tp w6 w7 w8 w9 w10 w11 w12 w13 w14 g15 w16 g17 w18 w19 g20 w21 g22 g23 g24 w25 w26 w27 g28 g29 w30 g31 g32 g33 fa fo)) hC V ⟨(Nat.le_of_ble_eq_true rfl), (Nat.le_of_ble_eq_true rfl)⟩ (by first | decide +kernel | exact rfl) (.inl ⟨rfl, rfl⟩) dX8_isOneRing_33
  exact L_1 _ 0 (nI 0) 0 ⟨rfl, h_1⟩ (by omega) (Nat.lt_succ_self _) _ _ _ V (lv_sub hl [0, 1, 2] rfl)

theorem lf_of {k n : Nat} {f : Nat → Int32} (h : LI k f) (h2 : ∀ j, j < k → toF f j < n) (e : k = n) : LF n f := by subst e; exact ⟨h, h2⟩
theorem lt_put {n m k : Nat} {f g : Nat → Int32} (h : ∀ j, j < m → toF f j < n) (e : ∀ j, j < m → g j = f j) (hk : k < n) (hn : n ≤ 7) : ∀ j, j < m + 1 → toF (upd g m (nI k)) j < n := by
  intro j hj
  by_cases c : j = m
  · subst c; unfold toF; rw [up_same, nI_clamp (by omega)]; exact hk
  · unfold toF; rw [up_other c, e j (by omega)]; exact h j (by omega)
theorem li_0 (f : Nat → Int32) : LI 0 f := ⟨fun j h => absurd h (Nat.not_lt_zero _), fun i j h => absurd h (Nat.not_lt_zero _)⟩
theorem ub_0 (f : Nat → Int32) : UB 0 0 f := ⟨by decide, fun j h => absurd h (Nat.not_lt_zero _)⟩

def q_m_lays7 (T : Nat → ClassId) (n : Nat) (o : Nat) (u : Nat) (sum : Int32) (w0 : Int32) (g1 : Nat) (g2 : Nat) (g3 : Nat) (g4 : Nat) (tp : Nat) (w6 : Int32) (w7 : Int32) (w8 : Int32) (w9 : Int32) (w10 : Int32) (w11 : Int32) (w12 : Int32) (w13 : Int32) (w14 : Int32) (g15 : Nat) (w16 : Int32) (g17 : Nat) (w18 : Int32) (w19 : Int32) (g20 : Nat) (w21 : Int32) (g22 : Nat) (g23 : Nat) (g24 : Nat) (w25 : Int32) (w26 : Int32) (w27 : Int32) (g28 : Nat) (g29 : Nat) (w30 : Int32) (g31 : Nat) (g32 : Nat) (g33 : Nat) (fa : Nat → Int32) (fo : Nat → Int32) (fp : Nat → Int32) : Option Value → va_W → Prop := fun rr ww => (∃ (bs : Int32) (go : Nat → Int32) (gp : Nat → Int32), rr = none ∧ ww = [(o, .inr (8, [.int w0, .ref g1, .ref g2, .ref g3, .ref g4, .int (nI tp), .int w6, .int w7, .int w8, .int w9, .int w10, .int w11, .int w12, .int w13, .int w14, .ref g15, .int w16, .ref g17, .int w18, .int w19, .ref g20, .int w21, .ref g22, .ref g23, .ref g24, .int w25, .int w26, .int w27, .ref g28, .ref g29, .int bs, .ref g31, .ref g32, .ref g33])), (g1, .inl (T 0, 282, .inl fa)), (g28, .inl (T 0, 7, .inl go)), (g29, .inl (T 0, 7, .inl gp))] ∧ (∀ j, j < 7 → go j = fo j))
set_option maxHeartbeats 4000000 in
set_option maxRecDepth 100000 in
theorem m_lays7 (l : Launch) (D : va_G) (T : Nat → ClassId) (n : Nat) (o : Nat) (u : Nat) (sum : Int32) (w0 : Int32) (g1 : Nat) (g2 : Nat) (g3 : Nat) (g4 : Nat) (tp : Nat) (w6 : Int32) (w7 : Int32) (w8 : Int32) (w9 : Int32) (w10 : Int32) (w11 : Int32) (w12 : Int32) (w13 : Int32) (w14 : Int32) (g15 : Nat) (w16 : Int32) (g17 : Nat) (w18 : Int32) (w19 : Int32) (g20 : Nat) (w21 : Int32) (g22 : Nat) (g23 : Nat) (g24 : Nat) (w25 : Int32) (w26 : Int32) (w27 : Int32) (g28 : Nat) (g29 : Nat) (w30 : Int32) (g31 : Nat) (g32 : Nat) (g33 : Nat) (fa : Nat → Int32) (fo : Nat → Int32) (fp : Nat → Int32) (h_a : MI n fa) (h_li : LI 7 fo) (h_lt : ∀ j, j < 7 → toF fo j < n) (h_ub : UB 7 u fo) (h_1 : 1 ≤ n) (h_7 : n ≤ 7) (h_kn : 7 ≤ n) : Ct l yX8_lays cX8_lays 5 none 2 0 0 D T [.ref o, .int (nI 7), .int (nI u), .int sum] [(o, .inr (8, [.int w0, .ref g1, .ref g2, .ref g3, .ref g4, .int (nI tp), .int w6, .int w7, .int w8, .int w9, .int w10, .int w11, .int w12, .int w13, .int w14, .ref g15, .int w16, .ref g17, .int w18, .int w19, .ref g20, .int w21, .ref g22, .ref g23, .ref g24, .int w25, .int w26, .int w27, .ref g28, .ref g29, .int w30, .ref g31, .ref g32, .ref g33])), (g1, .inl (T 0, 282, .inl fa)), (g28, .inl (T 0, 7, .inl fo)), (g29, .inl (T 0, 7, .inl fp))] (q_m_lays7 T n o u sum w0 g1 g2 g3 g4 tp w6 w7 w8 w9 w10 w11 w12 w13 w14 g15 w16 g17 w18 w19 g20 w21 g22 g23 g24 w25 w26 w27 g28 g29 w30 g31 g32 g33 fa fo fp) := by
  refine Ct.of (cc := cX8_lays) (maxL := 5) (ret := none) (by decide) (Nat.le_of_ble_eq_true rfl) ?_
  intro p e s m args below meth c A ls hC hnm V hl
  obtain ⟨hx, hb, hr, hml, hown, hts, hlocks⟩ := id hC
  generalize hH : s.heap = H at V ⊢
  clear hH
  have hl : lv_has ls 5 [(0, .ref o), (1, .int (nI 7)), (2, .int (nI u)), (3, .int sum)] := hl
  generalize hlo : ([] : List Loc) = locs at V ⊢
  clear hlo
  have ms0 := ms_rf h_a
  have hn10 := h_a.1
  have hu := h_ub.1
  refine lv_iload_n hx hb dX8_lays_0 rfl (lv_at hl 1 rfl) ?_
  refine lv_aload_n hx hb dX8_lays_1 rfl (lv_at hl 0 rfl) ?_
  refine g_get hC V (ci := 8) uwX8 0 rfl rfl 1 (by decide) w_913 rfl rfl dX8_lays_2 ?_
  refine lv_iconst (v := (nI 0)) hx hb dX8_lays_5 (by decide +kernel) ?_
  refine g_iald hC V 1 rfl (vp_in_nI (by decide) (by decide)) (v := (nI n)) (by rw [nI_clamp (by decide)]; first | rfl | exact h_a.2.1) dX8_lays_6 ?_
  refine lv_icmp_ne (tgt := 69) hx hb dX8_lays_7 (by decide) (fun c_1 => ?_) (fun c_1 => ?_)
  · skip
    have c_1 := b_ne (by omega) (by omega) c_1
    exact (by omega : False).elim
  · skip
    have c_1 := b_eq (by omega) (by omega) c_1
    refine lv_aload_n hx hb dX8_lays_10 rfl (lv_at hl 0 rfl) ?_
    refine g_callVU (nA := 0) hC V hl.1 (m_isOneRing l D T n o w0 g1 g2 g3 g4 tp w6 w7 w8 w9 w10 w11 w12 w13 w14 g15 w16 g17 w18 w19 g20 w21 g22 g23 g24 w25 w26 w27 g28 g29 w30 g31 g32 g33 fa fo h_a (lf_of h_li h_lt (by omega)) h_1 h_7) w_1324 w_1326 w_s76 w_9 w_1327 (by decide +kernel) rfl ⟨(Nat.le_of_ble_eq_true rfl), (Nat.le_of_ble_eq_true rfl)⟩ 0 (ci := 8) rfl rfl [0, 1, 2] rfl rfl (Nat.le_of_ble_eq_true rfl) dX8_lays_11 ⟨(Nat.le_of_ble_eq_true rfl), (Nat.le_of_ble_eq_true rfl)⟩ rfl (fun r w1 H locs hQ V => ?_)
    rcases hQ with ⟨rfl, rfl⟩ | ⟨rfl, rfl⟩
    · have V : gW D T A s [(o, .inr (8, [.int w0, .ref g1, .ref g2, .ref g3, .ref g4, .int (nI tp), .int w6, .int w7, .int w8, .int w9, .int w10, .int w11, .int w12, .int w13, .int w14, .ref g15, .int w16, .ref g17, .int w18, .int w19, .ref g20, .int w21, .ref g22, .ref g23, .ref g24, .int w25, .int w26, .int w27, .ref g28, .ref g29, .int w30, .ref g31, .ref g32, .ref g33])), (g1, .inl (T 0, 282, .inl fa)), (g28, .inl (T 0, 7, .inl fo)), (g29, .inl (T 0, 7, .inl fp))] H locs := V _ [0, 0, 0] rfl rfl rfl (by decide +kernel) rfl
      show W p l e _ s m args below meth c H locs _ _ _ (F0 m 14 ls [.int (nI 1)])
      refine lv_if_eq (tgt := 33) hx hb dX8_lays_14 (by decide) (fun c => absurd (show (nI 1) = 0 from c) (by decide +kernel)) (fun _ => ?_)
      refine lv_aload_n hx hb dX8_lays_17 rfl (lv_at hl 0 rfl) ?_
      refine g_get hC V (ci := 8) uwX8 0 rfl rfl 30 (by decide) w_942 rfl rfl dX8_lays_18 ?_
      refine lv_iconst (v := (-1)) hx hb dX8_lays_21 (by decide +kernel) ?_
      refine lv_icmp_eq (tgt := 34) hx hb dX8_lays_22 (by decide) (fun c_2 => ?_) (fun c_2 => ?_)
      · skip
        refine lv_aload_n hx hb dX8_lays_34 rfl (lv_at hl 0 rfl) ?_
        refine lv_iload_n hx hb dX8_lays_35 rfl (lv_at hl 3 rfl) ?_
        refine g_put hC V (ci := 8) uwX8 tyX8 tyX8_ok nmX8 0 rfl rfl 30 (by decide) w_942 rfl rfl rfl rfl (Nat.le_of_ble_eq_true rfl) (ws' := [(o, .inr (8, [.int w0, .ref g1, .ref g2, .ref g3, .ref g4, .int (nI tp), .int w6, .int w7, .int w8, .int w9, .int w10, .int w11, .int w12, .int w13, .int w14, .ref g15, .int w16, .ref g17, .int w18, .int w19, .ref g20, .int w21, .ref g22, .ref g23, .ref g24, .int w25, .int w26, .int w27, .ref g28, .ref g29, .int sum, .ref g31, .ref g32, .ref g33])), (g1, .inl (T 0, 282, .inl fa)), (g28, .inl (T 0, 7, .inl fo)), (g29, .inl (T 0, 7, .inl fp))]) rfl dX8_lays_36 (fun H locs V => ?_)
        refine lv_iconst (v := (nI 0)) hx hb dX8_lays_39 (by decide +kernel) ?_
        refine lv_istore (lv' := [(4, .int (nI 0)), (0, .ref o), (1, .int (nI 7)), (2, .int (nI u)), (3, .int sum)]) hx hb dX8_lays_40 hl (by decide) rfl (fun ls hl => ?_)
        have L_3 : ∀ (fu : Nat) (k42 : Nat) (gb42 : Nat → Int32), k42 ≤ 7 → 7 - k42 < fu → ∀ (H : Heap) (locs : List Loc) (ls : Array Slot), gW D T A s [(o, .inr (8, [.int w0, .ref g1, .ref g2, .ref g3, .ref g4, .int (nI tp), .int w6, .int w7, .int w8, .int w9, .int w10, .int w11, .int w12, .int w13, .int w14, .ref g15, .int w16, .ref g17, .int w18, .int w19, .ref g20, .int w21, .ref g22, .ref g23, .ref g24, .int w25, .int w26, .int w27, .ref g28, .ref g29, .int sum, .ref g31, .ref g32, .ref g33])), (g1, .inl (T 0, 282, .inl fa)), (g28, .inl (T 0, 7, .inl fo)), (g29, .inl (T 0, 7, .inl gb42))] H locs → lv_has ls 5 [(4, .int (nI k42)), (0, .ref o), (1, .int (nI 7)), (2, .int (nI u)), (3, .int sum)] → W p l e (rmD 2 0 0) s m args below meth c H locs 0 0 (MQ below (gQ D A (q_m_lays7 T n o u sum w0 g1 g2 g3 g4 tp w6 w7 w8 w9 w10 w11 w12 w13 w14 g15 w16 g17 w18 w19 g20 w21 g22 g23 g24 w25 w26 w27 g28 g29 w30 g31 g32 g33 fa fo fp)) args s 0 0 A) (F0 m 42 ls []) := by
          intro fu_42
          induction fu_42 with
          | zero => intro k42 gb42 hk42 hmu; exact absurd hmu (Nat.not_lt_zero _)
          | succ fu_42 ih_42 =>
            intro k42 gb42 hk42 hmu_42 H locs ls V hl
            refine lv_iload hx hb dX8_lays_42 (lv_at hl 0 rfl) ?_
            refine lv_iload_n hx hb dX8_lays_44 rfl (lv_at hl 2 rfl) ?_
            refine lv_icmp_ge (tgt := 68) hx hb dX8_lays_45 (by decide) (fun c_4 => ?_) (fun c_4 => ?_)
            · skip
              have c_4 := b_le (by omega) (by omega) c_4
              exact g_vret (Qr := (q_m_lays7 T n o u sum w0 g1 g2 g3 g4 tp w6 w7 w8 w9 w10 w11 w12 w13 w14 g15 w16 g17 w18 w19 g20 w21 g22 g23 g24 w25 w26 w27 g28 g29 w30 g31 g32 g33 fa fo fp)) hC V ⟨(Nat.le_of_ble_eq_true rfl), (Nat.le_of_ble_eq_true rfl)⟩ ⟨sum, fo, gb42, rfl, rfl, (fun _ _ => rfl)⟩ dX8_lays_68
            · skip
              have c_4 := b_nle (by omega) (by omega) c_4
              refine lv_aload_n hx hb dX8_lays_48 rfl (lv_at hl 1 rfl) ?_
              refine g_get hC V (ci := 8) uwX8 0 rfl rfl 29 (by decide) w_941 rfl rfl dX8_lays_49 ?_
              refine lv_iload hx hb dX8_lays_52 (lv_at hl 0 rfl) ?_
              refine lv_aload_n hx hb dX8_lays_54 rfl (lv_at hl 1 rfl) ?_
              refine g_get hC V (ci := 8) uwX8 0 rfl rfl 28 (by decide) w_940 rfl rfl dX8_lays_55 ?_
              refine lv_iload hx hb dX8_lays_58 (lv_at hl 0 rfl) ?_
              refine g_iald hC V 2 rfl (vp_in_nI (by omega) (by omega)) (v := (fo k42)) (congrArg _ (nI_clamp (by omega))) dX8_lays_60 ?_
              refine g_iast hC V 3 rfl (vp_in_nI (by omega) (by omega)) (f' := (upd gb42 k42 (fo k42))) (by rw [nI_clamp (by omega)]) (ws' := [(o, .inr (8, [.int w0, .ref g1, .ref g2, .ref g3, .ref g4, .int (nI tp), .int w6, .int w7, .int w8, .int w9, .int w10, .int w11, .int w12, .int w13, .int w14, .ref g15, .int w16, .ref g17, .int w18, .int w19, .ref g20, .int w21, .ref g22, .ref g23, .ref g24, .int w25, .int w26, .int w27, .ref g28, .ref g29, .int sum, .ref g31, .ref g32, .ref g33])), (g1, .inl (T 0, 282, .inl fa)), (g28, .inl (T 0, 7, .inl fo)), (g29, .inl (T 0, 7, .inl (upd gb42 k42 (fo k42))))]) rfl dX8_lays_61 (fun H locs V => ?_)
              refine lv_iinc (v := (nI (k42 + 1))) (lv' := [(4, .int (nI (k42 + 1))), (0, .ref o), (1, .int (nI 7)), (2, .int (nI u)), (3, .int sum)]) hx hb dX8_lays_62 hl (k := 0) rfl (nI_1 _) (by decide) rfl (fun ls hl => ?_)
              refine lv_goto (tgt := 42) hx hb dX8_lays_65 (by decide) ?_
              exact ih_42 (k42 + 1) (upd gb42 k42 (fo k42)) (by omega) (by omega) _ _ _ V (lv_sub hl [0, 1, 2, 3, 4] rfl)
        exact L_3 _ 0 fp (by omega) (Nat.lt_succ_self _) _ _ _ V (lv_sub hl [0, 1, 2, 3, 4] rfl)
      · skip
        refine lv_iload_n hx hb dX8_lays_25 rfl (lv_at hl 3 rfl) ?_
        refine lv_aload_n hx hb dX8_lays_26 rfl (lv_at hl 0 rfl) ?_
        refine g_get hC V (ci := 8) uwX8 0 rfl rfl 30 (by decide) w_942 rfl rfl dX8_lays_27 ?_
        refine lv_icmp_lt (tgt := 34) hx hb dX8_lays_30 (by decide) (fun c_5 => ?_) (fun c_5 => ?_)
        · skip
          refine lv_aload_n hx hb dX8_lays_34 rfl (lv_at hl 0 rfl) ?_
          refine lv_iload_n hx hb dX8_lays_35 rfl (lv_at hl 3 rfl) ?_
          refine g_put hC V (ci := 8) uwX8 tyX8 tyX8_ok nmX8 0 rfl rfl 30 (by decide) w_942 rfl rfl rfl rfl (Nat.le_of_ble_eq_true rfl) (ws' := [(o, .inr (8, [.int w0, .ref g1, .ref g2, .ref g3, .ref g4, .int (nI tp), .int w6, .int w7, .int w8, .int w9, .int w10, .int w11, .int w12, .int w13, .int w14, .ref g15, .int w16, .ref g17, .int w18, .int w19, .ref g20, .int w21, .ref g22, .ref g23, .ref g24, .int w25, .int w26, .int w27, .ref g28, .ref g29, .int sum, .ref g31, .ref g32, .ref g33])), (g1, .inl (T 0, 282, .inl fa)), (g28, .inl (T 0, 7, .inl fo)), (g29, .inl (T 0, 7, .inl fp))]) rfl dX8_lays_36 (fun H locs V => ?_)
          refine lv_iconst (v := (nI 0)) hx hb dX8_lays_39 (by decide +kernel) ?_
          refine lv_istore (lv' := [(4, .int (nI 0)), (0, .ref o), (1, .int (nI 7)), (2, .int (nI u)), (3, .int sum)]) hx hb dX8_lays_40 hl (by decide) rfl (fun ls hl => ?_)
          have L_6 : ∀ (fu : Nat) (k42 : Nat) (gb42 : Nat → Int32), k42 ≤ 7 → 7 - k42 < fu → ∀ (H : Heap) (locs : List Loc) (ls : Array Slot), gW D T A s [(o, .inr (8, [.int w0, .ref g1, .ref g2, .ref g3, .ref g4, .int (nI tp), .int w6, .int w7, .int w8, .int w9, .int w10, .int w11, .int w12, .int w13, .int w14, .ref g15, .int w16, .ref g17, .int w18, .int w19, .ref g20, .int w21, .ref g22, .ref g23, .ref g24, .int w25, .int w26, .int w27, .ref g28, .ref g29, .int sum, .ref g31, .ref g32, .ref g33])), (g1, .inl (T 0, 282, .inl fa)), (g28, .inl (T 0, 7, .inl fo)), (g29, .inl (T 0, 7, .inl gb42))] H locs → lv_has ls 5 [(4, .int (nI k42)), (0, .ref o), (1, .int (nI 7)), (2, .int (nI u)), (3, .int sum)] → W p l e (rmD 2 0 0) s m args below meth c H locs 0 0 (MQ below (gQ D A (q_m_lays7 T n o u sum w0 g1 g2 g3 g4 tp w6 w7 w8 w9 w10 w11 w12 w13 w14 g15 w16 g17 w18 w19 g20 w21 g22 g23 g24 w25 w26 w27 g28 g29 w30 g31 g32 g33 fa fo fp)) args s 0 0 A) (F0 m 42 ls []) := by
            intro fu_42
            induction fu_42 with
            | zero => intro k42 gb42 hk42 hmu; exact absurd hmu (Nat.not_lt_zero _)
            | succ fu_42 ih_42 =>
              intro k42 gb42 hk42 hmu_42 H locs ls V hl
              refine lv_iload hx hb dX8_lays_42 (lv_at hl 0 rfl) ?_
              refine lv_iload_n hx hb dX8_lays_44 rfl (lv_at hl 2 rfl) ?_
              refine lv_icmp_ge (tgt := 68) hx hb dX8_lays_45 (by decide) (fun c_7 => ?_) (fun c_7 => ?_)
              · skip
                have c_7 := b_le (by omega) (by omega) c_7
                exact g_vret (Qr := (q_m_lays7 T n o u sum w0 g1 g2 g3 g4 tp w6 w7 w8 w9 w10 w11 w12 w13 w14 g15 w16 g17 w18 w19 g20 w21 g22 g23 g24 w25 w26 w27 g28 g29 w30 g31 g32 g33 fa fo fp)) hC V ⟨(Nat.le_of_ble_eq_true rfl), (Nat.le_of_ble_eq_true rfl)⟩ ⟨sum, fo, gb42, rfl, rfl, (fun _ _ => rfl)⟩ dX8_lays_68
              · skip
                have c_7 := b_nle (by omega) (by omega) c_7
                refine lv_aload_n hx hb dX8_lays_48 rfl (lv_at hl 1 rfl) ?_
                refine g_get hC V (ci := 8) uwX8 0 rfl rfl 29 (by decide) w_941 rfl rfl dX8_lays_49 ?_
                refine lv_iload hx hb dX8_lays_52 (lv_at hl 0 rfl) ?_
                refine lv_aload_n hx hb dX8_lays_54 rfl (lv_at hl 1 rfl) ?_
                refine g_get hC V (ci := 8) uwX8 0 rfl rfl 28 (by decide) w_940 rfl rfl dX8_lays_55 ?_
                refine lv_iload hx hb dX8_lays_58 (lv_at hl 0 rfl) ?_
                refine g_iald hC V 2 rfl (vp_in_nI (by omega) (by omega)) (v := (fo k42)) (congrArg _ (nI_clamp (by omega))) dX8_lays_60 ?_
                refine g_iast hC V 3 rfl (vp_in_nI (by omega) (by omega)) (f' := (upd gb42 k42 (fo k42))) (by rw [nI_clamp (by omega)]) (ws' := [(o, .inr (8, [.int w0, .ref g1, .ref g2, .ref g3, .ref g4, .int (nI tp), .int w6, .int w7, .int w8, .int w9, .int w10, .int w11, .int w12, .int w13, .int w14, .ref g15, .int w16, .ref g17, .int w18, .int w19, .ref g20, .int w21, .ref g22, .ref g23, .ref g24, .int w25, .int w26, .int w27, .ref g28, .ref g29, .int sum, .ref g31, .ref g32, .ref g33])), (g1, .inl (T 0, 282, .inl fa)), (g28, .inl (T 0, 7, .inl fo)), (g29, .inl (T 0, 7, .inl (upd gb42 k42 (fo k42))))]) rfl dX8_lays_61 (fun H locs V => ?_)
                refine lv_iinc (v := (nI (k42 + 1))) (lv' := [(4, .int (nI (k42 + 1))), (0, .ref o), (1, .int (nI 7)), (2, .int (nI u)), (3, .int sum)]) hx hb dX8_lays_62 hl (k := 0) rfl (nI_1 _) (by decide) rfl (fun ls hl => ?_)
                refine lv_goto (tgt := 42) hx hb dX8_lays_65 (by decide) ?_
                exact ih_42 (k42 + 1) (upd gb42 k42 (fo k42)) (by omega) (by omega) _ _ _ V (lv_sub hl [0, 1, 2, 3, 4] rfl)
          exact L_6 _ 0 fp (by omega) (Nat.lt_succ_self _) _ _ _ V (lv_sub hl [0, 1, 2, 3, 4] rfl)
        · skip
          exact g_vret (Qr := (q_m_lays7 T n o u sum w0 g1 g2 g3 g4 tp w6 w7 w8 w9 w10 w11 w12 w13 w14 g15 w16 g17 w18 w19 g20 w21 g22 g23 g24 w25 w26 w27 g28 g29 w30 g31 g32 g33 fa fo fp)) hC V ⟨(Nat.le_of_ble_eq_true rfl), (Nat.le_of_ble_eq_true rfl)⟩ ⟨w30, fo, fp, rfl, rfl, (fun _ _ => rfl)⟩ dX8_lays_33
    · have V : gW D T A s [(o, .inr (8, [.int w0, .ref g1, .ref g2, .ref g3, .ref g4, .int (nI tp), .int w6, .int w7, .int w8, .int w9, .int w10, .int w11, .int w12, .int w13, .int w14, .ref g15, .int w16, .ref g17, .int w18, .int w19, .ref g20, .int w21, .ref g22, .ref g23, .ref g24, .int w25, .int w26, .int w27, .ref g28, .ref g29, .int w30, .ref g31, .ref g32, .ref g33])), (g1, .inl (T 0, 282, .inl fa)), (g28, .inl (T 0, 7, .inl fo)), (g29, .inl (T 0, 7, .inl fp))] H locs := V _ [0, 0, 0] rfl rfl rfl (by decide +kernel) rfl
      show W p l e _ s m args below meth c H locs _ _ _ (F0 m 14 ls [.int (nI 0)])
      refine lv_if_eq (tgt := 33) hx hb dX8_lays_14 (by decide) (fun _ => ?_) (fun c => absurd (show (nI 0) = 0 by decide +kernel) c)
      exact g_vret (Qr := (q_m_lays7 T n o u sum w0 g1 g2 g3 g4 tp w6 w7 w8 w9 w10 w11 w12 w13 w14 g15 w16 g17 w18 w19 g20 w21 g22 g23 g24 w25 w26 w27 g28 g29 w30 g31 g32 g33 fa fo fp)) hC V ⟨(Nat.le_of_ble_eq_true rfl), (Nat.le_of_ble_eq_true rfl)⟩ ⟨w30, fo, fp, rfl, rfl, (fun _ _ => rfl)⟩ dX8_lays_33

def q_m_lays6 (T : Nat → ClassId) (n : Nat) (o : Nat) (u : Nat) (sum : Int32) (w0 : Int32) (g1 : Nat) (g2 : Nat) (g3 : Nat) (g4 : Nat) (tp : Nat) (w6 : Int32) (w7 : Int32) (w8 : Int32) (w9 : Int32) (w10 : Int32) (w11 : Int32) (w12 : Int32) (w13 : Int32) (w14 : Int32) (g15 : Nat) (w16 : Int32) (g17 : Nat) (w18 : Int32) (w19 : Int32) (g20 : Nat) (w21 : Int32) (g22 : Nat) (g23 : Nat) (g24 : Nat) (w25 : Int32) (w26 : Int32) (w27 : Int32) (g28 : Nat) (g29 : Nat) (w30 : Int32) (g31 : Nat) (g32 : Nat) (g33 : Nat) (fa : Nat → Int32) (fo : Nat → Int32) (fp : Nat → Int32) : Option Value → va_W → Prop := fun rr ww => (∃ (bs : Int32) (go : Nat → Int32) (gp : Nat → Int32), rr = none ∧ ww = [(o, .inr (8, [.int w0, .ref g1, .ref g2, .ref g3, .ref g4, .int (nI tp), .int w6, .int w7, .int w8, .int w9, .int w10, .int w11, .int w12, .int w13, .int w14, .ref g15, .int w16, .ref g17, .int w18, .int w19, .ref g20, .int w21, .ref g22, .ref g23, .ref g24, .int w25, .int w26, .int w27, .ref g28, .ref g29, .int bs, .ref g31, .ref g32, .ref g33])), (g1, .inl (T 0, 282, .inl fa)), (g28, .inl (T 0, 7, .inl go)), (g29, .inl (T 0, 7, .inl gp))] ∧ (∀ j, j < 6 → go j = fo j))
set_option maxHeartbeats 4000000 in
set_option maxRecDepth 100000 in
theorem m_lays6 (l : Launch) (D : va_G) (T : Nat → ClassId) (n : Nat) (o : Nat) (u : Nat) (sum : Int32) (w0 : Int32) (g1 : Nat) (g2 : Nat) (g3 : Nat) (g4 : Nat) (tp : Nat) (w6 : Int32) (w7 : Int32) (w8 : Int32) (w9 : Int32) (w10 : Int32) (w11 : Int32) (w12 : Int32) (w13 : Int32) (w14 : Int32) (g15 : Nat) (w16 : Int32) (g17 : Nat) (w18 : Int32) (w19 : Int32) (g20 : Nat) (w21 : Int32) (g22 : Nat) (g23 : Nat) (g24 : Nat) (w25 : Int32) (w26 : Int32) (w27 : Int32) (g28 : Nat) (g29 : Nat) (w30 : Int32) (g31 : Nat) (g32 : Nat) (g33 : Nat) (fa : Nat → Int32) (fo : Nat → Int32) (fp : Nat → Int32) (h_a : MI n fa) (h_li : LI 6 fo) (h_lt : ∀ j, j < 6 → toF fo j < n) (h_ub : UB 6 u fo) (h_1 : 1 ≤ n) (h_7 : n ≤ 7) (h_kn : 6 ≤ n) : Ct l yX8_lays cX8_lays 5 none 3 0 0 D T [.ref o, .int (nI 6), .int (nI u), .int sum] [(o, .inr (8, [.int w0, .ref g1, .ref g2, .ref g3, .ref g4, .int (nI tp), .int w6, .int w7, .int w8, .int w9, .int w10, .int w11, .int w12, .int w13, .int w14, .ref g15, .int w16, .ref g17, .int w18, .int w19, .ref g20, .int w21, .ref g22, .ref g23, .ref g24, .int w25, .int w26, .int w27, .ref g28, .ref g29, .int w30, .ref g31, .ref g32, .ref g33])), (g1, .inl (T 0, 282, .inl fa)), (g28, .inl (T 0, 7, .inl fo)), (g29, .inl (T 0, 7, .inl fp))] (q_m_lays6 T n o u sum w0 g1 g2 g3 g4 tp w6 w7 w8 w9 w10 w11 w12 w13 w14 g15 w16 g17 w18 w19 g20 w21 g22 g23 g24 w25 w26 w27 g28 g29 w30 g31 g32 g33 fa fo fp) := by
  refine Ct.of (cc := cX8_lays) (maxL := 5) (ret := none) (by decide) (Nat.le_of_ble_eq_true rfl) ?_
  intro p e s m args below meth c A ls hC hnm V hl
  obtain ⟨hx, hb, hr, hml, hown, hts, hlocks⟩ := id hC
  generalize hH : s.heap = H at V ⊢
  clear hH
  have hl : lv_has ls 5 [(0, .ref o), (1, .int (nI 6)), (2, .int (nI u)), (3, .int sum)] := hl
  generalize hlo : ([] : List Loc) = locs at V ⊢
  clear hlo
  have ms0 := ms_rf h_a
  have hn10 := h_a.1
  have hu := h_ub.1
  refine lv_iload_n hx hb dX8_lays_0 rfl (lv_at hl 1 rfl) ?_
  refine lv_aload_n hx hb dX8_lays_1 rfl (lv_at hl 0 rfl) ?_
  refine g_get hC V (ci := 8) uwX8 0 rfl rfl 1 (by decide) w_913 rfl rfl dX8_lays_2 ?_
  refine lv_iconst (v := (nI 0)) hx hb dX8_lays_5 (by decide +kernel) ?_
  refine g_iald hC V 1 rfl (vp_in_nI (by decide) (by decide)) (v := (nI n)) (by rw [nI_clamp (by decide)]; first | rfl | exact h_a.2.1) dX8_lays_6 ?_
  refine lv_icmp_ne (tgt := 69) hx hb dX8_lays_7 (by decide) (fun c_1 => ?_) (fun c_1 => ?_)
  · skip
    have c_1 := b_ne (by omega) (by omega) c_1
    refine lv_iconst (v := (nI 0)) hx hb dX8_lays_69 (by decide +kernel) ?_
    refine lv_istore (lv' := [(4, .int (nI 0)), (0, .ref o), (1, .int (nI 6)), (2, .int (nI u)), (3, .int sum)]) hx hb dX8_lays_70 hl (by decide) rfl (fun ls hl => ?_)
    have L_2 : ∀ (fu : Nat) (k72 : Nat) (bv : Int32) (f72 : Nat → Int32) (gb72 : Nat → Int32), k72 ≤ n → (∀ j, j < 6 → f72 j = fo j) → n - k72 < fu → ∀ (H : Heap) (locs : List Loc) (ls : Array Slot), gW D T A s [(o, .inr (8, [.int w0, .ref g1, .ref g2, .ref g3, .ref g4, .int (nI tp), .int w6, .int w7, .int w8, .int w9, .int w10, .int w11, .int w12, .int w13, .int w14, .ref g15, .int w16, .ref g17, .int w18, .int w19, .ref g20, .int w21, .ref g22, .ref g23, .ref g24, .int w25, .int w26, .int w27, .ref g28, .ref g29, .int bv, .ref g31, .ref g32, .ref g33])), (g1, .inl (T 0, 282, .inl fa)), (g28, .inl (T 0, 7, .inl f72)), (g29, .inl (T 0, 7, .inl gb72))] H locs → lv_has ls 5 [(4, .int (nI k72)), (0, .ref o), (1, .int (nI 6)), (2, .int (nI u)), (3, .int sum)] → W p l e (rmD 3 0 0) s m args below meth c H locs 0 0 (MQ below (gQ D A (q_m_lays6 T n o u sum w0 g1 g2 g3 g4 tp w6 w7 w8 w9 w10 w11 w12 w13 w14 g15 w16 g17 w18 w19 g20 w21 g22 g23 g24 w25 w26 w27 g28 g29 w30 g31 g32 g33 fa fo fp)) args s 0 0 A) (F0 m 72 ls []) := by
      intro fu_72
      induction fu_72 with
      | zero => intro k72 bv f72 gb72 hk72 hpre hmu; exact absurd hmu (Nat.not_lt_zero _)
      | succ fu_72 ih_72 =>
        intro k72 bv f72 gb72 hk72 hpre hmu_72 H locs ls V hl
        refine lv_iload hx hb dX8_lays_72 (lv_at hl 0 rfl) ?_
        refine lv_aload_n hx hb dX8_lays_74 rfl (lv_at hl 1 rfl) ?_
        refine g_get hC V (ci := 8) uwX8 0 rfl rfl 1 (by decide) w_913 rfl rfl dX8_lays_75 ?_
        refine lv_iconst (v := (nI 0)) hx hb dX8_lays_78 (by decide +kernel) ?_
        refine g_iald hC V 1 rfl (vp_in_nI (by decide) (by decide)) (v := (nI n)) (by rw [nI_clamp (by decide)]; first | rfl | exact h_a.2.1) dX8_lays_79 ?_
        refine lv_icmp_ge (tgt := 132) hx hb dX8_lays_80 (by decide) (fun c_3 => ?_) (fun c_3 => ?_)
        · skip
          have c_3 := b_le (by omega) (by omega) c_3
          exact g_vret (Qr := (q_m_lays6 T n o u sum w0 g1 g2 g3 g4 tp w6 w7 w8 w9 w10 w11 w12 w13 w14 g15 w16 g17 w18 w19 g20 w21 g22 g23 g24 w25 w26 w27 g28 g29 w30 g31 g32 g33 fa fo fp)) hC V ⟨(Nat.le_of_ble_eq_true rfl), (Nat.le_of_ble_eq_true rfl)⟩ ⟨bv, f72, gb72, rfl, rfl, hpre⟩ dX8_lays_132
        · skip
          have c_3 := b_nle (by omega) (by omega) c_3
          refine lv_iload_n hx hb dX8_lays_83 rfl (lv_at hl 3 rfl) ?_
          refine lv_i2l (v := (nI u).toInt64) hx hb dX8_lays_84 rfl ?_
          refine lv_iload hx hb dX8_lays_85 (lv_at hl 0 rfl) ?_
          refine g_callSU (nA := 2) hC V hl.1 (m_isIn7 l D T u k72 h_ub.1 (by omega)) w_1130 w_1131 w_9 w_1132 (by decide +kernel) rfl ⟨(Nat.le_of_ble_eq_true rfl), (Nat.le_of_ble_eq_true rfl)⟩ [] rfl rfl (Nat.le_of_ble_eq_true rfl) dX8_lays_87 ⟨(Nat.le_of_ble_eq_true rfl), (Nat.le_of_ble_eq_true rfl)⟩ rfl (fun r w1 H locs hQ V => ?_)
          rcases hQ with ⟨rfl, rfl, f_4⟩ | ⟨rfl, rfl, f_5⟩
          · have V : gW D T A s [(o, .inr (8, [.int w0, .ref g1, .ref g2, .ref g3, .ref g4, .int (nI tp), .int w6, .int w7, .int w8, .int w9, .int w10, .int w11, .int w12, .int w13, .int w14, .ref g15, .int w16, .ref g17, .int w18, .int w19, .ref g20, .int w21, .ref g22, .ref g23, .ref g24, .int w25, .int w26, .int w27, .ref g28, .ref g29, .int bv, .ref g31, .ref g32, .ref g33])), (g1, .inl (T 0, 282, .inl fa)), (g28, .inl (T 0, 7, .inl f72)), (g29, .inl (T 0, 7, .inl gb72))] H locs := V _ [] rfl rfl rfl (by decide +kernel) rfl
            show W p l e _ s m args below meth c H locs _ _ _ (F0 m 90 ls [.int (nI 1)])
            refine lv_if_eq (tgt := 96) hx hb dX8_lays_90 (by decide) (fun c => absurd (show (nI 1) = 0 from c) (by decide +kernel)) (fun _ => ?_)
            refine lv_goto (tgt := 126) hx hb dX8_lays_93 (by decide) ?_
            refine lv_iinc (v := (nI (k72 + 1))) (lv' := [(4, .int (nI (k72 + 1))), (0, .ref o), (1, .int (nI 6)), (2, .int (nI u)), (3, .int sum)]) hx hb dX8_lays_126 hl (k := 0) rfl (nI_1 _) (by decide) rfl (fun ls hl => ?_)
            refine lv_goto (tgt := 72) hx hb dX8_lays_129 (by decide) ?_
            exact ih_72 (k72 + 1) bv f72 gb72 (by omega) (by assumption) (by omega) _ _ _ V (lv_sub hl [0, 1, 2, 3, 4] rfl)
          · have V : gW D T A s [(o, .inr (8, [.int w0, .ref g1, .ref g2, .ref g3, .ref g4, .int (nI tp), .int w6, .int w7, .int w8, .int w9, .int w10, .int w11, .int w12, .int w13, .int w14, .ref g15, .int w16, .ref g17, .int w18, .int w19, .ref g20, .int w21, .ref g22, .ref g23, .ref g24, .int w25, .int w26, .int w27, .ref g28, .ref g29, .int bv, .ref g31, .ref g32, .ref g33])), (g1, .inl (T 0, 282, .inl fa)), (g28, .inl (T 0, 7, .inl f72)), (g29, .inl (T 0, 7, .inl gb72))] H locs := V _ [] rfl rfl rfl (by decide +kernel) rfl
            show W p l e _ s m args below meth c H locs _ _ _ (F0 m 90 ls [.int (nI 0)])
            refine lv_if_eq (tgt := 96) hx hb dX8_lays_90 (by decide) (fun _ => ?_) (fun c => absurd (show (nI 0) = 0 by decide +kernel) c)
            refine lv_aload_n hx hb dX8_lays_96 rfl (lv_at hl 1 rfl) ?_
            refine g_get hC V (ci := 8) uwX8 0 rfl rfl 28 (by decide) w_940 rfl rfl dX8_lays_97 ?_
            refine lv_iload_n hx hb dX8_lays_100 rfl (lv_at hl 2 rfl) ?_
            refine lv_iload hx hb dX8_lays_101 (lv_at hl 0 rfl) ?_
            refine g_iast hC V 2 rfl (vp_in_nI (by decide) (by decide)) (f' := (upd f72 6 (nI k72))) (by rw [nI_clamp (by decide)]) (ws' := [(o, .inr (8, [.int w0, .ref g1, .ref g2, .ref g3, .ref g4, .int (nI tp), .int w6, .int w7, .int w8, .int w9, .int w10, .int w11, .int w12, .int w13, .int w14, .ref g15, .int w16, .ref g17, .int w18, .int w19, .ref g20, .int w21, .ref g22, .ref g23, .ref g24, .int w25, .int w26, .int w27, .ref g28, .ref g29, .int bv, .ref g31, .ref g32, .ref g33])), (g1, .inl (T 0, 282, .inl fa)), (g28, .inl (T 0, 7, .inl (upd f72 6 (nI k72)))), (g29, .inl (T 0, 7, .inl gb72))]) rfl dX8_lays_103 (fun H locs V => ?_)
            refine lv_aload_n hx hb dX8_lays_104 rfl (lv_at hl 1 rfl) ?_
            refine lv_iload_n hx hb dX8_lays_105 rfl (lv_at hl 2 rfl) ?_
            refine lv_iconst (v := (nI 1)) hx hb dX8_lays_106 (by decide +kernel) ?_
            refine lv_iadd hx hb dX8_lays_107 ?_
            refine g_vi (y := (nI 7)) (by decide +kernel) ?_
            refine lv_iload_n hx hb dX8_lays_108 rfl (lv_at hl 3 rfl) ?_
            refine lv_iconst (v := (nI 1)) hx hb dX8_lays_109 (by decide +kernel) ?_
            refine lv_iload hx hb dX8_lays_110 (lv_at hl 0 rfl) ?_
            refine lv_ishl hx hb dX8_lays_112 ?_
            refine g_vi (y := (nI (2 ^ k72))) (shl_pow (by omega)) ?_
            refine lv_ior hx hb dX8_lays_113 ?_
            refine g_vi (y := nI (u ||| (2 ^ k72))) (or7 (by omega) (by omega)) ?_
            refine lv_iload_n hx hb dX8_lays_114 rfl (lv_at hl 4 rfl) ?_
            refine lv_aload_n hx hb dX8_lays_115 rfl (lv_at hl 1 rfl) ?_
            refine lv_iload_n hx hb dX8_lays_116 rfl (lv_at hl 2 rfl) ?_
            refine lv_iload hx hb dX8_lays_117 (lv_at hl 0 rfl) ?_
            refine g_callVU (nA := 2) hC V hl.1 (m_offBy l D T o 6 k72 w0 g1 g2 g3 g4 tp w6 w7 w8 w9 w10 w11 w12 w13 w14 g15 w16 g17 w18 w19 g20 w21 g22 g23 g24 w25 w26 w27 g28 g29 bv g31 g32 g33 fa (by first | assumption | omega) (by first | assumption | omega)) w_1328 w_1330 w_s77 w_9 w_1331 (by decide +kernel) rfl ⟨(Nat.le_of_ble_eq_true rfl), (Nat.le_of_ble_eq_true rfl)⟩ 0 (ci := 8) rfl rfl [0, 1] rfl rfl (Nat.le_of_ble_eq_true rfl) dX8_lays_119 ⟨(Nat.le_of_ble_eq_true rfl), (Nat.le_of_ble_eq_true rfl)⟩ rfl (fun r w1 H locs hQ V => ?_)
            obtain ⟨z_6, rfl, rfl⟩ := hQ
            have V : gW D T A s [(o, .inr (8, [.int w0, .ref g1, .ref g2, .ref g3, .ref g4, .int (nI tp), .int w6, .int w7, .int w8, .int w9, .int w10, .int w11, .int w12, .int w13, .int w14, .ref g15, .int w16, .ref g17, .int w18, .int w19, .ref g20, .int w21, .ref g22, .ref g23, .ref g24, .int w25, .int w26, .int w27, .ref g28, .ref g29, .int bv, .ref g31, .ref g32, .ref g33])), (g1, .inl (T 0, 282, .inl fa)), (g28, .inl (T 0, 7, .inl (upd f72 6 (nI k72)))), (g29, .inl (T 0, 7, .inl gb72))] H locs := V _ [0, 0] rfl rfl rfl (by decide +kernel) rfl
            show W p l e _ s m args below meth c H locs _ _ _ (F0 m 122 ls [.int z_6, .int sum, .int (nI (u ||| (2 ^ k72))), .int (nI 7), .ref o])
            refine lv_iadd hx hb dX8_lays_122 ?_
            refine g_callV (wr := []) (nA := 3) hC V hl.1 (m_lays7 l D T n o (u ||| (2 ^ k72)) (sum + z_6) w0 g1 g2 g3 g4 tp w6 w7 w8 w9 w10 w11 w12 w13 w14 g15 w16 g17 w18 w19 g20 w21 g22 g23 g24 w25 w26 w27 g28 g29 bv g31 g32 g33 fa (upd f72 6 (nI k72)) gb72 h_a (li_put (li_ext h_li hpre) (by omega) (ub_free (ub_ext h_ub hpre) (by assumption))) (lt_put h_lt hpre (by omega) h_7) (ub_put (ub_ext h_ub hpre) (by omega)) h_1 h_7 (by omega)) w_1320 w_1322 w_s75 w_9 w_1323 (by decide +kernel) rfl ⟨(Nat.le_of_ble_eq_true rfl), (Nat.le_of_ble_eq_true rfl)⟩ 0 (ci := 8) rfl rfl [0, 1, 2, 3] [] rfl rfl rfl rfl (by decide) (Nat.le_of_ble_eq_true rfl) dX8_lays_123 ⟨(Nat.le_of_ble_eq_true rfl), (Nat.le_of_ble_eq_true rfl)⟩ rfl (fun r w1 H locs hQ V => ?_)
            obtain ⟨bs_7, go_8, gp_9, rfl, rfl, f_10⟩ := hQ
            have V : gW D T A s [(o, .inr (8, [.int w0, .ref g1, .ref g2, .ref g3, .ref g4, .int (nI tp), .int w6, .int w7, .int w8, .int w9, .int w10, .int w11, .int w12, .int w13, .int w14, .ref g15, .int w16, .ref g17, .int w18, .int w19, .ref g20, .int w21, .ref g22, .ref g23, .ref g24, .int w25, .int w26, .int w27, .ref g28, .ref g29, .int bs_7, .ref g31, .ref g32, .ref g33])), (g1, .inl (T 0, 282, .inl fa)), (g28, .inl (T 0, 7, .inl go_8)), (g29, .inl (T 0, 7, .inl gp_9))] H locs := V
            show W p l e _ s m args below meth c H locs _ _ _ (F0 m 126 ls [])
            have hpre2 : ∀ j, j < 6 → go_8 j = fo j := fun j hj => (f_10 j (by omega)).trans ((up_other (by omega)).trans (hpre j hj))
            refine lv_iinc (v := (nI (k72 + 1))) (lv' := [(4, .int (nI (k72 + 1))), (0, .ref o), (1, .int (nI 6)), (2, .int (nI u)), (3, .int sum)]) hx hb dX8_lays_126 hl (k := 0) rfl (nI_1 _) (by decide) rfl (fun ls hl => ?_)
            refine lv_goto (tgt := 72) hx hb dX8_lays_129 (by decide) ?_
            exact ih_72 (k72 + 1) bs_7 go_8 gp_9 (by omega) (by assumption) (by omega) _ _ _ V (lv_sub hl [0, 1, 2, 3, 4] rfl)
    exact L_2 _ 0 w30 fo fp (by omega) (fun _ _ => rfl) (Nat.lt_succ_self _) _ _ _ V (lv_sub hl [0, 1, 2, 3, 4] rfl)
  · skip
    have c_1 := b_eq (by omega) (by omega) c_1
    have hkn : 6 = n := c_1
    refine lv_aload_n hx hb dX8_lays_10 rfl (lv_at hl 0 rfl) ?_
    refine g_callVU (nA := 0) hC V hl.1 (m_isOneRing l D T n o w0 g1 g2 g3 g4 tp w6 w7 w8 w9 w10 w11 w12 w13 w14 g15 w16 g17 w18 w19 g20 w21 g22 g23 g24 w25 w26 w27 g28 g29 w30 g31 g32 g33 fa fo h_a (lf_of h_li h_lt (by omega)) h_1 h_7) w_1324 w_1326 w_s76 w_9 w_1327 (by decide +kernel) rfl ⟨(Nat.le_of_ble_eq_true rfl), (Nat.le_of_ble_eq_true rfl)⟩ 0 (ci := 8) rfl rfl [0, 1, 2] rfl rfl (Nat.le_of_ble_eq_true rfl) dX8_lays_11 ⟨(Nat.le_of_ble_eq_true rfl), (Nat.le_of_ble_eq_true rfl)⟩ rfl (fun r w1 H locs hQ V => ?_)
    rcases hQ with ⟨rfl, rfl⟩ | ⟨rfl, rfl⟩
    · have V : gW D T A s [(o, .inr (8, [.int w0, .ref g1, .ref g2, .ref g3, .ref g4, .int (nI tp), .int w6, .int w7, .int w8, .int w9, .int w10, .int w11, .int w12, .int w13, .int w14, .ref g15, .int w16, .ref g17, .int w18, .int w19, .ref g20, .int w21, .ref g22, .ref g23, .ref g24, .int w25, .int w26, .int w27, .ref g28, .ref g29, .int w30, .ref g31, .ref g32, .ref g33])), (g1, .inl (T 0, 282, .inl fa)), (g28, .inl (T 0, 7, .inl fo)), (g29, .inl (T 0, 7, .inl fp))] H locs := V _ [0, 0, 0] rfl rfl rfl (by decide +kernel) rfl
      show W p l e _ s m args below meth c H locs _ _ _ (F0 m 14 ls [.int (nI 1)])
      refine lv_if_eq (tgt := 33) hx hb dX8_lays_14 (by decide) (fun c => absurd (show (nI 1) = 0 from c) (by decide +kernel)) (fun _ => ?_)
      refine lv_aload_n hx hb dX8_lays_17 rfl (lv_at hl 0 rfl) ?_
      refine g_get hC V (ci := 8) uwX8 0 rfl rfl 30 (by decide) w_942 rfl rfl dX8_lays_18 ?_
      refine lv_iconst (v := (-1)) hx hb dX8_lays_21 (by decide +kernel) ?_
      refine lv_icmp_eq (tgt := 34) hx hb dX8_lays_22 (by decide) (fun c_11 => ?_) (fun c_11 => ?_)
      · skip
        refine lv_aload_n hx hb dX8_lays_34 rfl (lv_at hl 0 rfl) ?_
        refine lv_iload_n hx hb dX8_lays_35 rfl (lv_at hl 3 rfl) ?_
        refine g_put hC V (ci := 8) uwX8 tyX8 tyX8_ok nmX8 0 rfl rfl 30 (by decide) w_942 rfl rfl rfl rfl (Nat.le_of_ble_eq_true rfl) (ws' := [(o, .inr (8, [.int w0, .ref g1, .ref g2, .ref g3, .ref g4, .int (nI tp), .int w6, .int w7, .int w8, .int w9, .int w10, .int w11, .int w12, .int w13, .int w14, .ref g15, .int w16, .ref g17, .int w18, .int w19, .ref g20, .int w21, .ref g22, .ref g23, .ref g24, .int w25, .int w26, .int w27, .ref g28, .ref g29, .int sum, .ref g31, .ref g32, .ref g33])), (g1, .inl (T 0, 282, .inl fa)), (g28, .inl (T 0, 7, .inl fo)), (g29, .inl (T 0, 7, .inl fp))]) rfl dX8_lays_36 (fun H locs V => ?_)
        refine lv_iconst (v := (nI 0)) hx hb dX8_lays_39 (by decide +kernel) ?_
        refine lv_istore (lv' := [(4, .int (nI 0)), (0, .ref o), (1, .int (nI 6)), (2, .int (nI u)), (3, .int sum)]) hx hb dX8_lays_40 hl (by decide) rfl (fun ls hl => ?_)
        have L_12 : ∀ (fu : Nat) (k42 : Nat) (gb42 : Nat → Int32), k42 ≤ 6 → 6 - k42 < fu → ∀ (H : Heap) (locs : List Loc) (ls : Array Slot), gW D T A s [(o, .inr (8, [.int w0, .ref g1, .ref g2, .ref g3, .ref g4, .int (nI tp), .int w6, .int w7, .int w8, .int w9, .int w10, .int w11, .int w12, .int w13, .int w14, .ref g15, .int w16, .ref g17, .int w18, .int w19, .ref g20, .int w21, .ref g22, .ref g23, .ref g24, .int w25, .int w26, .int w27, .ref g28, .ref g29, .int sum, .ref g31, .ref g32, .ref g33])), (g1, .inl (T 0, 282, .inl fa)), (g28, .inl (T 0, 7, .inl fo)), (g29, .inl (T 0, 7, .inl gb42))] H locs → lv_has ls 5 [(4, .int (nI k42)), (0, .ref o), (1, .int (nI 6)), (2, .int (nI u)), (3, .int sum)] → W p l e (rmD 3 0 0) s m args below meth c H locs 0 0 (MQ below (gQ D A (q_m_lays6 T n o u sum w0 g1 g2 g3 g4 tp w6 w7 w8 w9 w10 w11 w12 w13 w14 g15 w16 g17 w18 w19 g20 w21 g22 g23 g24 w25 w26 w27 g28 g29 w30 g31 g32 g33 fa fo fp)) args s 0 0 A) (F0 m 42 ls []) := by
          intro fu_42
          induction fu_42 with
          | zero => intro k42 gb42 hk42 hmu; exact absurd hmu (Nat.not_lt_zero _)
          | succ fu_42 ih_42 =>
            intro k42 gb42 hk42 hmu_42 H locs ls V hl
            refine lv_iload hx hb dX8_lays_42 (lv_at hl 0 rfl) ?_
            refine lv_iload_n hx hb dX8_lays_44 rfl (lv_at hl 2 rfl) ?_
            refine lv_icmp_ge (tgt := 68) hx hb dX8_lays_45 (by decide) (fun c_13 => ?_) (fun c_13 => ?_)
            · skip
              have c_13 := b_le (by omega) (by omega) c_13
              exact g_vret (Qr := (q_m_lays6 T n o u sum w0 g1 g2 g3 g4 tp w6 w7 w8 w9 w10 w11 w12 w13 w14 g15 w16 g17 w18 w19 g20 w21 g22 g23 g24 w25 w26 w27 g28 g29 w30 g31 g32 g33 fa fo fp)) hC V ⟨(Nat.le_of_ble_eq_true rfl), (Nat.le_of_ble_eq_true rfl)⟩ ⟨sum, fo, gb42, rfl, rfl, (fun _ _ => rfl)⟩ dX8_lays_68
            · skip
              have c_13 := b_nle (by omega) (by omega) c_13
              refine lv_aload_n hx hb dX8_lays_48 rfl (lv_at hl 1 rfl) ?_
              refine g_get hC V (ci := 8) uwX8 0 rfl rfl 29 (by decide) w_941 rfl rfl dX8_lays_49 ?_
              refine lv_iload hx hb dX8_lays_52 (lv_at hl 0 rfl) ?_
              refine lv_aload_n hx hb dX8_lays_54 rfl (lv_at hl 1 rfl) ?_
              refine g_get hC V (ci := 8) uwX8 0 rfl rfl 28 (by decide) w_940 rfl rfl dX8_lays_55 ?_
              refine lv_iload hx hb dX8_lays_58 (lv_at hl 0 rfl) ?_
              refine g_iald hC V 2 rfl (vp_in_nI (by omega) (by omega)) (v := (fo k42)) (congrArg _ (nI_clamp (by omega))) dX8_lays_60 ?_
              refine g_iast hC V 3 rfl (vp_in_nI (by omega) (by omega)) (f' := (upd gb42 k42 (fo k42))) (by rw [nI_clamp (by omega)]) (ws' := [(o, .inr (8, [.int w0, .ref g1, .ref g2, .ref g3, .ref g4, .int (nI tp), .int w6, .int w7, .int w8, .int w9, .int w10, .int w11, .int w12, .int w13, .int w14, .ref g15, .int w16, .ref g17, .int w18, .int w19, .ref g20, .int w21, .ref g22, .ref g23, .ref g24, .int w25, .int w26, .int w27, .ref g28, .ref g29, .int sum, .ref g31, .ref g32, .ref g33])), (g1, .inl (T 0, 282, .inl fa)), (g28, .inl (T 0, 7, .inl fo)), (g29, .inl (T 0, 7, .inl (upd gb42 k42 (fo k42))))]) rfl dX8_lays_61 (fun H locs V => ?_)
              refine lv_iinc (v := (nI (k42 + 1))) (lv' := [(4, .int (nI (k42 + 1))), (0, .ref o), (1, .int (nI 6)), (2, .int (nI u)), (3, .int sum)]) hx hb dX8_lays_62 hl (k := 0) rfl (nI_1 _) (by decide) rfl (fun ls hl => ?_)
              refine lv_goto (tgt := 42) hx hb dX8_lays_65 (by decide) ?_
              exact ih_42 (k42 + 1) (upd gb42 k42 (fo k42)) (by omega) (by omega) _ _ _ V (lv_sub hl [0, 1, 2, 3, 4] rfl)
        exact L_12 _ 0 fp (by omega) (Nat.lt_succ_self _) _ _ _ V (lv_sub hl [0, 1, 2, 3, 4] rfl)
      · skip
        refine lv_iload_n hx hb dX8_lays_25 rfl (lv_at hl 3 rfl) ?_
        refine lv_aload_n hx hb dX8_lays_26 rfl (lv_at hl 0 rfl) ?_
        refine g_get hC V (ci := 8) uwX8 0 rfl rfl 30 (by decide) w_942 rfl rfl dX8_lays_27 ?_
        refine lv_icmp_lt (tgt := 34) hx hb dX8_lays_30 (by decide) (fun c_14 => ?_) (fun c_14 => ?_)
        · skip
          refine lv_aload_n hx hb dX8_lays_34 rfl (lv_at hl 0 rfl) ?_
          refine lv_iload_n hx hb dX8_lays_35 rfl (lv_at hl 3 rfl) ?_
          refine g_put hC V (ci := 8) uwX8 tyX8 tyX8_ok nmX8 0 rfl rfl 30 (by decide) w_942 rfl rfl rfl rfl (Nat.le_of_ble_eq_true rfl) (ws' := [(o, .inr (8, [.int w0, .ref g1, .ref g2, .ref g3, .ref g4, .int (nI tp), .int w6, .int w7, .int w8, .int w9, .int w10, .int w11, .int w12, .int w13, .int w14, .ref g15, .int w16, .ref g17, .int w18, .int w19, .ref g20, .int w21, .ref g22, .ref g23, .ref g24, .int w25, .int w26, .int w27, .ref g28, .ref g29, .int sum, .ref g31, .ref g32, .ref g33])), (g1, .inl (T 0, 282, .inl fa)), (g28, .inl (T 0, 7, .inl fo)), (g29, .inl (T 0, 7, .inl fp))]) rfl dX8_lays_36 (fun H locs V => ?_)
          refine lv_iconst (v := (nI 0)) hx hb dX8_lays_39 (by decide +kernel) ?_
          refine lv_istore (lv' := [(4, .int (nI 0)), (0, .ref o), (1, .int (nI 6)), (2, .int (nI u)), (3, .int sum)]) hx hb dX8_lays_40 hl (by decide) rfl (fun ls hl => ?_)
          have L_15 : ∀ (fu : Nat) (k42 : Nat) (gb42 : Nat → Int32), k42 ≤ 6 → 6 - k42 < fu → ∀ (H : Heap) (locs : List Loc) (ls : Array Slot), gW D T A s [(o, .inr (8, [.int w0, .ref g1, .ref g2, .ref g3, .ref g4, .int (nI tp), .int w6, .int w7, .int w8, .int w9, .int w10, .int w11, .int w12, .int w13, .int w14, .ref g15, .int w16, .ref g17, .int w18, .int w19, .ref g20, .int w21, .ref g22, .ref g23, .ref g24, .int w25, .int w26, .int w27, .ref g28, .ref g29, .int sum, .ref g31, .ref g32, .ref g33])), (g1, .inl (T 0, 282, .inl fa)), (g28, .inl (T 0, 7, .inl fo)), (g29, .inl (T 0, 7, .inl gb42))] H locs → lv_has ls 5 [(4, .int (nI k42)), (0, .ref o), (1, .int (nI 6)), (2, .int (nI u)), (3, .int sum)] → W p l e (rmD 3 0 0) s m args below meth c H locs 0 0 (MQ below (gQ D A (q_m_lays6 T n o u sum w0 g1 g2 g3 g4 tp w6 w7 w8 w9 w10 w11 w12 w13 w14 g15 w16 g17 w18 w19 g20 w21 g22 g23 g24 w25 w26 w27 g28 g29 w30 g31 g32 g33 fa fo fp)) args s 0 0 A) (F0 m 42 ls []) := by
            intro fu_42
            induction fu_42 with
            | zero => intro k42 gb42 hk42 hmu; exact absurd hmu (Nat.not_lt_zero _)
            | succ fu_42 ih_42 =>
              intro k42 gb42 hk42 hmu_42 H locs ls V hl
              refine lv_iload hx hb dX8_lays_42 (lv_at hl 0 rfl) ?_
              refine lv_iload_n hx hb dX8_lays_44 rfl (lv_at hl 2 rfl) ?_
              refine lv_icmp_ge (tgt := 68) hx hb dX8_lays_45 (by decide) (fun c_16 => ?_) (fun c_16 => ?_)
              · skip
                have c_16 := b_le (by omega) (by omega) c_16
                exact g_vret (Qr := (q_m_lays6 T n o u sum w0 g1 g2 g3 g4 tp w6 w7 w8 w9 w10 w11 w12 w13 w14 g15 w16 g17 w18 w19 g20 w21 g22 g23 g24 w25 w26 w27 g28 g29 w30 g31 g32 g33 fa fo fp)) hC V ⟨(Nat.le_of_ble_eq_true rfl), (Nat.le_of_ble_eq_true rfl)⟩ ⟨sum, fo, gb42, rfl, rfl, (fun _ _ => rfl)⟩ dX8_lays_68
              · skip
                have c_16 := b_nle (by omega) (by omega) c_16
                refine lv_aload_n hx hb dX8_lays_48 rfl (lv_at hl 1 rfl) ?_
                refine g_get hC V (ci := 8) uwX8 0 rfl rfl 29 (by decide) w_941 rfl rfl dX8_lays_49 ?_
                refine lv_iload hx hb dX8_lays_52 (lv_at hl 0 rfl) ?_
                refine lv_aload_n hx hb dX8_lays_54 rfl (lv_at hl 1 rfl) ?_
                refine g_get hC V (ci := 8) uwX8 0 rfl rfl 28 (by decide) w_940 rfl rfl dX8_lays_55 ?_
                refine lv_iload hx hb dX8_lays_58 (lv_at hl 0 rfl) ?_
                refine g_iald hC V 2 rfl (vp_in_nI (by omega) (by omega)) (v := (fo k42)) (congrArg _ (nI_clamp (by omega))) dX8_lays_60 ?_
                refine g_iast hC V 3 rfl (vp_in_nI (by omega) (by omega)) (f' := (upd gb42 k42 (fo k42))) (by rw [nI_clamp (by omega)]) (ws' := [(o, .inr (8, [.int w0, .ref g1, .ref g2, .ref g3, .ref g4, .int (nI tp), .int w6, .int w7, .int w8, .int w9, .int w10, .int w11, .int w12, .int w13, .int w14, .ref g15, .int w16, .ref g17, .int w18, .int w19, .ref g20, .int w21, .ref g22, .ref g23, .ref g24, .int w25, .int w26, .int w27, .ref g28, .ref g29, .int sum, .ref g31, .ref g32, .ref g33])), (g1, .inl (T 0, 282, .inl fa)), (g28, .inl (T 0, 7, .inl fo)), (g29, .inl (T 0, 7, .inl (upd gb42 k42 (fo k42))))]) rfl dX8_lays_61 (fun H locs V => ?_)
                refine lv_iinc (v := (nI (k42 + 1))) (lv' := [(4, .int (nI (k42 + 1))), (0, .ref o), (1, .int (nI 6)), (2, .int (nI u)), (3, .int sum)]) hx hb dX8_lays_62 hl (k := 0) rfl (nI_1 _) (by decide) rfl (fun ls hl => ?_)
                refine lv_goto (tgt := 42) hx hb dX8_lays_65 (by decide) ?_
                exact ih_42 (k42 + 1) (upd gb42 k42 (fo k42)) (by omega) (by omega) _ _ _ V (lv_sub hl [0, 1, 2, 3, 4] rfl)
          exact L_15 _ 0 fp (by omega) (Nat.lt_succ_self _) _ _ _ V (lv_sub hl [0, 1, 2, 3, 4] rfl)
        · skip
          exact g_vret (Qr := (q_m_lays6 T n o u sum w0 g1 g2 g3 g4 tp w6 w7 w8 w9 w10 w11 w12 w13 w14 g15 w16 g17 w18 w19 g20 w21 g22 g23 g24 w25 w26 w27 g28 g29 w30 g31 g32 g33 fa fo fp)) hC V ⟨(Nat.le_of_ble_eq_true rfl), (Nat.le_of_ble_eq_true rfl)⟩ ⟨w30, fo, fp, rfl, rfl, (fun _ _ => rfl)⟩ dX8_lays_33
    · have V : gW D T A s [(o, .inr (8, [.int w0, .ref g1, .ref g2, .ref g3, .ref g4, .int (nI tp), .int w6, .int w7, .int w8, .int w9, .int w10, .int w11, .int w12, .int w13, .int w14, .ref g15, .int w16, .ref g17, .int w18, .int w19, .ref g20, .int w21, .ref g22, .ref g23, .ref g24, .int w25, .int w26, .int w27, .ref g28, .ref g29, .int w30, .ref g31, .ref g32, .ref g33])), (g1, .inl (T 0, 282, .inl fa)), (g28, .inl (T 0, 7, .inl fo)), (g29, .inl (T 0, 7, .inl fp))] H locs := V _ [0, 0, 0] rfl rfl rfl (by decide +kernel) rfl
      show W p l e _ s m args below meth c H locs _ _ _ (F0 m 14 ls [.int (nI 0)])
      refine lv_if_eq (tgt := 33) hx hb dX8_lays_14 (by decide) (fun _ => ?_) (fun c => absurd (show (nI 0) = 0 by decide +kernel) c)
      exact g_vret (Qr := (q_m_lays6 T n o u sum w0 g1 g2 g3 g4 tp w6 w7 w8 w9 w10 w11 w12 w13 w14 g15 w16 g17 w18 w19 g20 w21 g22 g23 g24 w25 w26 w27 g28 g29 w30 g31 g32 g33 fa fo fp)) hC V ⟨(Nat.le_of_ble_eq_true rfl), (Nat.le_of_ble_eq_true rfl)⟩ ⟨w30, fo, fp, rfl, rfl, (fun _ _ => rfl)⟩ dX8_lays_33

def q_m_lays5 (T : Nat → ClassId) (n : Nat) (o : Nat) (u : Nat) (sum : Int32) (w0 : Int32) (g1 : Nat) (g2 : Nat) (g3 : Nat) (g4 : Nat) (tp : Nat) (w6 : Int32) (w7 : Int32) (w8 : Int32) (w9 : Int32) (w10 : Int32) (w11 : Int32) (w12 : Int32) (w13 : Int32) (w14 : Int32) (g15 : Nat) (w16 : Int32) (g17 : Nat) (w18 : Int32) (w19 : Int32) (g20 : Nat) (w21 : Int32) (g22 : Nat) (g23 : Nat) (g24 : Nat) (w25 : Int32) (w26 : Int32) (w27 : Int32) (g28 : Nat) (g29 : Nat) (w30 : Int32) (g31 : Nat) (g32 : Nat) (g33 : Nat) (fa : Nat → Int32) (fo : Nat → Int32) (fp : Nat → Int32) : Option Value → va_W → Prop := fun rr ww => (∃ (bs : Int32) (go : Nat → Int32) (gp : Nat → Int32), rr = none ∧ ww = [(o, .inr (8, [.int w0, .ref g1, .ref g2, .ref g3, .ref g4, .int (nI tp), .int w6, .int w7, .int w8, .int w9, .int w10, .int w11, .int w12, .int w13, .int w14, .ref g15, .int w16, .ref g17, .int w18, .int w19, .ref g20, .int w21, .ref g22, .ref g23, .ref g24, .int w25, .int w26, .int w27, .ref g28, .ref g29, .int bs, .ref g31, .ref g32, .ref g33])), (g1, .inl (T 0, 282, .inl fa)), (g28, .inl (T 0, 7, .inl go)), (g29, .inl (T 0, 7, .inl gp))] ∧ (∀ j, j < 5 → go j = fo j))
set_option maxHeartbeats 4000000 in
set_option maxRecDepth 100000 in
theorem m_lays5 (l : Launch) (D : va_G) (T : Nat → ClassId) (n : Nat) (o : Nat) (u : Nat) (sum : Int32) (w0 : Int32) (g1 : Nat) (g2 : Nat) (g3 : Nat) (g4 : Nat) (tp : Nat) (w6 : Int32) (w7 : Int32) (w8 : Int32) (w9 : Int32) (w10 : Int32) (w11 : Int32) (w12 : Int32) (w13 : Int32) (w14 : Int32) (g15 : Nat) (w16 : Int32) (g17 : Nat) (w18 : Int32) (w19 : Int32) (g20 : Nat) (w21 : Int32) (g22 : Nat) (g23 : Nat) (g24 : Nat) (w25 : Int32) (w26 : Int32) (w27 : Int32) (g28 : Nat) (g29 : Nat) (w30 : Int32) (g31 : Nat) (g32 : Nat) (g33 : Nat) (fa : Nat → Int32) (fo : Nat → Int32) (fp : Nat → Int32) (h_a : MI n fa) (h_li : LI 5 fo) (h_lt : ∀ j, j < 5 → toF fo j < n) (h_ub : UB 5 u fo) (h_1 : 1 ≤ n) (h_7 : n ≤ 7) (h_kn : 5 ≤ n) : Ct l yX8_lays cX8_lays 5 none 4 0 0 D T [.ref o, .int (nI 5), .int (nI u), .int sum] [(o, .inr (8, [.int w0, .ref g1, .ref g2, .ref g3, .ref g4, .int (nI tp), .int w6, .int w7, .int w8, .int w9, .int w10, .int w11, .int w12, .int w13, .int w14, .ref g15, .int w16, .ref g17, .int w18, .int w19, .ref g20, .int w21, .ref g22, .ref g23, .ref g24, .int w25, .int w26, .int w27, .ref g28, .ref g29, .int w30, .ref g31, .ref g32, .ref g33])), (g1, .inl (T 0, 282, .inl fa)), (g28, .inl (T 0, 7, .inl fo)), (g29, .inl (T 0, 7, .inl fp))] (q_m_lays5 T n o u sum w0 g1 g2 g3 g4 tp w6 w7 w8 w9 w10 w11 w12 w13 w14 g15 w16 g17 w18 w19 g20 w21 g22 g23 g24 w25 w26 w27 g28 g29 w30 g31 g32 g33 fa fo fp) := by
  refine Ct.of (cc := cX8_lays) (maxL := 5) (ret := none) (by decide) (Nat.le_of_ble_eq_true rfl) ?_
  intro p e s m args below meth c A ls hC hnm V hl
  obtain ⟨hx, hb, hr, hml, hown, hts, hlocks⟩ := id hC
  generalize hH : s.heap = H at V ⊢
  clear hH
  have hl : lv_has ls 5 [(0, .ref o), (1, .int (nI 5)), (2, .int (nI u)), (3, .int sum)] := hl
  generalize hlo : ([] : List Loc) = locs at V ⊢
  clear hlo
  have ms0 := ms_rf h_a
  have hn10 := h_a.1
  have hu := h_ub.1
  refine lv_iload_n hx hb dX8_lays_0 rfl (lv_at hl 1 rfl) ?_
  refine lv_aload_n hx hb dX8_lays_1 rfl (lv_at hl 0 rfl) ?_
  refine g_get hC V (ci := 8) uwX8 0 rfl rfl 1 (by decide) w_913 rfl rfl dX8_lays_2 ?_
  refine lv_iconst (v := (nI 0)) hx hb dX8_lays_5 (by decide +kernel) ?_
  refine g_iald hC V 1 rfl (vp_in_nI (by decide) (by decide)) (v := (nI n)) (by rw [nI_clamp (by decide)]; first | rfl | exact h_a.2.1) dX8_lays_6 ?_
  refine lv_icmp_ne (tgt := 69) hx hb dX8_lays_7 (by decide) (fun c_1 => ?_) (fun c_1 => ?_)
  · skip
    have c_1 := b_ne (by omega) (by omega) c_1
    refine lv_iconst (v := (nI 0)) hx hb dX8_lays_69 (by decide +kernel) ?_
    refine lv_istore (lv' := [(4, .int (nI 0)), (0, .ref o), (1, .int (nI 5)), (2, .int (nI u)), (3, .int sum)]) hx hb dX8_lays_70 hl (by decide) rfl (fun ls hl => ?_)
    have L_2 : ∀ (fu : Nat) (k72 : Nat) (bv : Int32) (f72 : Nat → Int32) (gb72 : Nat → Int32), k72 ≤ n → (∀ j, j < 5 → f72 j = fo j) → n - k72 < fu → ∀ (H : Heap) (locs : List Loc) (ls : Array Slot), gW D T A s [(o, .inr (8, [.int w0, .ref g1, .ref g2, .ref g3, .ref g4, .int (nI tp), .int w6, .int w7, .int w8, .int w9, .int w10, .int w11, .int w12, .int w13, .int w14, .ref g15, .int w16, .ref g17, .int w18, .int w19, .ref g20, .int w21, .ref g22, .ref g23, .ref g24, .int w25, .int w26, .int w27, .ref g28, .ref g29, .int bv, .ref g31, .ref g32, .ref g33])), (g1, .inl (T 0, 282, .inl fa)), (g28, .inl (T 0, 7, .inl f72)), (g29, .inl (T 0, 7, .inl gb72))] H locs → lv_has ls 5 [(4, .int (nI k72)), (0, .ref o), (1, .int (nI 5)), (2, .int (nI u)), (3, .int sum)] → W p l e (rmD 4 0 0) s m args below meth c H locs 0 0 (MQ below (gQ D A (q_m_lays5 T n o u sum w0 g1 g2 g3 g4 tp w6 w7 w8 w9 w10 w11 w12 w13 w14 g15 w16 g17 w18 w19 g20 w21 g22 g23 g24 w25 w26 w27 g28 g29 w30 g31 g32 g33 fa fo fp)) args s 0 0 A) (F0 m 72 ls []) := by
      intro fu_72
      induction fu_72 with
      | zero => intro k72 bv f72 gb72 hk72 hpre hmu; exact absurd hmu (Nat.not_lt_zero _)
      | succ fu_72 ih_72 =>
        intro k72 bv f72 gb72 hk72 hpre hmu_72 H locs ls V hl
        refine lv_iload hx hb dX8_lays_72 (lv_at hl 0 rfl) ?_
        refine lv_aload_n hx hb dX8_lays_74 rfl (lv_at hl 1 rfl) ?_
        refine g_get hC V (ci := 8) uwX8 0 rfl rfl 1 (by decide) w_913 rfl rfl dX8_lays_75 ?_
        refine lv_iconst (v := (nI 0)) hx hb dX8_lays_78 (by decide +kernel) ?_
        refine g_iald hC V 1 rfl (vp_in_nI (by decide) (by decide)) (v := (nI n)) (by rw [nI_clamp (by decide)]; first | rfl | exact h_a.2.1) dX8_lays_79 ?_
        refine lv_icmp_ge (tgt := 132) hx hb dX8_lays_80 (by decide) (fun c_3 => ?_) (fun c_3 => ?_)
        · skip
          have c_3 := b_le (by omega) (by omega) c_3
          exact g_vret (Qr := (q_m_lays5 T n o u sum w0 g1 g2 g3 g4 tp w6 w7 w8 w9 w10 w11 w12 w13 w14 g15 w16 g17 w18 w19 g20 w21 g22 g23 g24 w25 w26 w27 g28 g29 w30 g31 g32 g33 fa fo fp)) hC V ⟨(Nat.le_of_ble_eq_true rfl), (Nat.le_of_ble_eq_true rfl)⟩ ⟨bv, f72, gb72, rfl, rfl, hpre⟩ dX8_lays_132
        · skip
          have c_3 := b_nle (by omega) (by omega) c_3
          refine lv_iload_n hx hb dX8_lays_83 rfl (lv_at hl 3 rfl) ?_
          refine lv_i2l (v := (nI u).toInt64) hx hb dX8_lays_84 rfl ?_
          refine lv_iload hx hb dX8_lays_85 (lv_at hl 0 rfl) ?_
          refine g_callSU (nA := 2) hC V hl.1 (m_isIn7 l D T u k72 h_ub.1 (by omega)) w_1130 w_1131 w_9 w_1132 (by decide +kernel) rfl ⟨(Nat.le_of_ble_eq_true rfl), (Nat.le_of_ble_eq_true rfl)⟩ [] rfl rfl (Nat.le_of_ble_eq_true rfl) dX8_lays_87 ⟨(Nat.le_of_ble_eq_true rfl), (Nat.le_of_ble_eq_true rfl)⟩ rfl (fun r w1 H locs hQ V => ?_)
          rcases hQ with ⟨rfl, rfl, f_4⟩ | ⟨rfl, rfl, f_5⟩
          · have V : gW D T A s [(o, .inr (8, [.int w0, .ref g1, .ref g2, .ref g3, .ref g4, .int (nI tp), .int w6, .int w7, .int w8, .int w9, .int w10, .int w11, .int w12, .int w13, .int w14, .ref g15, .int w16, .ref g17, .int w18, .int w19, .ref g20, .int w21, .ref g22, .ref g23, .ref g24, .int w25, .int w26, .int w27, .ref g28, .ref g29, .int bv, .ref g31, .ref g32, .ref g33])), (g1, .inl (T 0, 282, .inl fa)), (g28, .inl (T 0, 7, .inl f72)), (g29, .inl (T 0, 7, .inl gb72))] H locs := V _ [] rfl rfl rfl (by decide +kernel) rfl
            show W p l e _ s m args below meth c H locs _ _ _ (F0 m 90 ls [.int (nI 1)])
            refine lv_if_eq (tgt := 96) hx hb dX8_lays_90 (by decide) (fun c => absurd (show (nI 1) = 0 from c) (by decide +kernel)) (fun _ => ?_)
            refine lv_goto (tgt := 126) hx hb dX8_lays_93 (by decide) ?_
            refine lv_iinc (v := (nI (k72 + 1))) (lv' := [(4, .int (nI (k72 + 1))), (0, .ref o), (1, .int (nI 5)), (2, .int (nI u)), (3, .int sum)]) hx hb dX8_lays_126 hl (k := 0) rfl (nI_1 _) (by decide) rfl (fun ls hl => ?_)
            refine lv_goto (tgt := 72) hx hb dX8_lays_129 (by decide) ?_
            exact ih_72 (k72 + 1) bv f72 gb72 (by omega) (by assumption) (by omega) _ _ _ V (lv_sub hl [0, 1, 2, 3, 4] rfl)
          · have V : gW D T A s [(o, .inr (8, [.int w0, .ref g1, .ref g2, .ref g3, .ref g4, .int (nI tp), .int w6, .int w7, .int w8, .int w9, .int w10, .int w11, .int w12, .int w13, .int w14, .ref g15, .int w16, .ref g17, .int w18, .int w19, .ref g20, .int w21, .ref g22, .ref g23, .ref g24, .int w25, .int w26, .int w27, .ref g28, .ref g29, .int bv, .ref g31, .ref g32, .ref g33])), (g1, .inl (T 0, 282, .inl fa)), (g28, .inl (T 0, 7, .inl f72)), (g29, .inl (T 0, 7, .inl gb72))] H locs := V _ [] rfl rfl rfl (by decide +kernel) rfl
            show W p l e _ s m args below meth c H locs _ _ _ (F0 m 90 ls [.int (nI 0)])
            refine lv_if_eq (tgt := 96) hx hb dX8_lays_90 (by decide) (fun _ => ?_) (fun c => absurd (show (nI 0) = 0 by decide +kernel) c)
            refine lv_aload_n hx hb dX8_lays_96 rfl (lv_at hl 1 rfl) ?_
            refine g_get hC V (ci := 8) uwX8 0 rfl rfl 28 (by decide) w_940 rfl rfl dX8_lays_97 ?_
            refine lv_iload_n hx hb dX8_lays_100 rfl (lv_at hl 2 rfl) ?_
            refine lv_iload hx hb dX8_lays_101 (lv_at hl 0 rfl) ?_
            refine g_iast hC V 2 rfl (vp_in_nI (by decide) (by decide)) (f' := (upd f72 5 (nI k72))) (by rw [nI_clamp (by decide)]) (ws' := [(o, .inr (8, [.int w0, .ref g1, .ref g2, .ref g3, .ref g4, .int (nI tp), .int w6, .int w7, .int w8, .int w9, .int w10, .int w11, .int w12, .int w13, .int w14, .ref g15, .int w16, .ref g17, .int w18, .int w19, .ref g20, .int w21, .ref g22, .ref g23, .ref g24, .int w25, .int w26, .int w27, .ref g28, .ref g29, .int bv, .ref g31, .ref g32, .ref g33])), (g1, .inl (T 0, 282, .inl fa)), (g28, .inl (T 0, 7, .inl (upd f72 5 (nI k72)))), (g29, .inl (T 0, 7, .inl gb72))]) rfl dX8_lays_103 (fun H locs V => ?_)
            refine lv_aload_n hx hb dX8_lays_104 rfl (lv_at hl 1 rfl) ?_
            refine lv_iload_n hx hb dX8_lays_105 rfl (lv_at hl 2 rfl) ?_
            refine lv_iconst (v := (nI 1)) hx hb dX8_lays_106 (by decide +kernel) ?_
            refine lv_iadd hx hb dX8_lays_107 ?_
            refine g_vi (y := (nI 6)) (by decide +kernel) ?_
            refine lv_iload_n hx hb dX8_lays_108 rfl (lv_at hl 3 rfl) ?_
            refine lv_iconst (v := (nI 1)) hx hb dX8_lays_109 (by decide +kernel) ?_
            refine lv_iload hx hb dX8_lays_110 (lv_at hl 0 rfl) ?_
            refine lv_ishl hx hb dX8_lays_112 ?_
            refine g_vi (y := (nI (2 ^ k72))) (shl_pow (by omega)) ?_
            refine lv_ior hx hb dX8_lays_113 ?_
            refine g_vi (y := nI (u ||| (2 ^ k72))) (or7 (by omega) (by omega)) ?_
            refine lv_iload_n hx hb dX8_lays_114 rfl (lv_at hl 4 rfl) ?_
            refine lv_aload_n hx hb dX8_lays_115 rfl (lv_at hl 1 rfl) ?_
            refine lv_iload_n hx hb dX8_lays_116 rfl (lv_at hl 2 rfl) ?_
            refine lv_iload hx hb dX8_lays_117 (lv_at hl 0 rfl) ?_
            refine g_callVU (nA := 2) hC V hl.1 (m_offBy l D T o 5 k72 w0 g1 g2 g3 g4 tp w6 w7 w8 w9 w10 w11 w12 w13 w14 g15 w16 g17 w18 w19 g20 w21 g22 g23 g24 w25 w26 w27 g28 g29 bv g31 g32 g33 fa (by first | assumption | omega) (by first | assumption | omega)) w_1328 w_1330 w_s77 w_9 w_1331 (by decide +kernel) rfl ⟨(Nat.le_of_ble_eq_true rfl), (Nat.le_of_ble_eq_true rfl)⟩ 0 (ci := 8) rfl rfl [0, 1] rfl rfl (Nat.le_of_ble_eq_true rfl) dX8_lays_119 ⟨(Nat.le_of_ble_eq_true rfl), (Nat.le_of_ble_eq_true rfl)⟩ rfl (fun r w1 H locs hQ V => ?_)
            obtain ⟨z_6, rfl, rfl⟩ := hQ
            have V : gW D T A s [(o, .inr (8, [.int w0, .ref g1, .ref g2, .ref g3, .ref g4, .int (nI tp), .int w6, .int w7, .int w8, .int w9, .int w10, .int w11, .int w12, .int w13, .int w14, .ref g15, .int w16, .ref g17, .int w18, .int w19, .ref g20, .int w21, .ref g22, .ref g23, .ref g24, .int w25, .int w26, .int w27, .ref g28, .ref g29, .int bv, .ref g31, .ref g32, .ref g33])), (g1, .inl (T 0, 282, .inl fa)), (g28, .inl (T 0, 7, .inl (upd f72 5 (nI k72)))), (g29, .inl (T 0, 7, .inl gb72))] H locs := V _ [0, 0] rfl rfl rfl (by decide +kernel) rfl
            show W p l e _ s m args below meth c H locs _ _ _ (F0 m 122 ls [.int z_6, .int sum, .int (nI (u ||| (2 ^ k72))), .int (nI 6), .ref o])
            refine lv_iadd hx hb dX8_lays_122 ?_
            refine g_callV (wr := []) (nA := 3) hC V hl.1 (m_lays6 l D T n o (u ||| (2 ^ k72)) (sum + z_6) w0 g1 g2 g3 g4 tp w6 w7 w8 w9 w10 w11 w12 w13 w14 g15 w16 g17 w18 w19 g20 w21 g22 g23 g24 w25 w26 w27 g28 g29 bv g31 g32 g33 fa (upd f72 5 (nI k72)) gb72 h_a (li_put (li_ext h_li hpre) (by omega) (ub_free (ub_ext h_ub hpre) (by assumption))) (lt_put h_lt hpre (by omega) h_7) (ub_put (ub_ext h_ub hpre) (by omega)) h_1 h_7 (by omega)) w_1320 w_1322 w_s75 w_9 w_1323 (by decide +kernel) rfl ⟨(Nat.le_of_ble_eq_true rfl), (Nat.le_of_ble_eq_true rfl)⟩ 0 (ci := 8) rfl rfl [0, 1, 2, 3] [] rfl rfl rfl rfl (by decide) (Nat.le_of_ble_eq_true rfl) dX8_lays_123 ⟨(Nat.le_of_ble_eq_true rfl), (Nat.le_of_ble_eq_true rfl)⟩ rfl (fun r w1 H locs hQ V => ?_)
            obtain ⟨bs_7, go_8, gp_9, rfl, rfl, f_10⟩ := hQ
            have V : gW D T A s [(o, .inr (8, [.int w0, .ref g1, .ref g2, .ref g3, .ref g4, .int (nI tp), .int w6, .int w7, .int w8, .int w9, .int w10, .int w11, .int w12, .int w13, .int w14, .ref g15, .int w16, .ref g17, .int w18, .int w19, .ref g20, .int w21, .ref g22, .ref g23, .ref g24, .int w25, .int w26, .int w27, .ref g28, .ref g29, .int bs_7, .ref g31, .ref g32, .ref g33])), (g1, .inl (T 0, 282, .inl fa)), (g28, .inl (T 0, 7, .inl go_8)), (g29, .inl (T 0, 7, .inl gp_9))] H locs := V
            show W p l e _ s m args below meth c H locs _ _ _ (F0 m 126 ls [])
            have hpre2 : ∀ j, j < 5 → go_8 j = fo j := fun j hj => (f_10 j (by omega)).trans ((up_other (by omega)).trans (hpre j hj))
            refine lv_iinc (v := (nI (k72 + 1))) (lv' := [(4, .int (nI (k72 + 1))), (0, .ref o), (1, .int (nI 5)), (2, .int (nI u)), (3, .int sum)]) hx hb dX8_lays_126 hl (k := 0) rfl (nI_1 _) (by decide) rfl (fun ls hl => ?_)
            refine lv_goto (tgt := 72) hx hb dX8_lays_129 (by decide) ?_
            exact ih_72 (k72 + 1) bs_7 go_8 gp_9 (by omega) (by assumption) (by omega) _ _ _ V (lv_sub hl [0, 1, 2, 3, 4] rfl)
    exact L_2 _ 0 w30 fo fp (by omega) (fun _ _ => rfl) (Nat.lt_succ_self _) _ _ _ V (lv_sub hl [0, 1, 2, 3, 4] rfl)
  · skip
    have c_1 := b_eq (by omega) (by omega) c_1
    have hkn : 5 = n := c_1
    refine lv_aload_n hx hb dX8_lays_10 rfl (lv_at hl 0 rfl) ?_
    refine g_callVU (nA := 0) hC V hl.1 (m_isOneRing l D T n o w0 g1 g2 g3 g4 tp w6 w7 w8 w9 w10 w11 w12 w13 w14 g15 w16 g17 w18 w19 g20 w21 g22 g23 g24 w25 w26 w27 g28 g29 w30 g31 g32 g33 fa fo h_a (lf_of h_li h_lt (by omega)) h_1 h_7) w_1324 w_1326 w_s76 w_9 w_1327 (by decide +kernel) rfl ⟨(Nat.le_of_ble_eq_true rfl), (Nat.le_of_ble_eq_true rfl)⟩ 0 (ci := 8) rfl rfl [0, 1, 2] rfl rfl (Nat.le_of_ble_eq_true rfl) dX8_lays_11 ⟨(Nat.le_of_ble_eq_true rfl), (Nat.le_of_ble_eq_true rfl)⟩ rfl (fun r w1 H locs hQ V => ?_)
    rcases hQ with ⟨rfl, rfl⟩ | ⟨rfl, rfl⟩
    · have V : gW D T A s [(o, .inr (8, [.int w0, .ref g1, .ref g2, .ref g3, .ref g4, .int (nI tp), .int w6, .int w7, .int w8, .int w9, .int w10, .int w11, .int w12, .int w13, .int w14, .ref g15, .int w16, .ref g17, .int w18, .int w19, .ref g20, .int w21, .ref g22, .ref g23, .ref g24, .int w25, .int w26, .int w27, .ref g28, .ref g29, .int w30, .ref g31, .ref g32, .ref g33])), (g1, .inl (T 0, 282, .inl fa)), (g28, .inl (T 0, 7, .inl fo)), (g29, .inl (T 0, 7, .inl fp))] H locs := V _ [0, 0, 0] rfl rfl rfl (by decide +kernel) rfl
      show W p l e _ s m args below meth c H locs _ _ _ (F0 m 14 ls [.int (nI 1)])
      refine lv_if_eq (tgt := 33) hx hb dX8_lays_14 (by decide) (fun c => absurd (show (nI 1) = 0 from c) (by decide +kernel)) (fun _ => ?_)
      refine lv_aload_n hx hb dX8_lays_17 rfl (lv_at hl 0 rfl) ?_
      refine g_get hC V (ci := 8) uwX8 0 rfl rfl 30 (by decide) w_942 rfl rfl dX8_lays_18 ?_
      refine lv_iconst (v := (-1)) hx hb dX8_lays_21 (by decide +kernel) ?_
      refine lv_icmp_eq (tgt := 34) hx hb dX8_lays_22 (by decide) (fun c_11 => ?_) (fun c_11 => ?_)
      · skip
        refine lv_aload_n hx hb dX8_lays_34 rfl (lv_at hl 0 rfl) ?_
        refine lv_iload_n hx hb dX8_lays_35 rfl (lv_at hl 3 rfl) ?_
        refine g_put hC V (ci := 8) uwX8 tyX8 tyX8_ok nmX8 0 rfl rfl 30 (by decide) w_942 rfl rfl rfl rfl (Nat.le_of_ble_eq_true rfl) (ws' := [(o, .inr (8, [.int w0, .ref g1, .ref g2, .ref g3, .ref g4, .int (nI tp), .int w6, .int w7, .int w8, .int w9, .int w10, .int w11, .int w12, .int w13, .int w14, .ref g15, .int w16, .ref g17, .int w18, .int w19, .ref g20, .int w21, .ref g22, .ref g23, .ref g24, .int w25, .int w26, .int w27, .ref g28, .ref g29, .int sum, .ref g31, .ref g32, .ref g33])), (g1, .inl (T 0, 282, .inl fa)), (g28, .inl (T 0, 7, .inl fo)), (g29, .inl (T 0, 7, .inl fp))]) rfl dX8_lays_36 (fun H locs V => ?_)
        refine lv_iconst (v := (nI 0)) hx hb dX8_lays_39 (by decide +kernel) ?_
        refine lv_istore (lv' := [(4, .int (nI 0)), (0, .ref o), (1, .int (nI 5)), (2, .int (nI u)), (3, .int sum)]) hx hb dX8_lays_40 hl (by decide) rfl (fun ls hl => ?_)
        have L_12 : ∀ (fu : Nat) (k42 : Nat) (gb42 : Nat → Int32), k42 ≤ 5 → 5 - k42 < fu → ∀ (H : Heap) (locs : List Loc) (ls : Array Slot), gW D T A s [(o, .inr (8, [.int w0, .ref g1, .ref g2, .ref g3, .ref g4, .int (nI tp), .int w6, .int w7, .int w8, .int w9, .int w10, .int w11, .int w12, .int w13, .int w14, .ref g15, .int w16, .ref g17, .int w18, .int w19, .ref g20, .int w21, .ref g22, .ref g23, .ref g24, .int w25, .int w26, .int w27, .ref g28, .ref g29, .int sum, .ref g31, .ref g32, .ref g33])), (g1, .inl (T 0, 282, .inl fa)), (g28, .inl (T 0, 7, .inl fo)), (g29, .inl (T 0, 7, .inl gb42))] H locs → lv_has ls 5 [(4, .int (nI k42)), (0, .ref o), (1, .int (nI 5)), (2, .int (nI u)), (3, .int sum)] → W p l e (rmD 4 0 0) s m args below meth c H locs 0 0 (MQ below (gQ D A (q_m_lays5 T n o u sum w0 g1 g2 g3 g4 tp w6 w7 w8 w9 w10 w11 w12 w13 w14 g15 w16 g17 w18 w19 g20 w21 g22 g23 g24 w25 w26 w27 g28 g29 w30 g31 g32 g33 fa fo fp)) args s 0 0 A) (F0 m 42 ls []) := by
          intro fu_42
          induction fu_42 with
          | zero => intro k42 gb42 hk42 hmu; exact absurd hmu (Nat.not_lt_zero _)
          | succ fu_42 ih_42 =>
            intro k42 gb42 hk42 hmu_42 H locs ls V hl
            refine lv_iload hx hb dX8_lays_42 (lv_at hl 0 rfl) ?_
            refine lv_iload_n hx hb dX8_lays_44 rfl (lv_at hl 2 rfl) ?_
            refine lv_icmp_ge (tgt := 68) hx hb dX8_lays_45 (by decide) (fun c_13 => ?_) (fun c_13 => ?_)
            · skip
              have c_13 := b_le (by omega) (by omega) c_13
              exact g_vret (Qr := (q_m_lays5 T n o u sum w0 g1 g2 g3 g4 tp w6 w7 w8 w9 w10 w11 w12 w13 w14 g15 w16 g17 w18 w19 g20 w21 g22 g23 g24 w25 w26 w27 g28 g29 w30 g31 g32 g33 fa fo fp)) hC V ⟨(Nat.le_of_ble_eq_true rfl), (Nat.le_of_ble_eq_true rfl)⟩ ⟨sum, fo, gb42, rfl, rfl, (fun _ _ => rfl)⟩ dX8_lays_68
            · skip
              have c_13 := b_nle (by omega) (by omega) c_13
              refine lv_aload_n hx hb dX8_lays_48 rfl (lv_at hl 1 rfl) ?_
              refine g_get hC V (ci := 8) uwX8 0 rfl rfl 29 (by decide) w_941 rfl rfl dX8_lays_49 ?_
              refine lv_iload hx hb dX8_lays_52 (lv_at hl 0 rfl) ?_
              refine lv_aload_n hx hb dX8_lays_54 rfl (lv_at hl 1 rfl) ?_
              refine g_get hC V (ci := 8) uwX8 0 rfl rfl 28 (by decide) w_940 rfl rfl dX8_lays_55 ?_
              refine lv_iload hx hb dX8_lays_58 (lv_at hl 0 rfl) ?_
              refine g_iald hC V 2 rfl (vp_in_nI (by omega) (by omega)) (v := (fo k42)) (congrArg _ (nI_clamp (by omega))) dX8_lays_60 ?_
              refine g_iast hC V 3 rfl (vp_in_nI (by omega) (by omega)) (f' := (upd gb42 k42 (fo k42))) (by rw [nI_clamp (by omega)]) (ws' := [(o, .inr (8, [.int w0, .ref g1, .ref g2, .ref g3, .ref g4, .int (nI tp), .int w6, .int w7, .int w8, .int w9, .int w10, .int w11, .int w12, .int w13, .int w14, .ref g15, .int w16, .ref g17, .int w18, .int w19, .ref g20, .int w21, .ref g22, .ref g23, .ref g24, .int w25, .int w26, .int w27, .ref g28, .ref g29, .int sum, .ref g31, .ref g32, .ref g33])), (g1, .inl (T 0, 282, .inl fa)), (g28, .inl (T 0, 7, .inl fo)), (g29, .inl (T 0, 7, .inl (upd gb42 k42 (fo k42))))]) rfl dX8_lays_61 (fun H locs V => ?_)
              refine lv_iinc (v := (nI (k42 + 1))) (lv' := [(4, .int (nI (k42 + 1))), (0, .ref o), (1, .int (nI 5)), (2, .int (nI u)), (3, .int sum)]) hx hb dX8_lays_62 hl (k := 0) rfl (nI_1 _) (by decide) rfl (fun ls hl => ?_)
              refine lv_goto (tgt := 42) hx hb dX8_lays_65 (by decide) ?_
              exact ih_42 (k42 + 1) (upd gb42 k42 (fo k42)) (by omega) (by omega) _ _ _ V (lv_sub hl [0, 1, 2, 3, 4] rfl)
        exact L_12 _ 0 fp (by omega) (Nat.lt_succ_self _) _ _ _ V (lv_sub hl [0, 1, 2, 3, 4] rfl)
      · skip
        refine lv_iload_n hx hb dX8_lays_25 rfl (lv_at hl 3 rfl) ?_
        refine lv_aload_n hx hb dX8_lays_26 rfl (lv_at hl 0 rfl) ?_
        refine g_get hC V (ci := 8) uwX8 0 rfl rfl 30 (by decide) w_942 rfl rfl dX8_lays_27 ?_
        refine lv_icmp_lt (tgt := 34) hx hb dX8_lays_30 (by decide) (fun c_14 => ?_) (fun c_14 => ?_)
        · skip
          refine lv_aload_n hx hb dX8_lays_34 rfl (lv_at hl 0 rfl) ?_
          refine lv_iload_n hx hb dX8_lays_35 rfl (lv_at hl 3 rfl) ?_
          refine g_put hC V (ci := 8) uwX8 tyX8 tyX8_ok nmX8 0 rfl rfl 30 (by decide) w_942 rfl rfl rfl rfl (Nat.le_of_ble_eq_true rfl) (ws' := [(o, .inr (8, [.int w0, .ref g1, .ref g2, .ref g3, .ref g4, .int (nI tp), .int w6, .int w7, .int w8, .int w9, .int w10, .int w11, .int w12, .int w13, .int w14, .ref g15, .int w16, .ref g17, .int w18, .int w19, .ref g20, .int w21, .ref g22, .ref g23, .ref g24, .int w25, .int w26, .int w27, .ref g28, .ref g29, .int sum, .ref g31, .ref g32, .ref g33])), (g1, .inl (T 0, 282, .inl fa)), (g28, .inl (T 0, 7, .inl fo)), (g29, .inl (T 0, 7, .inl fp))]) rfl dX8_lays_36 (fun H locs V => ?_)
          refine lv_iconst (v := (nI 0)) hx hb dX8_lays_39 (by decide +kernel) ?_
          refine lv_istore (lv' := [(4, .int (nI 0)), (0, .ref o), (1, .int (nI 5)), (2, .int (nI u)), (3, .int sum)]) hx hb dX8_lays_40 hl (by decide) rfl (fun ls hl => ?_)
          have L_15 : ∀ (fu : Nat) (k42 : Nat) (gb42 : Nat → Int32), k42 ≤ 5 → 5 - k42 < fu → ∀ (H : Heap) (locs : List Loc) (ls : Array Slot), gW D T A s [(o, .inr (8, [.int w0, .ref g1, .ref g2, .ref g3, .ref g4, .int (nI tp), .int w6, .int w7, .int w8, .int w9, .int w10, .int w11, .int w12, .int w13, .int w14, .ref g15, .int w16, .ref g17, .int w18, .int w19, .ref g20, .int w21, .ref g22, .ref g23, .ref g24, .int w25, .int w26, .int w27, .ref g28, .ref g29, .int sum, .ref g31, .ref g32, .ref g33])), (g1, .inl (T 0, 282, .inl fa)), (g28, .inl (T 0, 7, .inl fo)), (g29, .inl (T 0, 7, .inl gb42))] H locs → lv_has ls 5 [(4, .int (nI k42)), (0, .ref o), (1, .int (nI 5)), (2, .int (nI u)), (3, .int sum)] → W p l e (rmD 4 0 0) s m args below meth c H locs 0 0 (MQ below (gQ D A (q_m_lays5 T n o u sum w0 g1 g2 g3 g4 tp w6 w7 w8 w9 w10 w11 w12 w13 w14 g15 w16 g17 w18 w19 g20 w21 g22 g23 g24 w25 w26 w27 g28 g29 w30 g31 g32 g33 fa fo fp)) args s 0 0 A) (F0 m 42 ls []) := by
            intro fu_42
            induction fu_42 with
            | zero => intro k42 gb42 hk42 hmu; exact absurd hmu (Nat.not_lt_zero _)
            | succ fu_42 ih_42 =>
              intro k42 gb42 hk42 hmu_42 H locs ls V hl
              refine lv_iload hx hb dX8_lays_42 (lv_at hl 0 rfl) ?_
              refine lv_iload_n hx hb dX8_lays_44 rfl (lv_at hl 2 rfl) ?_
              refine lv_icmp_ge (tgt := 68) hx hb dX8_lays_45 (by decide) (fun c_16 => ?_) (fun c_16 => ?_)
              · skip
                have c_16 := b_le (by omega) (by omega) c_16
                exact g_vret (Qr := (q_m_lays5 T n o u sum w0 g1 g2 g3 g4 tp w6 w7 w8 w9 w10 w11 w12 w13 w14 g15 w16 g17 w18 w19 g20 w21 g22 g23 g24 w25 w26 w27 g28 g29 w30 g31 g32 g33 fa fo fp)) hC V ⟨(Nat.le_of_ble_eq_true rfl), (Nat.le_of_ble_eq_true rfl)⟩ ⟨sum, fo, gb42, rfl, rfl, (fun _ _ => rfl)⟩ dX8_lays_68
              · skip
                have c_16 := b_nle (by omega) (by omega) c_16
                refine lv_aload_n hx hb dX8_lays_48 rfl (lv_at hl 1 rfl) ?_
                refine g_get hC V (ci := 8) uwX8 0 rfl rfl 29 (by decide) w_941 rfl rfl dX8_lays_49 ?_
                refine lv_iload hx hb dX8_lays_52 (lv_at hl 0 rfl) ?_
                refine lv_aload_n hx hb dX8_lays_54 rfl (lv_at hl 1 rfl) ?_
                refine g_get hC V (ci := 8) uwX8 0 rfl rfl 28 (by decide) w_940 rfl rfl dX8_lays_55 ?_
                refine lv_iload hx hb dX8_lays_58 (lv_at hl 0 rfl) ?_
                refine g_iald hC V 2 rfl (vp_in_nI (by omega) (by omega)) (v := (fo k42)) (congrArg _ (nI_clamp (by omega))) dX8_lays_60 ?_
                refine g_iast hC V 3 rfl (vp_in_nI (by omega) (by omega)) (f' := (upd gb42 k42 (fo k42))) (by rw [nI_clamp (by omega)]) (ws' := [(o, .inr (8, [.int w0, .ref g1, .ref g2, .ref g3, .ref g4, .int (nI tp), .int w6, .int w7, .int w8, .int w9, .int w10, .int w11, .int w12, .int w13, .int w14, .ref g15, .int w16, .ref g17, .int w18, .int w19, .ref g20, .int w21, .ref g22, .ref g23, .ref g24, .int w25, .int w26, .int w27, .ref g28, .ref g29, .int sum, .ref g31, .ref g32, .ref g33])), (g1, .inl (T 0, 282, .inl fa)), (g28, .inl (T 0, 7, .inl fo)), (g29, .inl (T 0, 7, .inl (upd gb42 k42 (fo k42))))]) rfl dX8_lays_61 (fun H locs V => ?_)
                refine lv_iinc (v := (nI (k42 + 1))) (lv' := [(4, .int (nI (k42 + 1))), (0, .ref o), (1, .int (nI 5)), (2, .int (nI u)), (3, .int sum)]) hx hb dX8_lays_62 hl (k := 0) rfl (nI_1 _) (by decide) rfl (fun ls hl => ?_)
                refine lv_goto (tgt := 42) hx hb dX8_lays_65 (by decide) ?_
                exact ih_42 (k42 + 1) (upd gb42 k42 (fo k42)) (by omega) (by omega) _ _ _ V (lv_sub hl [0, 1, 2, 3, 4] rfl)
          exact L_15 _ 0 fp (by omega) (Nat.lt_succ_self _) _ _ _ V (lv_sub hl [0, 1, 2, 3, 4] rfl)
        · skip
          exact g_vret (Qr := (q_m_lays5 T n o u sum w0 g1 g2 g3 g4 tp w6 w7 w8 w9 w10 w11 w12 w13 w14 g15 w16 g17 w18 w19 g20 w21 g22 g23 g24 w25 w26 w27 g28 g29 w30 g31 g32 g33 fa fo fp)) hC V ⟨(Nat.le_of_ble_eq_true rfl), (Nat.le_of_ble_eq_true rfl)⟩ ⟨w30, fo, fp, rfl, rfl, (fun _ _ => rfl)⟩ dX8_lays_33
    · have V : gW D T A s [(o, .inr (8, [.int w0, .ref g1, .ref g2, .ref g3, .ref g4, .int (nI tp), .int w6, .int w7, .int w8, .int w9, .int w10, .int w11, .int w12, .int w13, .int w14, .ref g15, .int w16, .ref g17, .int w18, .int w19, .ref g20, .int w21, .ref g22, .ref g23, .ref g24, .int w25, .int w26, .int w27, .ref g28, .ref g29, .int w30, .ref g31, .ref g32, .ref g33])), (g1, .inl (T 0, 282, .inl fa)), (g28, .inl (T 0, 7, .inl fo)), (g29, .inl (T 0, 7, .inl fp))] H locs := V _ [0, 0, 0] rfl rfl rfl (by decide +kernel) rfl
      show W p l e _ s m args below meth c H locs _ _ _ (F0 m 14 ls [.int (nI 0)])
      refine lv_if_eq (tgt := 33) hx hb dX8_lays_14 (by decide) (fun _ => ?_) (fun c => absurd (show (nI 0) = 0 by decide +kernel) c)
      exact g_vret (Qr := (q_m_lays5 T n o u sum w0 g1 g2 g3 g4 tp w6 w7 w8 w9 w10 w11 w12 w13 w14 g15 w16 g17 w18 w19 g20 w21 g22 g23 g24 w25 w26 w27 g28 g29 w30 g31 g32 g33 fa fo fp)) hC V ⟨(Nat.le_of_ble_eq_true rfl), (Nat.le_of_ble_eq_true rfl)⟩ ⟨w30, fo, fp, rfl, rfl, (fun _ _ => rfl)⟩ dX8_lays_33

def q_m_lays4 (T : Nat → ClassId) (n : Nat) (o : Nat) (u : Nat) (sum : Int32) (w0 : Int32) (g1 : Nat) (g2 : Nat) (g3 : Nat) (g4 : Nat) (tp : Nat) (w6 : Int32) (w7 : Int32) (w8 : Int32) (w9 : Int32) (w10 : Int32) (w11 : Int32) (w12 : Int32) (w13 : Int32) (w14 : Int32) (g15 : Nat) (w16 : Int32) (g17 : Nat) (w18 : Int32) (w19 : Int32) (g20 : Nat) (w21 : Int32) (g22 : Nat) (g23 : Nat) (g24 : Nat) (w25 : Int32) (w26 : Int32) (w27 : Int32) (g28 : Nat) (g29 : Nat) (w30 : Int32) (g31 : Nat) (g32 : Nat) (g33 : Nat) (fa : Nat → Int32) (fo : Nat → Int32) (fp : Nat → Int32) : Option Value → va_W → Prop := fun rr ww => (∃ (bs : Int32) (go : Nat → Int32) (gp : Nat → Int32), rr = none ∧ ww = [(o, .inr (8, [.int w0, .ref g1, .ref g2, .ref g3, .ref g4, .int (nI tp), .int w6, .int w7, .int w8, .int w9, .int w10, .int w11, .int w12, .int w13, .int w14, .ref g15, .int w16, .ref g17, .int w18, .int w19, .ref g20, .int w21, .ref g22, .ref g23, .ref g24, .int w25, .int w26, .int w27, .ref g28, .ref g29, .int bs, .ref g31, .ref g32, .ref g33])), (g1, .inl (T 0, 282, .inl fa)), (g28, .inl (T 0, 7, .inl go)), (g29, .inl (T 0, 7, .inl gp))] ∧ (∀ j, j < 4 → go j = fo j))
set_option maxHeartbeats 4000000 in
set_option maxRecDepth 100000 in
theorem m_lays4 (l : Launch) (D : va_G) (T : Nat → ClassId) (n : Nat) (o : Nat) (u : Nat) (sum : Int32) (w0 : Int32) (g1 : Nat) (g2 : Nat) (g3 : Nat) (g4 : Nat) (tp : Nat) (w6 : Int32) (w7 : Int32) (w8 : Int32) (w9 : Int32) (w10 : Int32) (w11 : Int32) (w12 : Int32) (w13 : Int32) (w14 : Int32) (g15 : Nat) (w16 : Int32) (g17 : Nat) (w18 : Int32) (w19 : Int32) (g20 : Nat) (w21 : Int32) (g22 : Nat) (g23 : Nat) (g24 : Nat) (w25 : Int32) (w26 : Int32) (w27 : Int32) (g28 : Nat) (g29 : Nat) (w30 : Int32) (g31 : Nat) (g32 : Nat) (g33 : Nat) (fa : Nat → Int32) (fo : Nat → Int32) (fp : Nat → Int32) (h_a : MI n fa) (h_li : LI 4 fo) (h_lt : ∀ j, j < 4 → toF fo j < n) (h_ub : UB 4 u fo) (h_1 : 1 ≤ n) (h_7 : n ≤ 7) (h_kn : 4 ≤ n) : Ct l yX8_lays cX8_lays 5 none 5 0 0 D T [.ref o, .int (nI 4), .int (nI u), .int sum] [(o, .inr (8, [.int w0, .ref g1, .ref g2, .ref g3, .ref g4, .int (nI tp), .int w6, .int w7, .int w8, .int w9, .int w10, .int w11, .int w12, .int w13, .int w14, .ref g15, .int w16, .ref g17, .int w18, .int w19, .ref g20, .int w21, .ref g22, .ref g23, .ref g24, .int w25, .int w26, .int w27, .ref g28, .ref g29, .int w30, .ref g31, .ref g32, .ref g33])), (g1, .inl (T 0, 282, .inl fa)), (g28, .inl (T 0, 7, .inl fo)), (g29, .inl (T 0, 7, .inl fp))] (q_m_lays4 T n o u sum w0 g1 g2 g3 g4 tp w6 w7 w8 w9 w10 w11 w12 w13 w14 g15 w16 g17 w18 w19 g20 w21 g22 g23 g24 w25 w26 w27 g28 g29 w30 g31 g32 g33 fa fo fp) := by
  refine Ct.of (cc := cX8_lays) (maxL := 5) (ret := none) (by decide) (Nat.le_of_ble_eq_true rfl) ?_
  intro p e s m args below meth c A ls hC hnm V hl
  obtain ⟨hx, hb, hr, hml, hown, hts, hlocks⟩ := id hC
  generalize hH : s.heap = H at V ⊢
  clear hH
  have hl : lv_has ls 5 [(0, .ref o), (1, .int (nI 4)), (2, .int (nI u)), (3, .int sum)] := hl
  generalize hlo : ([] : List Loc) = locs at V ⊢
  clear hlo
  have ms0 := ms_rf h_a
  have hn10 := h_a.1
  have hu := h_ub.1
  refine lv_iload_n hx hb dX8_lays_0 rfl (lv_at hl 1 rfl) ?_
  refine lv_aload_n hx hb dX8_lays_1 rfl (lv_at hl 0 rfl) ?_
  refine g_get hC V (ci := 8) uwX8 0 rfl rfl 1 (by decide) w_913 rfl rfl dX8_lays_2 ?_
  refine lv_iconst (v := (nI 0)) hx hb dX8_lays_5 (by decide +kernel) ?_
  refine g_iald hC V 1 rfl (vp_in_nI (by decide) (by decide)) (v := (nI n)) (by rw [nI_clamp (by decide)]; first | rfl | exact h_a.2.1) dX8_lays_6 ?_
  refine lv_icmp_ne (tgt := 69) hx hb dX8_lays_7 (by decide) (fun c_1 => ?_) (fun c_1 => ?_)
  · skip
    have c_1 := b_ne (by omega) (by omega) c_1
    refine lv_iconst (v := (nI 0)) hx hb dX8_lays_69 (by decide +kernel) ?_
    refine lv_istore (lv' := [(4, .int (nI 0)), (0, .ref o), (1, .int (nI 4)), (2, .int (nI u)), (3, .int sum)]) hx hb dX8_lays_70 hl (by decide) rfl (fun ls hl => ?_)
    have L_2 : ∀ (fu : Nat) (k72 : Nat) (bv : Int32) (f72 : Nat → Int32) (gb72 : Nat → Int32), k72 ≤ n → (∀ j, j < 4 → f72 j = fo j) → n - k72 < fu → ∀ (H : Heap) (locs : List Loc) (ls : Array Slot), gW D T A s [(o, .inr (8, [.int w0, .ref g1, .ref g2, .ref g3, .ref g4, .int (nI tp), .int w6, .int w7, .int w8, .int w9, .int w10, .int w11, .int w12, .int w13, .int w14, .ref g15, .int w16, .ref g17, .int w18, .int w19, .ref g20, .int w21, .ref g22, .ref g23, .ref g24, .int w25, .int w26, .int w27, .ref g28, .ref g29, .int bv, .ref g31, .ref g32, .ref g33])), (g1, .inl (T 0, 282, .inl fa)), (g28, .inl (T 0, 7, .inl f72)), (g29, .inl (T 0, 7, .inl gb72))] H locs → lv_has ls 5 [(4, .int (nI k72)), (0, .ref o), (1, .int (nI 4)), (2, .int (nI u)), (3, .int sum)] → W p l e (rmD 5 0 0) s m args below meth c H locs 0 0 (MQ below (gQ D A (q_m_lays4 T n o u sum w0 g1 g2 g3 g4 tp w6 w7 w8 w9 w10 w11 w12 w13 w14 g15 w16 g17 w18 w19 g20 w21 g22 g23 g24 w25 w26 w27 g28 g29 w30 g31 g32 g33 fa fo fp)) args s 0 0 A) (F0 m 72 ls []) := by
      intro fu_72
      induction fu_72 with
      | zero => intro k72 bv f72 gb72 hk72 hpre hmu; exact absurd hmu (Nat.not_lt_zero _)
      | succ fu_72 ih_72 =>
        intro k72 bv f72 gb72 hk72 hpre hmu_72 H locs ls V hl
        refine lv_iload hx hb dX8_lays_72 (lv_at hl 0 rfl) ?_
        refine lv_aload_n hx hb dX8_lays_74 rfl (lv_at hl 1 rfl) ?_
        refine g_get hC V (ci := 8) uwX8 0 rfl rfl 1 (by decide) w_913 rfl rfl dX8_lays_75 ?_
        refine lv_iconst (v := (nI 0)) hx hb dX8_lays_78 (by decide +kernel) ?_
        refine g_iald hC V 1 rfl (vp_in_nI (by decide) (by decide)) (v := (nI n)) (by rw [nI_clamp (by decide)]; first | rfl | exact h_a.2.1) dX8_lays_79 ?_
        refine lv_icmp_ge (tgt := 132) hx hb dX8_lays_80 (by decide) (fun c_3 => ?_) (fun c_3 => ?_)
        · skip
          have c_3 := b_le (by omega) (by omega) c_3
          exact g_vret (Qr := (q_m_lays4 T n o u sum w0 g1 g2 g3 g4 tp w6 w7 w8 w9 w10 w11 w12 w13 w14 g15 w16 g17 w18 w19 g20 w21 g22 g23 g24 w25 w26 w27 g28 g29 w30 g31 g32 g33 fa fo fp)) hC V ⟨(Nat.le_of_ble_eq_true rfl), (Nat.le_of_ble_eq_true rfl)⟩ ⟨bv, f72, gb72, rfl, rfl, hpre⟩ dX8_lays_132
        · skip
          have c_3 := b_nle (by omega) (by omega) c_3
          refine lv_iload_n hx hb dX8_lays_83 rfl (lv_at hl 3 rfl) ?_
          refine lv_i2l (v := (nI u).toInt64) hx hb dX8_lays_84 rfl ?_
          refine lv_iload hx hb dX8_lays_85 (lv_at hl 0 rfl) ?_
          refine g_callSU (nA := 2) hC V hl.1 (m_isIn7 l D T u k72 h_ub.1 (by omega)) w_1130 w_1131 w_9 w_1132 (by decide +kernel) rfl ⟨(Nat.le_of_ble_eq_true rfl), (Nat.le_of_ble_eq_true rfl)⟩ [] rfl rfl (Nat.le_of_ble_eq_true rfl) dX8_lays_87 ⟨(Nat.le_of_ble_eq_true rfl), (Nat.le_of_ble_eq_true rfl)⟩ rfl (fun r w1 H locs hQ V => ?_)
          rcases hQ with ⟨rfl, rfl, f_4⟩ | ⟨rfl, rfl, f_5⟩
          · have V : gW D T A s [(o, .inr (8, [.int w0, .ref g1, .ref g2, .ref g3, .ref g4, .int (nI tp), .int w6, .int w7, .int w8, .int w9, .int w10, .int w11, .int w12, .int w13, .int w14, .ref g15, .int w16, .ref g17, .int w18, .int w19, .ref g20, .int w21, .ref g22, .ref g23, .ref g24, .int w25, .int w26, .int w27, .ref g28, .ref g29, .int bv, .ref g31, .ref g32, .ref g33])), (g1, .inl (T 0, 282, .inl fa)), (g28, .inl (T 0, 7, .inl f72)), (g29, .inl (T 0, 7, .inl gb72))] H locs := V _ [] rfl rfl rfl (by decide +kernel) rfl
            show W p l e _ s m args below meth c H locs _ _ _ (F0 m 90 ls [.int (nI 1)])
            refine lv_if_eq (tgt := 96) hx hb dX8_lays_90 (by decide) (fun c => absurd (show (nI 1) = 0 from c) (by decide +kernel)) (fun _ => ?_)
            refine lv_goto (tgt := 126) hx hb dX8_lays_93 (by decide) ?_
            refine lv_iinc (v := (nI (k72 + 1))) (lv' := [(4, .int (nI (k72 + 1))), (0, .ref o), (1, .int (nI 4)), (2, .int (nI u)), (3, .int sum)]) hx hb dX8_lays_126 hl (k := 0) rfl (nI_1 _) (by decide) rfl (fun ls hl => ?_)
            refine lv_goto (tgt := 72) hx hb dX8_lays_129 (by decide) ?_
            exact ih_72 (k72 + 1) bv f72 gb72 (by omega) (by assumption) (by omega) _ _ _ V (lv_sub hl [0, 1, 2, 3, 4] rfl)
          · have V : gW D T A s [(o, .inr (8, [.int w0, .ref g1, .ref g2, .ref g3, .ref g4, .int (nI tp), .int w6, .int w7, .int w8, .int w9, .int w10, .int w11, .int w12, .int w13, .int w14, .ref g15, .int w16, .ref g17, .int w18, .int w19, .ref g20, .int w21, .ref g22, .ref g23, .ref g24, .int w25, .int w26, .int w27, .ref g28, .ref g29, .int bv, .ref g31, .ref g32, .ref g33])), (g1, .inl (T 0, 282, .inl fa)), (g28, .inl (T 0, 7, .inl f72)), (g29, .inl (T 0, 7, .inl gb72))] H locs := V _ [] rfl rfl rfl (by decide +kernel) rfl
            show W p l e _ s m args below meth c H locs _ _ _ (F0 m 90 ls [.int (nI 0)])
            refine lv_if_eq (tgt := 96) hx hb dX8_lays_90 (by decide) (fun _ => ?_) (fun c => absurd (show (nI 0) = 0 by decide +kernel) c)
            refine lv_aload_n hx hb dX8_lays_96 rfl (lv_at hl 1 rfl) ?_
            refine g_get hC V (ci := 8) uwX8 0 rfl rfl 28 (by decide) w_940 rfl rfl dX8_lays_97 ?_
            refine lv_iload_n hx hb dX8_lays_100 rfl (lv_at hl 2 rfl) ?_
            refine lv_iload hx hb dX8_lays_101 (lv_at hl 0 rfl) ?_
            refine g_iast hC V 2 rfl (vp_in_nI (by decide) (by decide)) (f' := (upd f72 4 (nI k72))) (by rw [nI_clamp (by decide)]) (ws' := [(o, .inr (8, [.int w0, .ref g1, .ref g2, .ref g3, .ref g4, .int (nI tp), .int w6, .int w7, .int w8, .int w9, .int w10, .int w11, .int w12, .int w13, .int w14, .ref g15, .int w16, .ref g17, .int w18, .int w19, .ref g20, .int w21, .ref g22, .ref g23, .ref g24, .int w25, .int w26, .int w27, .ref g28, .ref g29, .int bv, .ref g31, .ref g32, .ref g33])), (g1, .inl (T 0, 282, .inl fa)), (g28, .inl (T 0, 7, .inl (upd f72 4 (nI k72)))), (g29, .inl (T 0, 7, .inl gb72))]) rfl dX8_lays_103 (fun H locs V => ?_)
            refine lv_aload_n hx hb dX8_lays_104 rfl (lv_at hl 1 rfl) ?_
            refine lv_iload_n hx hb dX8_lays_105 rfl (lv_at hl 2 rfl) ?_
            refine lv_iconst (v := (nI 1)) hx hb dX8_lays_106 (by decide +kernel) ?_
            refine lv_iadd hx hb dX8_lays_107 ?_
            refine g_vi (y := (nI 5)) (by decide +kernel) ?_
            refine lv_iload_n hx hb dX8_lays_108 rfl (lv_at hl 3 rfl) ?_
            refine lv_iconst (v := (nI 1)) hx hb dX8_lays_109 (by decide +kernel) ?_
            refine lv_iload hx hb dX8_lays_110 (lv_at hl 0 rfl) ?_
            refine lv_ishl hx hb dX8_lays_112 ?_
            refine g_vi (y := (nI (2 ^ k72))) (shl_pow (by omega)) ?_
            refine lv_ior hx hb dX8_lays_113 ?_
            refine g_vi (y := nI (u ||| (2 ^ k72))) (or7 (by omega) (by omega)) ?_
            refine lv_iload_n hx hb dX8_lays_114 rfl (lv_at hl 4 rfl) ?_
            refine lv_aload_n hx hb dX8_lays_115 rfl (lv_at hl 1 rfl) ?_
            refine lv_iload_n hx hb dX8_lays_116 rfl (lv_at hl 2 rfl) ?_
            refine lv_iload hx hb dX8_lays_117 (lv_at hl 0 rfl) ?_
            refine g_callVU (nA := 2) hC V hl.1 (m_offBy l D T o 4 k72 w0 g1 g2 g3 g4 tp w6 w7 w8 w9 w10 w11 w12 w13 w14 g15 w16 g17 w18 w19 g20 w21 g22 g23 g24 w25 w26 w27 g28 g29 bv g31 g32 g33 fa (by first | assumption | omega) (by first | assumption | omega)) w_1328 w_1330 w_s77 w_9 w_1331 (by decide +kernel) rfl ⟨(Nat.le_of_ble_eq_true rfl), (Nat.le_of_ble_eq_true rfl)⟩ 0 (ci := 8) rfl rfl [0, 1] rfl rfl (Nat.le_of_ble_eq_true rfl) dX8_lays_119 ⟨(Nat.le_of_ble_eq_true rfl), (Nat.le_of_ble_eq_true rfl)⟩ rfl (fun r w1 H locs hQ V => ?_)
            obtain ⟨z_6, rfl, rfl⟩ := hQ
            have V : gW D T A s [(o, .inr (8, [.int w0, .ref g1, .ref g2, .ref g3, .ref g4, .int (nI tp), .int w6, .int w7, .int w8, .int w9, .int w10, .int w11, .int w12, .int w13, .int w14, .ref g15, .int w16, .ref g17, .int w18, .int w19, .ref g20, .int w21, .ref g22, .ref g23, .ref g24, .int w25, .int w26, .int w27, .ref g28, .ref g29, .int bv, .ref g31, .ref g32, .ref g33])), (g1, .inl (T 0, 282, .inl fa)), (g28, .inl (T 0, 7, .inl (upd f72 4 (nI k72)))), (g29, .inl (T 0, 7, .inl gb72))] H locs := V _ [0, 0] rfl rfl rfl (by decide +kernel) rfl
            show W p l e _ s m args below meth c H locs _ _ _ (F0 m 122 ls [.int z_6, .int sum, .int (nI (u ||| (2 ^ k72))), .int (nI 5), .ref o])
            refine lv_iadd hx hb dX8_lays_122 ?_
            refine g_callV (wr := []) (nA := 3) hC V hl.1 (m_lays5 l D T n o (u ||| (2 ^ k72)) (sum + z_6) w0 g1 g2 g3 g4 tp w6 w7 w8 w9 w10 w11 w12 w13 w14 g15 w16 g17 w18 w19 g20 w21 g22 g23 g24 w25 w26 w27 g28 g29 bv g31 g32 g33 fa (upd f72 4 (nI k72)) gb72 h_a (li_put (li_ext h_li hpre) (by omega) (ub_free (ub_ext h_ub hpre) (by assumption))) (lt_put h_lt hpre (by omega) h_7) (ub_put (ub_ext h_ub hpre) (by omega)) h_1 h_7 (by omega)) w_1320 w_1322 w_s75 w_9 w_1323 (by decide +kernel) rfl ⟨(Nat.le_of_ble_eq_true rfl), (Nat.le_of_ble_eq_true rfl)⟩ 0 (ci := 8) rfl rfl [0, 1, 2, 3] [] rfl rfl rfl rfl (by decide) (Nat.le_of_ble_eq_true rfl) dX8_lays_123 ⟨(Nat.le_of_ble_eq_true rfl), (Nat.le_of_ble_eq_true rfl)⟩ rfl (fun r w1 H locs hQ V => ?_)
            obtain ⟨bs_7, go_8, gp_9, rfl, rfl, f_10⟩ := hQ
            have V : gW D T A s [(o, .inr (8, [.int w0, .ref g1, .ref g2, .ref g3, .ref g4, .int (nI tp), .int w6, .int w7, .int w8, .int w9, .int w10, .int w11, .int w12, .int w13, .int w14, .ref g15, .int w16, .ref g17, .int w18, .int w19, .ref g20, .int w21, .ref g22, .ref g23, .ref g24, .int w25, .int w26, .int w27, .ref g28, .ref g29, .int bs_7, .ref g31, .ref g32, .ref g33])), (g1, .inl (T 0, 282, .inl fa)), (g28, .inl (T 0, 7, .inl go_8)), (g29, .inl (T 0, 7, .inl gp_9))] H locs := V
            show W p l e _ s m args below meth c H locs _ _ _ (F0 m 126 ls [])
            have hpre2 : ∀ j, j < 4 → go_8 j = fo j := fun j hj => (f_10 j (by omega)).trans ((up_other (by omega)).trans (hpre j hj))
            refine lv_iinc (v := (nI (k72 + 1))) (lv' := [(4, .int (nI (k72 + 1))), (0, .ref o), (1, .int (nI 4)), (2, .int (nI u)), (3, .int sum)]) hx hb dX8_lays_126 hl (k := 0) rfl (nI_1 _) (by decide) rfl (fun ls hl => ?_)
            refine lv_goto (tgt := 72) hx hb dX8_lays_129 (by decide) ?_
            exact ih_72 (k72 + 1) bs_7 go_8 gp_9 (by omega) (by assumption) (by omega) _ _ _ V (lv_sub hl [0, 1, 2, 3, 4] rfl)
    exact L_2 _ 0 w30 fo fp (by omega) (fun _ _ => rfl) (Nat.lt_succ_self _) _ _ _ V (lv_sub hl [0, 1, 2, 3, 4] rfl)
  · skip
    have c_1 := b_eq (by omega) (by omega) c_1
    have hkn : 4 = n := c_1
    refine lv_aload_n hx hb dX8_lays_10 rfl (lv_at hl 0 rfl) ?_
    refine g_callVU (nA := 0) hC V hl.1 (m_isOneRing l D T n o w0 g1 g2 g3 g4 tp w6 w7 w8 w9 w10 w11 w12 w13 w14 g15 w16 g17 w18 w19 g20 w21 g22 g23 g24 w25 w26 w27 g28 g29 w30 g31 g32 g33 fa fo h_a (lf_of h_li h_lt (by omega)) h_1 h_7) w_1324 w_1326 w_s76 w_9 w_1327 (by decide +kernel) rfl ⟨(Nat.le_of_ble_eq_true rfl), (Nat.le_of_ble_eq_true rfl)⟩ 0 (ci := 8) rfl rfl [0, 1, 2] rfl rfl (Nat.le_of_ble_eq_true rfl) dX8_lays_11 ⟨(Nat.le_of_ble_eq_true rfl), (Nat.le_of_ble_eq_true rfl)⟩ rfl (fun r w1 H locs hQ V => ?_)
    rcases hQ with ⟨rfl, rfl⟩ | ⟨rfl, rfl⟩
    · have V : gW D T A s [(o, .inr (8, [.int w0, .ref g1, .ref g2, .ref g3, .ref g4, .int (nI tp), .int w6, .int w7, .int w8, .int w9, .int w10, .int w11, .int w12, .int w13, .int w14, .ref g15, .int w16, .ref g17, .int w18, .int w19, .ref g20, .int w21, .ref g22, .ref g23, .ref g24, .int w25, .int w26, .int w27, .ref g28, .ref g29, .int w30, .ref g31, .ref g32, .ref g33])), (g1, .inl (T 0, 282, .inl fa)), (g28, .inl (T 0, 7, .inl fo)), (g29, .inl (T 0, 7, .inl fp))] H locs := V _ [0, 0, 0] rfl rfl rfl (by decide +kernel) rfl
      show W p l e _ s m args below meth c H locs _ _ _ (F0 m 14 ls [.int (nI 1)])
      refine lv_if_eq (tgt := 33) hx hb dX8_lays_14 (by decide) (fun c => absurd (show (nI 1) = 0 from c) (by decide +kernel)) (fun _ => ?_)
      refine lv_aload_n hx hb dX8_lays_17 rfl (lv_at hl 0 rfl) ?_
      refine g_get hC V (ci := 8) uwX8 0 rfl rfl 30 (by decide) w_942 rfl rfl dX8_lays_18 ?_
      refine lv_iconst (v := (-1)) hx hb dX8_lays_21 (by decide +kernel) ?_
      refine lv_icmp_eq (tgt := 34) hx hb dX8_lays_22 (by decide) (fun c_11 => ?_) (fun c_11 => ?_)
      · skip
        refine lv_aload_n hx hb dX8_lays_34 rfl (lv_at hl 0 rfl) ?_
        refine lv_iload_n hx hb dX8_lays_35 rfl (lv_at hl 3 rfl) ?_
        refine g_put hC V (ci := 8) uwX8 tyX8 tyX8_ok nmX8 0 rfl rfl 30 (by decide) w_942 rfl rfl rfl rfl (Nat.le_of_ble_eq_true rfl) (ws' := [(o, .inr (8, [.int w0, .ref g1, .ref g2, .ref g3, .ref g4, .int (nI tp), .int w6, .int w7, .int w8, .int w9, .int w10, .int w11, .int w12, .int w13, .int w14, .ref g15, .int w16, .ref g17, .int w18, .int w19, .ref g20, .int w21, .ref g22, .ref g23, .ref g24, .int w25, .int w26, .int w27, .ref g28, .ref g29, .int sum, .ref g31, .ref g32, .ref g33])), (g1, .inl (T 0, 282, .inl fa)), (g28, .inl (T 0, 7, .inl fo)), (g29, .inl (T 0, 7, .inl fp))]) rfl dX8_lays_36 (fun H locs V => ?_)
        refine lv_iconst (v := (nI 0)) hx hb dX8_lays_39 (by decide +kernel) ?_
        refine lv_istore (lv' := [(4, .int (nI 0)), (0, .ref o), (1, .int (nI 4)), (2, .int (nI u)), (3, .int sum)]) hx hb dX8_lays_40 hl (by decide) rfl (fun ls hl => ?_)
        have L_12 : ∀ (fu : Nat) (k42 : Nat) (gb42 : Nat → Int32), k42 ≤ 4 → 4 - k42 < fu → ∀ (H : Heap) (locs : List Loc) (ls : Array Slot), gW D T A s [(o, .inr (8, [.int w0, .ref g1, .ref g2, .ref g3, .ref g4, .int (nI tp), .int w6, .int w7, .int w8, .int w9, .int w10, .int w11, .int w12, .int w13, .int w14, .ref g15, .int w16, .ref g17, .int w18, .int w19, .ref g20, .int w21, .ref g22, .ref g23, .ref g24, .int w25, .int w26, .int w27, .ref g28, .ref g29, .int sum, .ref g31, .ref g32, .ref g33])), (g1, .inl (T 0, 282, .inl fa)), (g28, .inl (T 0, 7, .inl fo)), (g29, .inl (T 0, 7, .inl gb42))] H locs → lv_has ls 5 [(4, .int (nI k42)), (0, .ref o), (1, .int (nI 4)), (2, .int (nI u)), (3, .int sum)] → W p l e (rmD 5 0 0) s m args below meth c H locs 0 0 (MQ below (gQ D A (q_m_lays4 T n o u sum w0 g1 g2 g3 g4 tp w6 w7 w8 w9 w10 w11 w12 w13 w14 g15 w16 g17 w18 w19 g20 w21 g22 g23 g24 w25 w26 w27 g28 g29 w30 g31 g32 g33 fa fo fp)) args s 0 0 A) (F0 m 42 ls []) := by
          intro fu_42
          induction fu_42 with
          | zero => intro k42 gb42 hk42 hmu; exact absurd hmu (Nat.not_lt_zero _)
          | succ fu_42 ih_42 =>
            intro k42 gb42 hk42 hmu_42 H locs ls V hl
            refine lv_iload hx hb dX8_lays_42 (lv_at hl 0 rfl) ?_
            refine lv_iload_n hx hb dX8_lays_44 rfl (lv_at hl 2 rfl) ?_
            refine lv_icmp_ge (tgt := 68) hx hb dX8_lays_45 (by decide) (fun c_13 => ?_) (fun c_13 => ?_)
            · skip
              have c_13 := b_le (by omega) (by omega) c_13
              exact g_vret (Qr := (q_m_lays4 T n o u sum w0 g1 g2 g3 g4 tp w6 w7 w8 w9 w10 w11 w12 w13 w14 g15 w16 g17 w18 w19 g20 w21 g22 g23 g24 w25 w26 w27 g28 g29 w30 g31 g32 g33 fa fo fp)) hC V ⟨(Nat.le_of_ble_eq_true rfl), (Nat.le_of_ble_eq_true rfl)⟩ ⟨sum, fo, gb42, rfl, rfl, (fun _ _ => rfl)⟩ dX8_lays_68
            · skip
              have c_13 := b_nle (by omega) (by omega) c_13
              refine lv_aload_n hx hb dX8_lays_48 rfl (lv_at hl 1 rfl) ?_
              refine g_get hC V (ci := 8) uwX8 0 rfl rfl 29 (by decide) w_941 rfl rfl dX8_lays_49 ?_
              refine lv_iload hx hb dX8_lays_52 (lv_at hl 0 rfl) ?_
              refine lv_aload_n hx hb dX8_lays_54 rfl (lv_at hl 1 rfl) ?_
              refine g_get hC V (ci := 8) uwX8 0 rfl rfl 28 (by decide) w_940 rfl rfl dX8_lays_55 ?_
              refine lv_iload hx hb dX8_lays_58 (lv_at hl 0 rfl) ?_
              refine g_iald hC V 2 rfl (vp_in_nI (by omega) (by omega)) (v := (fo k42)) (congrArg _ (nI_clamp (by omega))) dX8_lays_60 ?_
              refine g_iast hC V 3 rfl (vp_in_nI (by omega) (by omega)) (f' := (upd gb42 k42 (fo k42))) (by rw [nI_clamp (by omega)]) (ws' := [(o, .inr (8, [.int w0, .ref g1, .ref g2, .ref g3, .ref g4, .int (nI tp), .int w6, .int w7, .int w8, .int w9, .int w10, .int w11, .int w12, .int w13, .int w14, .ref g15, .int w16, .ref g17, .int w18, .int w19, .ref g20, .int w21, .ref g22, .ref g23, .ref g24, .int w25, .int w26, .int w27, .ref g28, .ref g29, .int sum, .ref g31, .ref g32, .ref g33])), (g1, .inl (T 0, 282, .inl fa)), (g28, .inl (T 0, 7, .inl fo)), (g29, .inl (T 0, 7, .inl (upd gb42 k42 (fo k42))))]) rfl dX8_lays_61 (fun H locs V => ?_)
              refine lv_iinc (v := (nI (k42 + 1))) (lv' := [(4, .int (nI (k42 + 1))), (0, .ref o), (1, .int (nI 4)), (2, .int (nI u)), (3, .int sum)]) hx hb dX8_lays_62 hl (k := 0) rfl (nI_1 _) (by decide) rfl (fun ls hl => ?_)
              refine lv_goto (tgt := 42) hx hb dX8_lays_65 (by decide) ?_
              exact ih_42 (k42 + 1) (upd gb42 k42 (fo k42)) (by omega) (by omega) _ _ _ V (lv_sub hl [0, 1, 2, 3, 4] rfl)
        exact L_12 _ 0 fp (by omega) (Nat.lt_succ_self _) _ _ _ V (lv_sub hl [0, 1, 2, 3, 4] rfl)
      · skip
        refine lv_iload_n hx hb dX8_lays_25 rfl (lv_at hl 3 rfl) ?_
        refine lv_aload_n hx hb dX8_lays_26 rfl (lv_at hl 0 rfl) ?_
        refine g_get hC V (ci := 8) uwX8 0 rfl rfl 30 (by decide) w_942 rfl rfl dX8_lays_27 ?_
        refine lv_icmp_lt (tgt := 34) hx hb dX8_lays_30 (by decide) (fun c_14 => ?_) (fun c_14 => ?_)
        · skip
          refine lv_aload_n hx hb dX8_lays_34 rfl (lv_at hl 0 rfl) ?_
          refine lv_iload_n hx hb dX8_lays_35 rfl (lv_at hl 3 rfl) ?_
          refine g_put hC V (ci := 8) uwX8 tyX8 tyX8_ok nmX8 0 rfl rfl 30 (by decide) w_942 rfl rfl rfl rfl (Nat.le_of_ble_eq_true rfl) (ws' := [(o, .inr (8, [.int w0, .ref g1, .ref g2, .ref g3, .ref g4, .int (nI tp), .int w6, .int w7, .int w8, .int w9, .int w10, .int w11, .int w12, .int w13, .int w14, .ref g15, .int w16, .ref g17, .int w18, .int w19, .ref g20, .int w21, .ref g22, .ref g23, .ref g24, .int w25, .int w26, .int w27, .ref g28, .ref g29, .int sum, .ref g31, .ref g32, .ref g33])), (g1, .inl (T 0, 282, .inl fa)), (g28, .inl (T 0, 7, .inl fo)), (g29, .inl (T 0, 7, .inl fp))]) rfl dX8_lays_36 (fun H locs V => ?_)
          refine lv_iconst (v := (nI 0)) hx hb dX8_lays_39 (by decide +kernel) ?_
          refine lv_istore (lv' := [(4, .int (nI 0)), (0, .ref o), (1, .int (nI 4)), (2, .int (nI u)), (3, .int sum)]) hx hb dX8_lays_40 hl (by decide) rfl (fun ls hl => ?_)
          have L_15 : ∀ (fu : Nat) (k42 : Nat) (gb42 : Nat → Int32), k42 ≤ 4 → 4 - k42 < fu → ∀ (H : Heap) (locs : List Loc) (ls : Array Slot), gW D T A s [(o, .inr (8, [.int w0, .ref g1, .ref g2, .ref g3, .ref g4, .int (nI tp), .int w6, .int w7, .int w8, .int w9, .int w10, .int w11, .int w12, .int w13, .int w14, .ref g15, .int w16, .ref g17, .int w18, .int w19, .ref g20, .int w21, .ref g22, .ref g23, .ref g24, .int w25, .int w26, .int w27, .ref g28, .ref g29, .int sum, .ref g31, .ref g32, .ref g33])), (g1, .inl (T 0, 282, .inl fa)), (g28, .inl (T 0, 7, .inl fo)), (g29, .inl (T 0, 7, .inl gb42))] H locs → lv_has ls 5 [(4, .int (nI k42)), (0, .ref o), (1, .int (nI 4)), (2, .int (nI u)), (3, .int sum)] → W p l e (rmD 5 0 0) s m args below meth c H locs 0 0 (MQ below (gQ D A (q_m_lays4 T n o u sum w0 g1 g2 g3 g4 tp w6 w7 w8 w9 w10 w11 w12 w13 w14 g15 w16 g17 w18 w19 g20 w21 g22 g23 g24 w25 w26 w27 g28 g29 w30 g31 g32 g33 fa fo fp)) args s 0 0 A) (F0 m 42 ls []) := by
            intro fu_42
            induction fu_42 with
            | zero => intro k42 gb42 hk42 hmu; exact absurd hmu (Nat.not_lt_zero _)
            | succ fu_42 ih_42 =>
              intro k42 gb42 hk42 hmu_42 H locs ls V hl
              refine lv_iload hx hb dX8_lays_42 (lv_at hl 0 rfl) ?_
              refine lv_iload_n hx hb dX8_lays_44 rfl (lv_at hl 2 rfl) ?_
              refine lv_icmp_ge (tgt := 68) hx hb dX8_lays_45 (by decide) (fun c_16 => ?_) (fun c_16 => ?_)
              · skip
                have c_16 := b_le (by omega) (by omega) c_16
                exact g_vret (Qr := (q_m_lays4 T n o u sum w0 g1 g2 g3 g4 tp w6 w7 w8 w9 w10 w11 w12 w13 w14 g15 w16 g17 w18 w19 g20 w21 g22 g23 g24 w25 w26 w27 g28 g29 w30 g31 g32 g33 fa fo fp)) hC V ⟨(Nat.le_of_ble_eq_true rfl), (Nat.le_of_ble_eq_true rfl)⟩ ⟨sum, fo, gb42, rfl, rfl, (fun _ _ => rfl)⟩ dX8_lays_68
              · skip
                have c_16 := b_nle (by omega) (by omega) c_16
                refine lv_aload_n hx hb dX8_lays_48 rfl (lv_at hl 1 rfl) ?_
                refine g_get hC V (ci := 8) uwX8 0 rfl rfl 29 (by decide) w_941 rfl rfl dX8_lays_49 ?_
                refine lv_iload hx hb dX8_lays_52 (lv_at hl 0 rfl) ?_
                refine lv_aload_n hx hb dX8_lays_54 rfl (lv_at hl 1 rfl) ?_
                refine g_get hC V (ci := 8) uwX8 0 rfl rfl 28 (by decide) w_940 rfl rfl dX8_lays_55 ?_
                refine lv_iload hx hb dX8_lays_58 (lv_at hl 0 rfl) ?_
                refine g_iald hC V 2 rfl (vp_in_nI (by omega) (by omega)) (v := (fo k42)) (congrArg _ (nI_clamp (by omega))) dX8_lays_60 ?_
                refine g_iast hC V 3 rfl (vp_in_nI (by omega) (by omega)) (f' := (upd gb42 k42 (fo k42))) (by rw [nI_clamp (by omega)]) (ws' := [(o, .inr (8, [.int w0, .ref g1, .ref g2, .ref g3, .ref g4, .int (nI tp), .int w6, .int w7, .int w8, .int w9, .int w10, .int w11, .int w12, .int w13, .int w14, .ref g15, .int w16, .ref g17, .int w18, .int w19, .ref g20, .int w21, .ref g22, .ref g23, .ref g24, .int w25, .int w26, .int w27, .ref g28, .ref g29, .int sum, .ref g31, .ref g32, .ref g33])), (g1, .inl (T 0, 282, .inl fa)), (g28, .inl (T 0, 7, .inl fo)), (g29, .inl (T 0, 7, .inl (upd gb42 k42 (fo k42))))]) rfl dX8_lays_61 (fun H locs V => ?_)
                refine lv_iinc (v := (nI (k42 + 1))) (lv' := [(4, .int (nI (k42 + 1))), (0, .ref o), (1, .int (nI 4)), (2, .int (nI u)), (3, .int sum)]) hx hb dX8_lays_62 hl (k := 0) rfl (nI_1 _) (by decide) rfl (fun ls hl => ?_)
                refine lv_goto (tgt := 42) hx hb dX8_lays_65 (by decide) ?_
                exact ih_42 (k42 + 1) (upd gb42 k42 (fo k42)) (by omega) (by omega) _ _ _ V (lv_sub hl [0, 1, 2, 3, 4] rfl)
          exact L_15 _ 0 fp (by omega) (Nat.lt_succ_self _) _ _ _ V (lv_sub hl [0, 1, 2, 3, 4] rfl)
        · skip
          exact g_vret (Qr := (q_m_lays4 T n o u sum w0 g1 g2 g3 g4 tp w6 w7 w8 w9 w10 w11 w12 w13 w14 g15 w16 g17 w18 w19 g20 w21 g22 g23 g24 w25 w26 w27 g28 g29 w30 g31 g32 g33 fa fo fp)) hC V ⟨(Nat.le_of_ble_eq_true rfl), (Nat.le_of_ble_eq_true rfl)⟩ ⟨w30, fo, fp, rfl, rfl, (fun _ _ => rfl)⟩ dX8_lays_33
    · have V : gW D T A s [(o, .inr (8, [.int w0, .ref g1, .ref g2, .ref g3, .ref g4, .int (nI tp), .int w6, .int w7, .int w8, .int w9, .int w10, .int w11, .int w12, .int w13, .int w14, .ref g15, .int w16, .ref g17, .int w18, .int w19, .ref g20, .int w21, .ref g22, .ref g23, .ref g24, .int w25, .int w26, .int w27, .ref g28, .ref g29, .int w30, .ref g31, .ref g32, .ref g33])), (g1, .inl (T 0, 282, .inl fa)), (g28, .inl (T 0, 7, .inl fo)), (g29, .inl (T 0, 7, .inl fp))] H locs := V _ [0, 0, 0] rfl rfl rfl (by decide +kernel) rfl
      show W p l e _ s m args below meth c H locs _ _ _ (F0 m 14 ls [.int (nI 0)])
      refine lv_if_eq (tgt := 33) hx hb dX8_lays_14 (by decide) (fun _ => ?_) (fun c => absurd (show (nI 0) = 0 by decide +kernel) c)
      exact g_vret (Qr := (q_m_lays4 T n o u sum w0 g1 g2 g3 g4 tp w6 w7 w8 w9 w10 w11 w12 w13 w14 g15 w16 g17 w18 w19 g20 w21 g22 g23 g24 w25 w26 w27 g28 g29 w30 g31 g32 g33 fa fo fp)) hC V ⟨(Nat.le_of_ble_eq_true rfl), (Nat.le_of_ble_eq_true rfl)⟩ ⟨w30, fo, fp, rfl, rfl, (fun _ _ => rfl)⟩ dX8_lays_33

def q_m_lays3 (T : Nat → ClassId) (n : Nat) (o : Nat) (u : Nat) (sum : Int32) (w0 : Int32) (g1 : Nat) (g2 : Nat) (g3 : Nat) (g4 : Nat) (tp : Nat) (w6 : Int32) (w7 : Int32) (w8 : Int32) (w9 : Int32) (w10 : Int32) (w11 : Int32) (w12 : Int32) (w13 : Int32) (w14 : Int32) (g15 : Nat) (w16 : Int32) (g17 : Nat) (w18 : Int32) (w19 : Int32) (g20 : Nat) (w21 : Int32) (g22 : Nat) (g23 : Nat) (g24 : Nat) (w25 : Int32) (w26 : Int32) (w27 : Int32) (g28 : Nat) (g29 : Nat) (w30 : Int32) (g31 : Nat) (g32 : Nat) (g33 : Nat) (fa : Nat → Int32) (fo : Nat → Int32) (fp : Nat → Int32) : Option Value → va_W → Prop := fun rr ww => (∃ (bs : Int32) (go : Nat → Int32) (gp : Nat → Int32), rr = none ∧ ww = [(o, .inr (8, [.int w0, .ref g1, .ref g2, .ref g3, .ref g4, .int (nI tp), .int w6, .int w7, .int w8, .int w9, .int w10, .int w11, .int w12, .int w13, .int w14, .ref g15, .int w16, .ref g17, .int w18, .int w19, .ref g20, .int w21, .ref g22, .ref g23, .ref g24, .int w25, .int w26, .int w27, .ref g28, .ref g29, .int bs, .ref g31, .ref g32, .ref g33])), (g1, .inl (T 0, 282, .inl fa)), (g28, .inl (T 0, 7, .inl go)), (g29, .inl (T 0, 7, .inl gp))] ∧ (∀ j, j < 3 → go j = fo j))
set_option maxHeartbeats 4000000 in
set_option maxRecDepth 100000 in
theorem m_lays3 (l : Launch) (D : va_G) (T : Nat → ClassId) (n : Nat) (o : Nat) (u : Nat) (sum : Int32) (w0 : Int32) (g1 : Nat) (g2 : Nat) (g3 : Nat) (g4 : Nat) (tp : Nat) (w6 : Int32) (w7 : Int32) (w8 : Int32) (w9 : Int32) (w10 : Int32) (w11 : Int32) (w12 : Int32) (w13 : Int32) (w14 : Int32) (g15 : Nat) (w16 : Int32) (g17 : Nat) (w18 : Int32) (w19 : Int32) (g20 : Nat) (w21 : Int32) (g22 : Nat) (g23 : Nat) (g24 : Nat) (w25 : Int32) (w26 : Int32) (w27 : Int32) (g28 : Nat) (g29 : Nat) (w30 : Int32) (g31 : Nat) (g32 : Nat) (g33 : Nat) (fa : Nat → Int32) (fo : Nat → Int32) (fp : Nat → Int32) (h_a : MI n fa) (h_li : LI 3 fo) (h_lt : ∀ j, j < 3 → toF fo j < n) (h_ub : UB 3 u fo) (h_1 : 1 ≤ n) (h_7 : n ≤ 7) (h_kn : 3 ≤ n) : Ct l yX8_lays cX8_lays 5 none 6 0 0 D T [.ref o, .int (nI 3), .int (nI u), .int sum] [(o, .inr (8, [.int w0, .ref g1, .ref g2, .ref g3, .ref g4, .int (nI tp), .int w6, .int w7, .int w8, .int w9, .int w10, .int w11, .int w12, .int w13, .int w14, .ref g15, .int w16, .ref g17, .int w18, .int w19, .ref g20, .int w21, .ref g22, .ref g23, .ref g24, .int w25, .int w26, .int w27, .ref g28, .ref g29, .int w30, .ref g31, .ref g32, .ref g33])), (g1, .inl (T 0, 282, .inl fa)), (g28, .inl (T 0, 7, .inl fo)), (g29, .inl (T 0, 7, .inl fp))] (q_m_lays3 T n o u sum w0 g1 g2 g3 g4 tp w6 w7 w8 w9 w10 w11 w12 w13 w14 g15 w16 g17 w18 w19 g20 w21 g22 g23 g24 w25 w26 w27 g28 g29 w30 g31 g32 g33 fa fo fp) := by
  refine Ct.of (cc := cX8_lays) (maxL := 5) (ret := none) (by decide) (Nat.le_of_ble_eq_true rfl) ?_
  intro p e s m args below meth c A ls hC hnm V hl
  obtain ⟨hx, hb, hr, hml, hown, hts, hlocks⟩ := id hC
  generalize hH : s.heap = H at V ⊢
  clear hH
  have hl : lv_has ls 5 [(0, .ref o), (1, .int (nI 3)), (2, .int (nI u)), (3, .int sum)] := hl
  generalize hlo : ([] : List Loc) = locs at V ⊢
  clear hlo
  have ms0 := ms_rf h_a
  have hn10 := h_a.1
  have hu := h_ub.1
  refine lv_iload_n hx hb dX8_lays_0 rfl (lv_at hl 1 rfl) ?_
  refine lv_aload_n hx hb dX8_lays_1 rfl (lv_at hl 0 rfl) ?_
  refine g_get hC V (ci := 8) uwX8 0 rfl rfl 1 (by decide) w_913 rfl rfl dX8_lays_2 ?_
  refine lv_iconst (v := (nI 0)) hx hb dX8_lays_5 (by decide +kernel) ?_
  refine g_iald hC V 1 rfl (vp_in_nI (by decide) (by decide)) (v := (nI n)) (by rw [nI_clamp (by decide)]; first | rfl | exact h_a.2.1) dX8_lays_6 ?_
  refine lv_icmp_ne (tgt := 69) hx hb dX8_lays_7 (by decide) (fun c_1 => ?_) (fun c_1 => ?_)
  · skip
    have c_1 := b_ne (by omega) (by omega) c_1
    refine lv_iconst (v := (nI 0)) hx hb dX8_lays_69 (by decide +kernel) ?_
    refine lv_istore (lv' := [(4, .int (nI 0)), (0, .ref o), (1, .int (nI 3)), (2, .int (nI u)), (3, .int sum)]) hx hb dX8_lays_70 hl (by decide) rfl (fun ls hl => ?_)
    have L_2 : ∀ (fu : Nat) (k72 : Nat) (bv : Int32) (f72 : Nat → Int32) (gb72 : Nat → Int32), k72 ≤ n → (∀ j, j < 3 → f72 j = fo j) → n - k72 < fu → ∀ (H : Heap) (locs : List Loc) (ls : Array Slot), gW D T A s [(o, .inr (8, [.int w0, .ref g1, .ref g2, .ref g3, .ref g4, .int (nI tp), .int w6, .int w7, .int w8, .int w9, .int w10, .int w11, .int w12, .int w13, .int w14, .ref g15, .int w16, .ref g17, .int w18, .int w19, .ref g20, .int w21, .ref g22, .ref g23, .ref g24, .int w25, .int w26, .int w27, .ref g28, .ref g29, .int bv, .ref g31, .ref g32, .ref g33])), (g1, .inl (T 0, 282, .inl fa)), (g28, .inl (T 0, 7, .inl f72)), (g29, .inl (T 0, 7, .inl gb72))] H locs → lv_has ls 5 [(4, .int (nI k72)), (0, .ref o), (1, .int (nI 3)), (2, .int (nI u)), (3, .int sum)] → W p l e (rmD 6 0 0) s m args below meth c H locs 0 0 (MQ below (gQ D A (q_m_lays3 T n o u sum w0 g1 g2 g3 g4 tp w6 w7 w8 w9 w10 w11 w12 w13 w14 g15 w16 g17 w18 w19 g20 w21 g22 g23 g24 w25 w26 w27 g28 g29 w30 g31 g32 g33 fa fo fp)) args s 0 0 A) (F0 m 72 ls []) := by
      intro fu_72
      induction fu_72 with
      | zero => intro k72 bv f72 gb72 hk72 hpre hmu; exact absurd hmu (Nat.not_lt_zero _)
      | succ fu_72 ih_72 =>
        intro k72 bv f72 gb72 hk72 hpre hmu_72 H locs ls V hl
        refine lv_iload hx hb dX8_lays_72 (lv_at hl 0 rfl) ?_
        refine lv_aload_n hx hb dX8_lays_74 rfl (lv_at hl 1 rfl) ?_
        refine g_get hC V (ci := 8) uwX8 0 rfl rfl 1 (by decide) w_913 rfl rfl dX8_lays_75 ?_
        refine lv_iconst (v := (nI 0)) hx hb dX8_lays_78 (by decide +kernel) ?_
        refine g_iald hC V 1 rfl (vp_in_nI (by decide) (by decide)) (v := (nI n)) (by rw [nI_clamp (by decide)]; first | rfl | exact h_a.2.1) dX8_lays_79 ?_
        refine lv_icmp_ge (tgt := 132) hx hb dX8_lays_80 (by decide) (fun c_3 => ?_) (fun c_3 => ?_)
        · skip
          have c_3 := b_le (by omega) (by omega) c_3
          exact g_vret (Qr := (q_m_lays3 T n o u sum w0 g1 g2 g3 g4 tp w6 w7 w8 w9 w10 w11 w12 w13 w14 g15 w16 g17 w18 w19 g20 w21 g22 g23 g24 w25 w26 w27 g28 g29 w30 g31 g32 g33 fa fo fp)) hC V ⟨(Nat.le_of_ble_eq_true rfl), (Nat.le_of_ble_eq_true rfl)⟩ ⟨bv, f72, gb72, rfl, rfl, hpre⟩ dX8_lays_132
        · skip
          have c_3 := b_nle (by omega) (by omega) c_3
          refine lv_iload_n hx hb dX8_lays_83 rfl (lv_at hl 3 rfl) ?_
          refine lv_i2l (v := (nI u).toInt64) hx hb dX8_lays_84 rfl ?_
          refine lv_iload hx hb dX8_lays_85 (lv_at hl 0 rfl) ?_
          refine g_callSU (nA := 2) hC V hl.1 (m_isIn7 l D T u k72 h_ub.1 (by omega)) w_1130 w_1131 w_9 w_1132 (by decide +kernel) rfl ⟨(Nat.le_of_ble_eq_true rfl), (Nat.le_of_ble_eq_true rfl)⟩ [] rfl rfl (Nat.le_of_ble_eq_true rfl) dX8_lays_87 ⟨(Nat.le_of_ble_eq_true rfl), (Nat.le_of_ble_eq_true rfl)⟩ rfl (fun r w1 H locs hQ V => ?_)
          rcases hQ with ⟨rfl, rfl, f_4⟩ | ⟨rfl, rfl, f_5⟩
          · have V : gW D T A s [(o, .inr (8, [.int w0, .ref g1, .ref g2, .ref g3, .ref g4, .int (nI tp), .int w6, .int w7, .int w8, .int w9, .int w10, .int w11, .int w12, .int w13, .int w14, .ref g15, .int w16, .ref g17, .int w18, .int w19, .ref g20, .int w21, .ref g22, .ref g23, .ref g24, .int w25, .int w26, .int w27, .ref g28, .ref g29, .int bv, .ref g31, .ref g32, .ref g33])), (g1, .inl (T 0, 282, .inl fa)), (g28, .inl (T 0, 7, .inl f72)), (g29, .inl (T 0, 7, .inl gb72))] H locs := V _ [] rfl rfl rfl (by decide +kernel) rfl
            show W p l e _ s m args below meth c H locs _ _ _ (F0 m 90 ls [.int (nI 1)])
            refine lv_if_eq (tgt := 96) hx hb dX8_lays_90 (by decide) (fun c => absurd (show (nI 1) = 0 from c) (by decide +kernel)) (fun _ => ?_)
            refine lv_goto (tgt := 126) hx hb dX8_lays_93 (by decide) ?_
            refine lv_iinc (v := (nI (k72 + 1))) (lv' := [(4, .int (nI (k72 + 1))), (0, .ref o), (1, .int (nI 3)), (2, .int (nI u)), (3, .int sum)]) hx hb dX8_lays_126 hl (k := 0) rfl (nI_1 _) (by decide) rfl (fun ls hl => ?_)
            refine lv_goto (tgt := 72) hx hb dX8_lays_129 (by decide) ?_
            exact ih_72 (k72 + 1) bv f72 gb72 (by omega) (by assumption) (by omega) _ _ _ V (lv_sub hl [0, 1, 2, 3, 4] rfl)
          · have V : gW D T A s [(o, .inr (8, [.int w0, .ref g1, .ref g2, .ref g3, .ref g4, .int (nI tp), .int w6, .int w7, .int w8, .int w9, .int w10, .int w11, .int w12, .int w13, .int w14, .ref g15, .int w16, .ref g17, .int w18, .int w19, .ref g20, .int w21, .ref g22, .ref g23, .ref g24, .int w25, .int w26, .int w27, .ref g28, .ref g29, .int bv, .ref g31, .ref g32, .ref g33])), (g1, .inl (T 0, 282, .inl fa)), (g28, .inl (T 0, 7, .inl f72)), (g29, .inl (T 0, 7, .inl gb72))] H locs := V _ [] rfl rfl rfl (by decide +kernel) rfl
            show W p l e _ s m args below meth c H locs _ _ _ (F0 m 90 ls [.int (nI 0)])
            refine lv_if_eq (tgt := 96) hx hb dX8_lays_90 (by decide) (fun _ => ?_) (fun c => absurd (show (nI 0) = 0 by decide +kernel) c)
            refine lv_aload_n hx hb dX8_lays_96 rfl (lv_at hl 1 rfl) ?_
            refine g_get hC V (ci := 8) uwX8 0 rfl rfl 28 (by decide) w_940 rfl rfl dX8_lays_97 ?_
            refine lv_iload_n hx hb dX8_lays_100 rfl (lv_at hl 2 rfl) ?_
            refine lv_iload hx hb dX8_lays_101 (lv_at hl 0 rfl) ?_
            refine g_iast hC V 2 rfl (vp_in_nI (by decide) (by decide)) (f' := (upd f72 3 (nI k72))) (by rw [nI_clamp (by decide)]) (ws' := [(o, .inr (8, [.int w0, .ref g1, .ref g2, .ref g3, .ref g4, .int (nI tp), .int w6, .int w7, .int w8, .int w9, .int w10, .int w11, .int w12, .int w13, .int w14, .ref g15, .int w16, .ref g17, .int w18, .int w19, .ref g20, .int w21, .ref g22, .ref g23, .ref g24, .int w25, .int w26, .int w27, .ref g28, .ref g29, .int bv, .ref g31, .ref g32, .ref g33])), (g1, .inl (T 0, 282, .inl fa)), (g28, .inl (T 0, 7, .inl (upd f72 3 (nI k72)))), (g29, .inl (T 0, 7, .inl gb72))]) rfl dX8_lays_103 (fun H locs V => ?_)
            refine lv_aload_n hx hb dX8_lays_104 rfl (lv_at hl 1 rfl) ?_
            refine lv_iload_n hx hb dX8_lays_105 rfl (lv_at hl 2 rfl) ?_
            refine lv_iconst (v := (nI 1)) hx hb dX8_lays_106 (by decide +kernel) ?_
            refine lv_iadd hx hb dX8_lays_107 ?_
            refine g_vi (y := (nI 4)) (by decide +kernel) ?_
            refine lv_iload_n hx hb dX8_lays_108 rfl (lv_at hl 3 rfl) ?_
            refine lv_iconst (v := (nI 1)) hx hb dX8_lays_109 (by decide +kernel) ?_
            refine lv_iload hx hb dX8_lays_110 (lv_at hl 0 rfl) ?_
            refine lv_ishl hx hb dX8_lays_112 ?_
            refine g_vi (y := (nI (2 ^ k72))) (shl_pow (by omega)) ?_
            refine lv_ior hx hb dX8_lays_113 ?_
            refine g_vi (y := nI (u ||| (2 ^ k72))) (or7 (by omega) (by omega)) ?_
            refine lv_iload_n hx hb dX8_lays_114 rfl (lv_at hl 4 rfl) ?_
            refine lv_aload_n hx hb dX8_lays_115 rfl (lv_at hl 1 rfl) ?_
            refine lv_iload_n hx hb dX8_lays_116 rfl (lv_at hl 2 rfl) ?_
            refine lv_iload hx hb dX8_lays_117 (lv_at hl 0 rfl) ?_
            refine g_callVU (nA := 2) hC V hl.1 (m_offBy l D T o 3 k72 w0 g1 g2 g3 g4 tp w6 w7 w8 w9 w10 w11 w12 w13 w14 g15 w16 g17 w18 w19 g20 w21 g22 g23 g24 w25 w26 w27 g28 g29 bv g31 g32 g33 fa (by first | assumption | omega) (by first | assumption | omega)) w_1328 w_1330 w_s77 w_9 w_1331 (by decide +kernel) rfl ⟨(Nat.le_of_ble_eq_true rfl), (Nat.le_of_ble_eq_true rfl)⟩ 0 (ci := 8) rfl rfl [0, 1] rfl rfl (Nat.le_of_ble_eq_true rfl) dX8_lays_119 ⟨(Nat.le_of_ble_eq_true rfl), (Nat.le_of_ble_eq_true rfl)⟩ rfl (fun r w1 H locs hQ V => ?_)
            obtain ⟨z_6, rfl, rfl⟩ := hQ
            have V : gW D T A s [(o, .inr (8, [.int w0, .ref g1, .ref g2, .ref g3, .ref g4, .int (nI tp), .int w6, .int w7, .int w8, .int w9, .int w10, .int w11, .int w12, .int w13, .int w14, .ref g15, .int w16, .ref g17, .int w18, .int w19, .ref g20, .int w21, .ref g22, .ref g23, .ref g24, .int w25, .int w26, .int w27, .ref g28, .ref g29, .int bv, .ref g31, .ref g32, .ref g33])), (g1, .inl (T 0, 282, .inl fa)), (g28, .inl (T 0, 7, .inl (upd f72 3 (nI k72)))), (g29, .inl (T 0, 7, .inl gb72))] H locs := V _ [0, 0] rfl rfl rfl (by decide +kernel) rfl
            show W p l e _ s m args below meth c H locs _ _ _ (F0 m 122 ls [.int z_6, .int sum, .int (nI (u ||| (2 ^ k72))), .int (nI 4), .ref o])
            refine lv_iadd hx hb dX8_lays_122 ?_
            refine g_callV (wr := []) (nA := 3) hC V hl.1 (m_lays4 l D T n o (u ||| (2 ^ k72)) (sum + z_6) w0 g1 g2 g3 g4 tp w6 w7 w8 w9 w10 w11 w12 w13 w14 g15 w16 g17 w18 w19 g20 w21 g22 g23 g24 w25 w26 w27 g28 g29 bv g31 g32 g33 fa (upd f72 3 (nI k72)) gb72 h_a (li_put (li_ext h_li hpre) (by omega) (ub_free (ub_ext h_ub hpre) (by assumption))) (lt_put h_lt hpre (by omega) h_7) (ub_put (ub_ext h_ub hpre) (by omega)) h_1 h_7 (by omega)) w_1320 w_1322 w_s75 w_9 w_1323 (by decide +kernel) rfl ⟨(Nat.le_of_ble_eq_true rfl), (Nat.le_of_ble_eq_true rfl)⟩ 0 (ci := 8) rfl rfl [0, 1, 2, 3] [] rfl rfl rfl rfl (by decide) (Nat.le_of_ble_eq_true rfl) dX8_lays_123 ⟨(Nat.le_of_ble_eq_true rfl), (Nat.le_of_ble_eq_true rfl)⟩ rfl (fun r w1 H locs hQ V => ?_)
            obtain ⟨bs_7, go_8, gp_9, rfl, rfl, f_10⟩ := hQ
            have V : gW D T A s [(o, .inr (8, [.int w0, .ref g1, .ref g2, .ref g3, .ref g4, .int (nI tp), .int w6, .int w7, .int w8, .int w9, .int w10, .int w11, .int w12, .int w13, .int w14, .ref g15, .int w16, .ref g17, .int w18, .int w19, .ref g20, .int w21, .ref g22, .ref g23, .ref g24, .int w25, .int w26, .int w27, .ref g28, .ref g29, .int bs_7, .ref g31, .ref g32, .ref g33])), (g1, .inl (T 0, 282, .inl fa)), (g28, .inl (T 0, 7, .inl go_8)), (g29, .inl (T 0, 7, .inl gp_9))] H locs := V
            show W p l e _ s m args below meth c H locs _ _ _ (F0 m 126 ls [])
            have hpre2 : ∀ j, j < 3 → go_8 j = fo j := fun j hj => (f_10 j (by omega)).trans ((up_other (by omega)).trans (hpre j hj))
            refine lv_iinc (v := (nI (k72 + 1))) (lv' := [(4, .int (nI (k72 + 1))), (0, .ref o), (1, .int (nI 3)), (2, .int (nI u)), (3, .int sum)]) hx hb dX8_lays_126 hl (k := 0) rfl (nI_1 _) (by decide) rfl (fun ls hl => ?_)
            refine lv_goto (tgt := 72) hx hb dX8_lays_129 (by decide) ?_
            exact ih_72 (k72 + 1) bs_7 go_8 gp_9 (by omega) (by assumption) (by omega) _ _ _ V (lv_sub hl [0, 1, 2, 3, 4] rfl)
    exact L_2 _ 0 w30 fo fp (by omega) (fun _ _ => rfl) (Nat.lt_succ_self _) _ _ _ V (lv_sub hl [0, 1, 2, 3, 4] rfl)
  · skip
    have c_1 := b_eq (by omega) (by omega) c_1
    have hkn : 3 = n := c_1
    refine lv_aload_n hx hb dX8_lays_10 rfl (lv_at hl 0 rfl) ?_
    refine g_callVU (nA := 0) hC V hl.1 (m_isOneRing l D T n o w0 g1 g2 g3 g4 tp w6 w7 w8 w9 w10 w11 w12 w13 w14 g15 w16 g17 w18 w19 g20 w21 g22 g23 g24 w25 w26 w27 g28 g29 w30 g31 g32 g33 fa fo h_a (lf_of h_li h_lt (by omega)) h_1 h_7) w_1324 w_1326 w_s76 w_9 w_1327 (by decide +kernel) rfl ⟨(Nat.le_of_ble_eq_true rfl), (Nat.le_of_ble_eq_true rfl)⟩ 0 (ci := 8) rfl rfl [0, 1, 2] rfl rfl (Nat.le_of_ble_eq_true rfl) dX8_lays_11 ⟨(Nat.le_of_ble_eq_true rfl), (Nat.le_of_ble_eq_true rfl)⟩ rfl (fun r w1 H locs hQ V => ?_)
    rcases hQ with ⟨rfl, rfl⟩ | ⟨rfl, rfl⟩
    · have V : gW D T A s [(o, .inr (8, [.int w0, .ref g1, .ref g2, .ref g3, .ref g4, .int (nI tp), .int w6, .int w7, .int w8, .int w9, .int w10, .int w11, .int w12, .int w13, .int w14, .ref g15, .int w16, .ref g17, .int w18, .int w19, .ref g20, .int w21, .ref g22, .ref g23, .ref g24, .int w25, .int w26, .int w27, .ref g28, .ref g29, .int w30, .ref g31, .ref g32, .ref g33])), (g1, .inl (T 0, 282, .inl fa)), (g28, .inl (T 0, 7, .inl fo)), (g29, .inl (T 0, 7, .inl fp))] H locs := V _ [0, 0, 0] rfl rfl rfl (by decide +kernel) rfl
      show W p l e _ s m args below meth c H locs _ _ _ (F0 m 14 ls [.int (nI 1)])
      refine lv_if_eq (tgt := 33) hx hb dX8_lays_14 (by decide) (fun c => absurd (show (nI 1) = 0 from c) (by decide +kernel)) (fun _ => ?_)
      refine lv_aload_n hx hb dX8_lays_17 rfl (lv_at hl 0 rfl) ?_
      refine g_get hC V (ci := 8) uwX8 0 rfl rfl 30 (by decide) w_942 rfl rfl dX8_lays_18 ?_
      refine lv_iconst (v := (-1)) hx hb dX8_lays_21 (by decide +kernel) ?_
      refine lv_icmp_eq (tgt := 34) hx hb dX8_lays_22 (by decide) (fun c_11 => ?_) (fun c_11 => ?_)
      · skip
        refine lv_aload_n hx hb dX8_lays_34 rfl (lv_at hl 0 rfl) ?_
        refine lv_iload_n hx hb dX8_lays_35 rfl (lv_at hl 3 rfl) ?_
        refine g_put hC V (ci := 8) uwX8 tyX8 tyX8_ok nmX8 0 rfl rfl 30 (by decide) w_942 rfl rfl rfl rfl (Nat.le_of_ble_eq_true rfl) (ws' := [(o, .inr (8, [.int w0, .ref g1, .ref g2, .ref g3, .ref g4, .int (nI tp), .int w6, .int w7, .int w8, .int w9, .int w10, .int w11, .int w12, .int w13, .int w14, .ref g15, .int w16, .ref g17, .int w18, .int w19, .ref g20, .int w21, .ref g22, .ref g23, .ref g24, .int w25, .int w26, .int w27, .ref g28, .ref g29, .int sum, .ref g31, .ref g32, .ref g33])), (g1, .inl (T 0, 282, .inl fa)), (g28, .inl (T 0, 7, .inl fo)), (g29, .inl (T 0, 7, .inl fp))]) rfl dX8_lays_36 (fun H locs V => ?_)
        refine lv_iconst (v := (nI 0)) hx hb dX8_lays_39 (by decide +kernel) ?_
        refine lv_istore (lv' := [(4, .int (nI 0)), (0, .ref o), (1, .int (nI 3)), (2, .int (nI u)), (3, .int sum)]) hx hb dX8_lays_40 hl (by decide) rfl (fun ls hl => ?_)
        have L_12 : ∀ (fu : Nat) (k42 : Nat) (gb42 : Nat → Int32), k42 ≤ 3 → 3 - k42 < fu → ∀ (H : Heap) (locs : List Loc) (ls : Array Slot), gW D T A s [(o, .inr (8, [.int w0, .ref g1, .ref g2, .ref g3, .ref g4, .int (nI tp), .int w6, .int w7, .int w8, .int w9, .int w10, .int w11, .int w12, .int w13, .int w14, .ref g15, .int w16, .ref g17, .int w18, .int w19, .ref g20, .int w21, .ref g22, .ref g23, .ref g24, .int w25, .int w26, .int w27, .ref g28, .ref g29, .int sum, .ref g31, .ref g32, .ref g33])), (g1, .inl (T 0, 282, .inl fa)), (g28, .inl (T 0, 7, .inl fo)), (g29, .inl (T 0, 7, .inl gb42))] H locs → lv_has ls 5 [(4, .int (nI k42)), (0, .ref o), (1, .int (nI 3)), (2, .int (nI u)), (3, .int sum)] → W p l e (rmD 6 0 0) s m args below meth c H locs 0 0 (MQ below (gQ D A (q_m_lays3 T n o u sum w0 g1 g2 g3 g4 tp w6 w7 w8 w9 w10 w11 w12 w13 w14 g15 w16 g17 w18 w19 g20 w21 g22 g23 g24 w25 w26 w27 g28 g29 w30 g31 g32 g33 fa fo fp)) args s 0 0 A) (F0 m 42 ls []) := by
          intro fu_42
          induction fu_42 with
          | zero => intro k42 gb42 hk42 hmu; exact absurd hmu (Nat.not_lt_zero _)
          | succ fu_42 ih_42 =>
            intro k42 gb42 hk42 hmu_42 H locs ls V hl
            refine lv_iload hx hb dX8_lays_42 (lv_at hl 0 rfl) ?_
            refine lv_iload_n hx hb dX8_lays_44 rfl (lv_at hl 2 rfl) ?_
            refine lv_icmp_ge (tgt := 68) hx hb dX8_lays_45 (by decide) (fun c_13 => ?_) (fun c_13 => ?_)
            · skip
              have c_13 := b_le (by omega) (by omega) c_13
              exact g_vret (Qr := (q_m_lays3 T n o u sum w0 g1 g2 g3 g4 tp w6 w7 w8 w9 w10 w11 w12 w13 w14 g15 w16 g17 w18 w19 g20 w21 g22 g23 g24 w25 w26 w27 g28 g29 w30 g31 g32 g33 fa fo fp)) hC V ⟨(Nat.le_of_ble_eq_true rfl), (Nat.le_of_ble_eq_true rfl)⟩ ⟨sum, fo, gb42, rfl, rfl, (fun _ _ => rfl)⟩ dX8_lays_68
            · skip
              have c_13 := b_nle (by omega) (by omega) c_13
              refine lv_aload_n hx hb dX8_lays_48 rfl (lv_at hl 1 rfl) ?_
              refine g_get hC V (ci := 8) uwX8 0 rfl rfl 29 (by decide) w_941 rfl rfl dX8_lays_49 ?_
              refine lv_iload hx hb dX8_lays_52 (lv_at hl 0 rfl) ?_
              refine lv_aload_n hx hb dX8_lays_54 rfl (lv_at hl 1 rfl) ?_
              refine g_get hC V (ci := 8) uwX8 0 rfl rfl 28 (by decide) w_940 rfl rfl dX8_lays_55 ?_
              refine lv_iload hx hb dX8_lays_58 (lv_at hl 0 rfl) ?_
              refine g_iald hC V 2 rfl (vp_in_nI (by omega) (by omega)) (v := (fo k42)) (congrArg _ (nI_clamp (by omega))) dX8_lays_60 ?_
              refine g_iast hC V 3 rfl (vp_in_nI (by omega) (by omega)) (f' := (upd gb42 k42 (fo k42))) (by rw [nI_clamp (by omega)]) (ws' := [(o, .inr (8, [.int w0, .ref g1, .ref g2, .ref g3, .ref g4, .int (nI tp), .int w6, .int w7, .int w8, .int w9, .int w10, .int w11, .int w12, .int w13, .int w14, .ref g15, .int w16, .ref g17, .int w18, .int w19, .ref g20, .int w21, .ref g22, .ref g23, .ref g24, .int w25, .int w26, .int w27, .ref g28, .ref g29, .int sum, .ref g31, .ref g32, .ref g33])), (g1, .inl (T 0, 282, .inl fa)), (g28, .inl (T 0, 7, .inl fo)), (g29, .inl (T 0, 7, .inl (upd gb42 k42 (fo k42))))]) rfl dX8_lays_61 (fun H locs V => ?_)
              refine lv_iinc (v := (nI (k42 + 1))) (lv' := [(4, .int (nI (k42 + 1))), (0, .ref o), (1, .int (nI 3)), (2, .int (nI u)), (3, .int sum)]) hx hb dX8_lays_62 hl (k := 0) rfl (nI_1 _) (by decide) rfl (fun ls hl => ?_)
              refine lv_goto (tgt := 42) hx hb dX8_lays_65 (by decide) ?_
              exact ih_42 (k42 + 1) (upd gb42 k42 (fo k42)) (by omega) (by omega) _ _ _ V (lv_sub hl [0, 1, 2, 3, 4] rfl)
        exact L_12 _ 0 fp (by omega) (Nat.lt_succ_self _) _ _ _ V (lv_sub hl [0, 1, 2, 3, 4] rfl)
      · skip
        refine lv_iload_n hx hb dX8_lays_25 rfl (lv_at hl 3 rfl) ?_
        refine lv_aload_n hx hb dX8_lays_26 rfl (lv_at hl 0 rfl) ?_
        refine g_get hC V (ci := 8) uwX8 0 rfl rfl 30 (by decide) w_942 rfl rfl dX8_lays_27 ?_
        refine lv_icmp_lt (tgt := 34) hx hb dX8_lays_30 (by decide) (fun c_14 => ?_) (fun c_14 => ?_)
        · skip
          refine lv_aload_n hx hb dX8_lays_34 rfl (lv_at hl 0 rfl) ?_
          refine lv_iload_n hx hb dX8_lays_35 rfl (lv_at hl 3 rfl) ?_
          refine g_put hC V (ci := 8) uwX8 tyX8 tyX8_ok nmX8 0 rfl rfl 30 (by decide) w_942 rfl rfl rfl rfl (Nat.le_of_ble_eq_true rfl) (ws' := [(o, .inr (8, [.int w0, .ref g1, .ref g2, .ref g3, .ref g4, .int (nI tp), .int w6, .int w7, .int w8, .int w9, .int w10, .int w11, .int w12, .int w13, .int w14, .ref g15, .int w16, .ref g17, .int w18, .int w19, .ref g20, .int w21, .ref g22, .ref g23, .ref g24, .int w25, .int w26, .int w27, .ref g28, .ref g29, .int sum, .ref g31, .ref g32, .ref g33])), (g1, .inl (T 0, 282, .inl fa)), (g28, .inl (T 0, 7, .inl fo)), (g29, .inl (T 0, 7, .inl fp))]) rfl dX8_lays_36 (fun H locs V => ?_)
          refine lv_iconst (v := (nI 0)) hx hb dX8_lays_39 (by decide +kernel) ?_
          refine lv_istore (lv' := [(4, .int (nI 0)), (0, .ref o), (1, .int (nI 3)), (2, .int (nI u)), (3, .int sum)]) hx hb dX8_lays_40 hl (by decide) rfl (fun ls hl => ?_)
          have L_15 : ∀ (fu : Nat) (k42 : Nat) (gb42 : Nat → Int32), k42 ≤ 3 → 3 - k42 < fu → ∀ (H : Heap) (locs : List Loc) (ls : Array Slot), gW D T A s [(o, .inr (8, [.int w0, .ref g1, .ref g2, .ref g3, .ref g4, .int (nI tp), .int w6, .int w7, .int w8, .int w9, .int w10, .int w11, .int w12, .int w13, .int w14, .ref g15, .int w16, .ref g17, .int w18, .int w19, .ref g20, .int w21, .ref g22, .ref g23, .ref g24, .int w25, .int w26, .int w27, .ref g28, .ref g29, .int sum, .ref g31, .ref g32, .ref g33])), (g1, .inl (T 0, 282, .inl fa)), (g28, .inl (T 0, 7, .inl fo)), (g29, .inl (T 0, 7, .inl gb42))] H locs → lv_has ls 5 [(4, .int (nI k42)), (0, .ref o), (1, .int (nI 3)), (2, .int (nI u)), (3, .int sum)] → W p l e (rmD 6 0 0) s m args below meth c H locs 0 0 (MQ below (gQ D A (q_m_lays3 T n o u sum w0 g1 g2 g3 g4 tp w6 w7 w8 w9 w10 w11 w12 w13 w14 g15 w16 g17 w18 w19 g20 w21 g22 g23 g24 w25 w26 w27 g28 g29 w30 g31 g32 g33 fa fo fp)) args s 0 0 A) (F0 m 42 ls []) := by
            intro fu_42
            induction fu_42 with
            | zero => intro k42 gb42 hk42 hmu; exact absurd hmu (Nat.not_lt_zero _)
            | succ fu_42 ih_42 =>
              intro k42 gb42 hk42 hmu_42 H locs ls V hl
              refine lv_iload hx hb dX8_lays_42 (lv_at hl 0 rfl) ?_
              refine lv_iload_n hx hb dX8_lays_44 rfl (lv_at hl 2 rfl) ?_
              refine lv_icmp_ge (tgt := 68) hx hb dX8_lays_45 (by decide) (fun c_16 => ?_) (fun c_16 => ?_)
              · skip
                have c_16 := b_le (by omega) (by omega) c_16
                exact g_vret (Qr := (q_m_lays3 T n o u sum w0 g1 g2 g3 g4 tp w6 w7 w8 w9 w10 w11 w12 w13 w14 g15 w16 g17 w18 w19 g20 w21 g22 g23 g24 w25 w26 w27 g28 g29 w30 g31 g32 g33 fa fo fp)) hC V ⟨(Nat.le_of_ble_eq_true rfl), (Nat.le_of_ble_eq_true rfl)⟩ ⟨sum, fo, gb42, rfl, rfl, (fun _ _ => rfl)⟩ dX8_lays_68
              · skip
                have c_16 := b_nle (by omega) (by omega) c_16
                refine lv_aload_n hx hb dX8_lays_48 rfl (lv_at hl 1 rfl) ?_
                refine g_get hC V (ci := 8) uwX8 0 rfl rfl 29 (by decide) w_941 rfl rfl dX8_lays_49 ?_
                refine lv_iload hx hb dX8_lays_52 (lv_at hl 0 rfl) ?_
                refine lv_aload_n hx hb dX8_lays_54 rfl (lv_at hl 1 rfl) ?_
                refine g_get hC V (ci := 8) uwX8 0 rfl rfl 28 (by decide) w_940 rfl rfl dX8_lays_55 ?_
                refine lv_iload hx hb dX8_lays_58 (lv_at hl 0 rfl) ?_
                refine g_iald hC V 2 rfl (vp_in_nI (by omega) (by omega)) (v := (fo k42)) (congrArg _ (nI_clamp (by omega))) dX8_lays_60 ?_
                refine g_iast hC V 3 rfl (vp_in_nI (by omega) (by omega)) (f' := (upd gb42 k42 (fo k42))) (by rw [nI_clamp (by omega)]) (ws' := [(o, .inr (8, [.int w0, .ref g1, .ref g2, .ref g3, .ref g4, .int (nI tp), .int w6, .int w7, .int w8, .int w9, .int w10, .int w11, .int w12, .int w13, .int w14, .ref g15, .int w16, .ref g17, .int w18, .int w19, .ref g20, .int w21, .ref g22, .ref g23, .ref g24, .int w25, .int w26, .int w27, .ref g28, .ref g29, .int sum, .ref g31, .ref g32, .ref g33])), (g1, .inl (T 0, 282, .inl fa)), (g28, .inl (T 0, 7, .inl fo)), (g29, .inl (T 0, 7, .inl (upd gb42 k42 (fo k42))))]) rfl dX8_lays_61 (fun H locs V => ?_)
                refine lv_iinc (v := (nI (k42 + 1))) (lv' := [(4, .int (nI (k42 + 1))), (0, .ref o), (1, .int (nI 3)), (2, .int (nI u)), (3, .int sum)]) hx hb dX8_lays_62 hl (k := 0) rfl (nI_1 _) (by decide) rfl (fun ls hl => ?_)
                refine lv_goto (tgt := 42) hx hb dX8_lays_65 (by decide) ?_
                exact ih_42 (k42 + 1) (upd gb42 k42 (fo k42)) (by omega) (by omega) _ _ _ V (lv_sub hl [0, 1, 2, 3, 4] rfl)
          exact L_15 _ 0 fp (by omega) (Nat.lt_succ_self _) _ _ _ V (lv_sub hl [0, 1, 2, 3, 4] rfl)
        · skip
          exact g_vret (Qr := (q_m_lays3 T n o u sum w0 g1 g2 g3 g4 tp w6 w7 w8 w9 w10 w11 w12 w13 w14 g15 w16 g17 w18 w19 g20 w21 g22 g23 g24 w25 w26 w27 g28 g29 w30 g31 g32 g33 fa fo fp)) hC V ⟨(Nat.le_of_ble_eq_true rfl), (Nat.le_of_ble_eq_true rfl)⟩ ⟨w30, fo, fp, rfl, rfl, (fun _ _ => rfl)⟩ dX8_lays_33
    · have V : gW D T A s [(o, .inr (8, [.int w0, .ref g1, .ref g2, .ref g3, .ref g4, .int (nI tp), .int w6, .int w7, .int w8, .int w9, .int w10, .int w11, .int w12, .int w13, .int w14, .ref g15, .int w16, .ref g17, .int w18, .int w19, .ref g20, .int w21, .ref g22, .ref g23, .ref g24, .int w25, .int w26, .int w27, .ref g28, .ref g29, .int w30, .ref g31, .ref g32, .ref g33])), (g1, .inl (T 0, 282, .inl fa)), (g28, .inl (T 0, 7, .inl fo)), (g29, .inl (T 0, 7, .inl fp))] H locs := V _ [0, 0, 0] rfl rfl rfl (by decide +kernel) rfl
      show W p l e _ s m args below meth c H locs _ _ _ (F0 m 14 ls [.int (nI 0)])
      refine lv_if_eq (tgt := 33) hx hb dX8_lays_14 (by decide) (fun _ => ?_) (fun c => absurd (show (nI 0) = 0 by decide +kernel) c)
      exact g_vret (Qr := (q_m_lays3 T n o u sum w0 g1 g2 g3 g4 tp w6 w7 w8 w9 w10 w11 w12 w13 w14 g15 w16 g17 w18 w19 g20 w21 g22 g23 g24 w25 w26 w27 g28 g29 w30 g31 g32 g33 fa fo fp)) hC V ⟨(Nat.le_of_ble_eq_true rfl), (Nat.le_of_ble_eq_true rfl)⟩ ⟨w30, fo, fp, rfl, rfl, (fun _ _ => rfl)⟩ dX8_lays_33

def q_m_lays2 (T : Nat → ClassId) (n : Nat) (o : Nat) (u : Nat) (sum : Int32) (w0 : Int32) (g1 : Nat) (g2 : Nat) (g3 : Nat) (g4 : Nat) (tp : Nat) (w6 : Int32) (w7 : Int32) (w8 : Int32) (w9 : Int32) (w10 : Int32) (w11 : Int32) (w12 : Int32) (w13 : Int32) (w14 : Int32) (g15 : Nat) (w16 : Int32) (g17 : Nat) (w18 : Int32) (w19 : Int32) (g20 : Nat) (w21 : Int32) (g22 : Nat) (g23 : Nat) (g24 : Nat) (w25 : Int32) (w26 : Int32) (w27 : Int32) (g28 : Nat) (g29 : Nat) (w30 : Int32) (g31 : Nat) (g32 : Nat) (g33 : Nat) (fa : Nat → Int32) (fo : Nat → Int32) (fp : Nat → Int32) : Option Value → va_W → Prop := fun rr ww => (∃ (bs : Int32) (go : Nat → Int32) (gp : Nat → Int32), rr = none ∧ ww = [(o, .inr (8, [.int w0, .ref g1, .ref g2, .ref g3, .ref g4, .int (nI tp), .int w6, .int w7, .int w8, .int w9, .int w10, .int w11, .int w12, .int w13, .int w14, .ref g15, .int w16, .ref g17, .int w18, .int w19, .ref g20, .int w21, .ref g22, .ref g23, .ref g24, .int w25, .int w26, .int w27, .ref g28, .ref g29, .int bs, .ref g31, .ref g32, .ref g33])), (g1, .inl (T 0, 282, .inl fa)), (g28, .inl (T 0, 7, .inl go)), (g29, .inl (T 0, 7, .inl gp))] ∧ (∀ j, j < 2 → go j = fo j))
set_option maxHeartbeats 4000000 in
set_option maxRecDepth 100000 in
theorem m_lays2 (l : Launch) (D : va_G) (T : Nat → ClassId) (n : Nat) (o : Nat) (u : Nat) (sum : Int32) (w0 : Int32) (g1 : Nat) (g2 : Nat) (g3 : Nat) (g4 : Nat) (tp : Nat) (w6 : Int32) (w7 : Int32) (w8 : Int32) (w9 : Int32) (w10 : Int32) (w11 : Int32) (w12 : Int32) (w13 : Int32) (w14 : Int32) (g15 : Nat) (w16 : Int32) (g17 : Nat) (w18 : Int32) (w19 : Int32) (g20 : Nat) (w21 : Int32) (g22 : Nat) (g23 : Nat) (g24 : Nat) (w25 : Int32) (w26 : Int32) (w27 : Int32) (g28 : Nat) (g29 : Nat) (w30 : Int32) (g31 : Nat) (g32 : Nat) (g33 : Nat) (fa : Nat → Int32) (fo : Nat → Int32) (fp : Nat → Int32) (h_a : MI n fa) (h_li : LI 2 fo) (h_lt : ∀ j, j < 2 → toF fo j < n) (h_ub : UB 2 u fo) (h_1 : 1 ≤ n) (h_7 : n ≤ 7) (h_kn : 2 ≤ n) : Ct l yX8_lays cX8_lays 5 none 7 0 0 D T [.ref o, .int (nI 2), .int (nI u), .int sum] [(o, .inr (8, [.int w0, .ref g1, .ref g2, .ref g3, .ref g4, .int (nI tp), .int w6, .int w7, .int w8, .int w9, .int w10, .int w11, .int w12, .int w13, .int w14, .ref g15, .int w16, .ref g17, .int w18, .int w19, .ref g20, .int w21, .ref g22, .ref g23, .ref g24, .int w25, .int w26, .int w27, .ref g28, .ref g29, .int w30, .ref g31, .ref g32, .ref g33])), (g1, .inl (T 0, 282, .inl fa)), (g28, .inl (T 0, 7, .inl fo)), (g29, .inl (T 0, 7, .inl fp))] (q_m_lays2 T n o u sum w0 g1 g2 g3 g4 tp w6 w7 w8 w9 w10 w11 w12 w13 w14 g15 w16 g17 w18 w19 g20 w21 g22 g23 g24 w25 w26 w27 g28 g29 w30 g31 g32 g33 fa fo fp) := by
  refine Ct.of (cc := cX8_lays) (maxL := 5) (ret := none) (by decide) (Nat.le_of_ble_eq_true rfl) ?_
  intro p e s m args below meth c A ls hC hnm V hl
  obtain ⟨hx, hb, hr, hml, hown, hts, hlocks⟩ := id hC
  generalize hH : s.heap = H at V ⊢
  clear hH
  have hl : lv_has ls 5 [(0, .ref o), (1, .int (nI 2)), (2, .int (nI u)), (3, .int sum)] := hl
  generalize hlo : ([] : List Loc) = locs at V ⊢
  clear hlo
  have ms0 := ms_rf h_a
  have hn10 := h_a.1
  have hu := h_ub.1
  refine lv_iload_n hx hb dX8_lays_0 rfl (lv_at hl 1 rfl) ?_
  refine lv_aload_n hx hb dX8_lays_1 rfl (lv_at hl 0 rfl) ?_
  refine g_get hC V (ci := 8) uwX8 0 rfl rfl 1 (by decide) w_913 rfl rfl dX8_lays_2 ?_
  refine lv_iconst (v := (nI 0)) hx hb dX8_lays_5 (by decide +kernel) ?_
  refine g_iald hC V 1 rfl (vp_in_nI (by decide) (by decide)) (v := (nI n)) (by rw [nI_clamp (by decide)]; first | rfl | exact h_a.2.1) dX8_lays_6 ?_
  refine lv_icmp_ne (tgt := 69) hx hb dX8_lays_7 (by decide) (fun c_1 => ?_) (fun c_1 => ?_)
  · skip
    have c_1 := b_ne (by omega) (by omega) c_1
    refine lv_iconst (v := (nI 0)) hx hb dX8_lays_69 (by decide +kernel) ?_
    refine lv_istore (lv' := [(4, .int (nI 0)), (0, .ref o), (1, .int (nI 2)), (2, .int (nI u)), (3, .int sum)]) hx hb dX8_lays_70 hl (by decide) rfl (fun ls hl => ?_)
    have L_2 : ∀ (fu : Nat) (k72 : Nat) (bv : Int32) (f72 : Nat → Int32) (gb72 : Nat → Int32), k72 ≤ n → (∀ j, j < 2 → f72 j = fo j) → n - k72 < fu → ∀ (H : Heap) (locs : List Loc) (ls : Array Slot), gW D T A s [(o, .inr (8, [.int w0, .ref g1, .ref g2, .ref g3, .ref g4, .int (nI tp), .int w6, .int w7, .int w8, .int w9, .int w10, .int w11, .int w12, .int w13, .int w14, .ref g15, .int w16, .ref g17, .int w18, .int w19, .ref g20, .int w21, .ref g22, .ref g23, .ref g24, .int w25, .int w26, .int w27, .ref g28, .ref g29, .int bv, .ref g31, .ref g32, .ref g33])), (g1, .inl (T 0, 282, .inl fa)), (g28, .inl (T 0, 7, .inl f72)), (g29, .inl (T 0, 7, .inl gb72))] H locs → lv_has ls 5 [(4, .int (nI k72)), (0, .ref o), (1, .int (nI 2)), (2, .int (nI u)), (3, .int sum)] → W p l e (rmD 7 0 0) s m args below meth c H locs 0 0 (MQ below (gQ D A (q_m_lays2 T n o u sum w0 g1 g2 g3 g4 tp w6 w7 w8 w9 w10 w11 w12 w13 w14 g15 w16 g17 w18 w19 g20 w21 g22 g23 g24 w25 w26 w27 g28 g29 w30 g31 g32 g33 fa fo fp)) args s 0 0 A) (F0 m 72 ls []) := by
      intro fu_72
      induction fu_72 with
      | zero => intro k72 bv f72 gb72 hk72 hpre hmu; exact absurd hmu (Nat.not_lt_zero _)
      | succ fu_72 ih_72 =>
        intro k72 bv f72 gb72 hk72 hpre hmu_72 H locs ls V hl
        refine lv_iload hx hb dX8_lays_72 (lv_at hl 0 rfl) ?_
        refine lv_aload_n hx hb dX8_lays_74 rfl (lv_at hl 1 rfl) ?_
        refine g_get hC V (ci := 8) uwX8 0 rfl rfl 1 (by decide) w_913 rfl rfl dX8_lays_75 ?_
        refine lv_iconst (v := (nI 0)) hx hb dX8_lays_78 (by decide +kernel) ?_
        refine g_iald hC V 1 rfl (vp_in_nI (by decide) (by decide)) (v := (nI n)) (by rw [nI_clamp (by decide)]; first | rfl | exact h_a.2.1) dX8_lays_79 ?_
        refine lv_icmp_ge (tgt := 132) hx hb dX8_lays_80 (by decide) (fun c_3 => ?_) (fun c_3 => ?_)
        · skip
          have c_3 := b_le (by omega) (by omega) c_3
          exact g_vret (Qr := (q_m_lays2 T n o u sum w0 g1 g2 g3 g4 tp w6 w7 w8 w9 w10 w11 w12 w13 w14 g15 w16 g17 w18 w19 g20 w21 g22 g23 g24 w25 w26 w27 g28 g29 w30 g31 g32 g33 fa fo fp)) hC V ⟨(Nat.le_of_ble_eq_true rfl), (Nat.le_of_ble_eq_true rfl)⟩ ⟨bv, f72, gb72, rfl, rfl, hpre⟩ dX8_lays_132
        · skip
          have c_3 := b_nle (by omega) (by omega) c_3
          refine lv_iload_n hx hb dX8_lays_83 rfl (lv_at hl 3 rfl) ?_
          refine lv_i2l (v := (nI u).toInt64) hx hb dX8_lays_84 rfl ?_
          refine lv_iload hx hb dX8_lays_85 (lv_at hl 0 rfl) ?_
          refine g_callSU (nA := 2) hC V hl.1 (m_isIn7 l D T u k72 h_ub.1 (by omega)) w_1130 w_1131 w_9 w_1132 (by decide +kernel) rfl ⟨(Nat.le_of_ble_eq_true rfl), (Nat.le_of_ble_eq_true rfl)⟩ [] rfl rfl (Nat.le_of_ble_eq_true rfl) dX8_lays_87 ⟨(Nat.le_of_ble_eq_true rfl), (Nat.le_of_ble_eq_true rfl)⟩ rfl (fun r w1 H locs hQ V => ?_)
          rcases hQ with ⟨rfl, rfl, f_4⟩ | ⟨rfl, rfl, f_5⟩
          · have V : gW D T A s [(o, .inr (8, [.int w0, .ref g1, .ref g2, .ref g3, .ref g4, .int (nI tp), .int w6, .int w7, .int w8, .int w9, .int w10, .int w11, .int w12, .int w13, .int w14, .ref g15, .int w16, .ref g17, .int w18, .int w19, .ref g20, .int w21, .ref g22, .ref g23, .ref g24, .int w25, .int w26, .int w27, .ref g28, .ref g29, .int bv, .ref g31, .ref g32, .ref g33])), (g1, .inl (T 0, 282, .inl fa)), (g28, .inl (T 0, 7, .inl f72)), (g29, .inl (T 0, 7, .inl gb72))] H locs := V _ [] rfl rfl rfl (by decide +kernel) rfl
            show W p l e _ s m args below meth c H locs _ _ _ (F0 m 90 ls [.int (nI 1)])
            refine lv_if_eq (tgt := 96) hx hb dX8_lays_90 (by decide) (fun c => absurd (show (nI 1) = 0 from c) (by decide +kernel)) (fun _ => ?_)
            refine lv_goto (tgt := 126) hx hb dX8_lays_93 (by decide) ?_
            refine lv_iinc (v := (nI (k72 + 1))) (lv' := [(4, .int (nI (k72 + 1))), (0, .ref o), (1, .int (nI 2)), (2, .int (nI u)), (3, .int sum)]) hx hb dX8_lays_126 hl (k := 0) rfl (nI_1 _) (by decide) rfl (fun ls hl => ?_)
            refine lv_goto (tgt := 72) hx hb dX8_lays_129 (by decide) ?_
            exact ih_72 (k72 + 1) bv f72 gb72 (by omega) (by assumption) (by omega) _ _ _ V (lv_sub hl [0, 1, 2, 3, 4] rfl)
          · have V : gW D T A s [(o, .inr (8, [.int w0, .ref g1, .ref g2, .ref g3, .ref g4, .int (nI tp), .int w6, .int w7, .int w8, .int w9, .int w10, .int w11, .int w12, .int w13, .int w14, .ref g15, .int w16, .ref g17, .int w18, .int w19, .ref g20, .int w21, .ref g22, .ref g23, .ref g24, .int w25, .int w26, .int w27, .ref g28, .ref g29, .int bv, .ref g31, .ref g32, .ref g33])), (g1, .inl (T 0, 282, .inl fa)), (g28, .inl (T 0, 7, .inl f72)), (g29, .inl (T 0, 7, .inl gb72))] H locs := V _ [] rfl rfl rfl (by decide +kernel) rfl
            show W p l e _ s m args below meth c H locs _ _ _ (F0 m 90 ls [.int (nI 0)])
            refine lv_if_eq (tgt := 96) hx hb dX8_lays_90 (by decide) (fun _ => ?_) (fun c => absurd (show (nI 0) = 0 by decide +kernel) c)
            refine lv_aload_n hx hb dX8_lays_96 rfl (lv_at hl 1 rfl) ?_
            refine g_get hC V (ci := 8) uwX8 0 rfl rfl 28 (by decide) w_940 rfl rfl dX8_lays_97 ?_
            refine lv_iload_n hx hb dX8_lays_100 rfl (lv_at hl 2 rfl) ?_
            refine lv_iload hx hb dX8_lays_101 (lv_at hl 0 rfl) ?_
            refine g_iast hC V 2 rfl (vp_in_nI (by decide) (by decide)) (f' := (upd f72 2 (nI k72))) (by rw [nI_clamp (by decide)]) (ws' := [(o, .inr (8, [.int w0, .ref g1, .ref g2, .ref g3, .ref g4, .int (nI tp), .int w6, .int w7, .int w8, .int w9, .int w10, .int w11, .int w12, .int w13, .int w14, .ref g15, .int w16, .ref g17, .int w18, .int w19, .ref g20, .int w21, .ref g22, .ref g23, .ref g24, .int w25, .int w26, .int w27, .ref g28, .ref g29, .int bv, .ref g31, .ref g32, .ref g33])), (g1, .inl (T 0, 282, .inl fa)), (g28, .inl (T 0, 7, .inl (upd f72 2 (nI k72)))), (g29, .inl (T 0, 7, .inl gb72))]) rfl dX8_lays_103 (fun H locs V => ?_)
            refine lv_aload_n hx hb dX8_lays_104 rfl (lv_at hl 1 rfl) ?_
            refine lv_iload_n hx hb dX8_lays_105 rfl (lv_at hl 2 rfl) ?_
            refine lv_iconst (v := (nI 1)) hx hb dX8_lays_106 (by decide +kernel) ?_
            refine lv_iadd hx hb dX8_lays_107 ?_
            refine g_vi (y := (nI 3)) (by decide +kernel) ?_
            refine lv_iload_n hx hb dX8_lays_108 rfl (lv_at hl 3 rfl) ?_
            refine lv_iconst (v := (nI 1)) hx hb dX8_lays_109 (by decide +kernel) ?_
            refine lv_iload hx hb dX8_lays_110 (lv_at hl 0 rfl) ?_
            refine lv_ishl hx hb dX8_lays_112 ?_
            refine g_vi (y := (nI (2 ^ k72))) (shl_pow (by omega)) ?_
            refine lv_ior hx hb dX8_lays_113 ?_
            refine g_vi (y := nI (u ||| (2 ^ k72))) (or7 (by omega) (by omega)) ?_
            refine lv_iload_n hx hb dX8_lays_114 rfl (lv_at hl 4 rfl) ?_
            refine lv_aload_n hx hb dX8_lays_115 rfl (lv_at hl 1 rfl) ?_
            refine lv_iload_n hx hb dX8_lays_116 rfl (lv_at hl 2 rfl) ?_
            refine lv_iload hx hb dX8_lays_117 (lv_at hl 0 rfl) ?_
            refine g_callVU (nA := 2) hC V hl.1 (m_offBy l D T o 2 k72 w0 g1 g2 g3 g4 tp w6 w7 w8 w9 w10 w11 w12 w13 w14 g15 w16 g17 w18 w19 g20 w21 g22 g23 g24 w25 w26 w27 g28 g29 bv g31 g32 g33 fa (by first | assumption | omega) (by first | assumption | omega)) w_1328 w_1330 w_s77 w_9 w_1331 (by decide +kernel) rfl ⟨(Nat.le_of_ble_eq_true rfl), (Nat.le_of_ble_eq_true rfl)⟩ 0 (ci := 8) rfl rfl [0, 1] rfl rfl (Nat.le_of_ble_eq_true rfl) dX8_lays_119 ⟨(Nat.le_of_ble_eq_true rfl), (Nat.le_of_ble_eq_true rfl)⟩ rfl (fun r w1 H locs hQ V => ?_)
            obtain ⟨z_6, rfl, rfl⟩ := hQ
            have V : gW D T A s [(o, .inr (8, [.int w0, .ref g1, .ref g2, .ref g3, .ref g4, .int (nI tp), .int w6, .int w7, .int w8, .int w9, .int w10, .int w11, .int w12, .int w13, .int w14, .ref g15, .int w16, .ref g17, .int w18, .int w19, .ref g20, .int w21, .ref g22, .ref g23, .ref g24, .int w25, .int w26, .int w27, .ref g28, .ref g29, .int bv, .ref g31, .ref g32, .ref g33])), (g1, .inl (T 0, 282, .inl fa)), (g28, .inl (T 0, 7, .inl (upd f72 2 (nI k72)))), (g29, .inl (T 0, 7, .inl gb72))] H locs := V _ [0, 0] rfl rfl rfl (by decide +kernel) rfl
            show W p l e _ s m args below meth c H locs _ _ _ (F0 m 122 ls [.int z_6, .int sum, .int (nI (u ||| (2 ^ k72))), .int (nI 3), .ref o])
            refine lv_iadd hx hb dX8_lays_122 ?_
            refine g_callV (wr := []) (nA := 3) hC V hl.1 (m_lays3 l D T n o (u ||| (2 ^ k72)) (sum + z_6) w0 g1 g2 g3 g4 tp w6 w7 w8 w9 w10 w11 w12 w13 w14 g15 w16 g17 w18 w19 g20 w21 g22 g23 g24 w25 w26 w27 g28 g29 bv g31 g32 g33 fa (upd f72 2 (nI k72)) gb72 h_a (li_put (li_ext h_li hpre) (by omega) (ub_free (ub_ext h_ub hpre) (by assumption))) (lt_put h_lt hpre (by omega) h_7) (ub_put (ub_ext h_ub hpre) (by omega)) h_1 h_7 (by omega)) w_1320 w_1322 w_s75 w_9 w_1323 (by decide +kernel) rfl ⟨(Nat.le_of_ble_eq_true rfl), (Nat.le_of_ble_eq_true rfl)⟩ 0 (ci := 8) rfl rfl [0, 1, 2, 3] [] rfl rfl rfl rfl (by decide) (Nat.le_of_ble_eq_true rfl) dX8_lays_123 ⟨(Nat.le_of_ble_eq_true rfl), (Nat.le_of_ble_eq_true rfl)⟩ rfl (fun r w1 H locs hQ V => ?_)
            obtain ⟨bs_7, go_8, gp_9, rfl, rfl, f_10⟩ := hQ
            have V : gW D T A s [(o, .inr (8, [.int w0, .ref g1, .ref g2, .ref g3, .ref g4, .int (nI tp), .int w6, .int w7, .int w8, .int w9, .int w10, .int w11, .int w12, .int w13, .int w14, .ref g15, .int w16, .ref g17, .int w18, .int w19, .ref g20, .int w21, .ref g22, .ref g23, .ref g24, .int w25, .int w26, .int w27, .ref g28, .ref g29, .int bs_7, .ref g31, .ref g32, .ref g33])), (g1, .inl (T 0, 282, .inl fa)), (g28, .inl (T 0, 7, .inl go_8)), (g29, .inl (T 0, 7, .inl gp_9))] H locs := V
            show W p l e _ s m args below meth c H locs _ _ _ (F0 m 126 ls [])
            have hpre2 : ∀ j, j < 2 → go_8 j = fo j := fun j hj => (f_10 j (by omega)).trans ((up_other (by omega)).trans (hpre j hj))
            refine lv_iinc (v := (nI (k72 + 1))) (lv' := [(4, .int (nI (k72 + 1))), (0, .ref o), (1, .int (nI 2)), (2, .int (nI u)), (3, .int sum)]) hx hb dX8_lays_126 hl (k := 0) rfl (nI_1 _) (by decide) rfl (fun ls hl => ?_)
            refine lv_goto (tgt := 72) hx hb dX8_lays_129 (by decide) ?_
            exact ih_72 (k72 + 1) bs_7 go_8 gp_9 (by omega) (by assumption) (by omega) _ _ _ V (lv_sub hl [0, 1, 2, 3, 4] rfl)
    exact L_2 _ 0 w30 fo fp (by omega) (fun _ _ => rfl) (Nat.lt_succ_self _) _ _ _ V (lv_sub hl [0, 1, 2, 3, 4] rfl)
  · skip
    have c_1 := b_eq (by omega) (by omega) c_1
    have hkn : 2 = n := c_1
    refine lv_aload_n hx hb dX8_lays_10 rfl (lv_at hl 0 rfl) ?_
    refine g_callVU (nA := 0) hC V hl.1 (m_isOneRing l D T n o w0 g1 g2 g3 g4 tp w6 w7 w8 w9 w10 w11 w12 w13 w14 g15 w16 g17 w18 w19 g20 w21 g22 g23 g24 w25 w26 w27 g28 g29 w30 g31 g32 g33 fa fo h_a (lf_of h_li h_lt (by omega)) h_1 h_7) w_1324 w_1326 w_s76 w_9 w_1327 (by decide +kernel) rfl ⟨(Nat.le_of_ble_eq_true rfl), (Nat.le_of_ble_eq_true rfl)⟩ 0 (ci := 8) rfl rfl [0, 1, 2] rfl rfl (Nat.le_of_ble_eq_true rfl) dX8_lays_11 ⟨(Nat.le_of_ble_eq_true rfl), (Nat.le_of_ble_eq_true rfl)⟩ rfl (fun r w1 H locs hQ V => ?_)
    rcases hQ with ⟨rfl, rfl⟩ | ⟨rfl, rfl⟩
    · have V : gW D T A s [(o, .inr (8, [.int w0, .ref g1, .ref g2, .ref g3, .ref g4, .int (nI tp), .int w6, .int w7, .int w8, .int w9, .int w10, .int w11, .int w12, .int w13, .int w14, .ref g15, .int w16, .ref g17, .int w18, .int w19, .ref g20, .int w21, .ref g22, .ref g23, .ref g24, .int w25, .int w26, .int w27, .ref g28, .ref g29, .int w30, .ref g31, .ref g32, .ref g33])), (g1, .inl (T 0, 282, .inl fa)), (g28, .inl (T 0, 7, .inl fo)), (g29, .inl (T 0, 7, .inl fp))] H locs := V _ [0, 0, 0] rfl rfl rfl (by decide +kernel) rfl
      show W p l e _ s m args below meth c H locs _ _ _ (F0 m 14 ls [.int (nI 1)])
      refine lv_if_eq (tgt := 33) hx hb dX8_lays_14 (by decide) (fun c => absurd (show (nI 1) = 0 from c) (by decide +kernel)) (fun _ => ?_)
      refine lv_aload_n hx hb dX8_lays_17 rfl (lv_at hl 0 rfl) ?_
      refine g_get hC V (ci := 8) uwX8 0 rfl rfl 30 (by decide) w_942 rfl rfl dX8_lays_18 ?_
      refine lv_iconst (v := (-1)) hx hb dX8_lays_21 (by decide +kernel) ?_
      refine lv_icmp_eq (tgt := 34) hx hb dX8_lays_22 (by decide) (fun c_11 => ?_) (fun c_11 => ?_)
      · skip
        refine lv_aload_n hx hb dX8_lays_34 rfl (lv_at hl 0 rfl) ?_
        refine lv_iload_n hx hb dX8_lays_35 rfl (lv_at hl 3 rfl) ?_
        refine g_put hC V (ci := 8) uwX8 tyX8 tyX8_ok nmX8 0 rfl rfl 30 (by decide) w_942 rfl rfl rfl rfl (Nat.le_of_ble_eq_true rfl) (ws' := [(o, .inr (8, [.int w0, .ref g1, .ref g2, .ref g3, .ref g4, .int (nI tp), .int w6, .int w7, .int w8, .int w9, .int w10, .int w11, .int w12, .int w13, .int w14, .ref g15, .int w16, .ref g17, .int w18, .int w19, .ref g20, .int w21, .ref g22, .ref g23, .ref g24, .int w25, .int w26, .int w27, .ref g28, .ref g29, .int sum, .ref g31, .ref g32, .ref g33])), (g1, .inl (T 0, 282, .inl fa)), (g28, .inl (T 0, 7, .inl fo)), (g29, .inl (T 0, 7, .inl fp))]) rfl dX8_lays_36 (fun H locs V => ?_)
        refine lv_iconst (v := (nI 0)) hx hb dX8_lays_39 (by decide +kernel) ?_
        refine lv_istore (lv' := [(4, .int (nI 0)), (0, .ref o), (1, .int (nI 2)), (2, .int (nI u)), (3, .int sum)]) hx hb dX8_lays_40 hl (by decide) rfl (fun ls hl => ?_)
        have L_12 : ∀ (fu : Nat) (k42 : Nat) (gb42 : Nat → Int32), k42 ≤ 2 → 2 - k42 < fu → ∀ (H : Heap) (locs : List Loc) (ls : Array Slot), gW D T A s [(o, .inr (8, [.int w0, .ref g1, .ref g2, .ref g3, .ref g4, .int (nI tp), .int w6, .int w7, .int w8, .int w9, .int w10, .int w11, .int w12, .int w13, .int w14, .ref g15, .int w16, .ref g17, .int w18, .int w19, .ref g20, .int w21, .ref g22, .ref g23, .ref g24, .int w25, .int w26, .int w27, .ref g28, .ref g29, .int sum, .ref g31, .ref g32, .ref g33])), (g1, .inl (T 0, 282, .inl fa)), (g28, .inl (T 0, 7, .inl fo)), (g29, .inl (T 0, 7, .inl gb42))] H locs → lv_has ls 5 [(4, .int (nI k42)), (0, .ref o), (1, .int (nI 2)), (2, .int (nI u)), (3, .int sum)] → W p l e (rmD 7 0 0) s m args below meth c H locs 0 0 (MQ below (gQ D A (q_m_lays2 T n o u sum w0 g1 g2 g3 g4 tp w6 w7 w8 w9 w10 w11 w12 w13 w14 g15 w16 g17 w18 w19 g20 w21 g22 g23 g24 w25 w26 w27 g28 g29 w30 g31 g32 g33 fa fo fp)) args s 0 0 A) (F0 m 42 ls []) := by
          intro fu_42
          induction fu_42 with
          | zero => intro k42 gb42 hk42 hmu; exact absurd hmu (Nat.not_lt_zero _)
          | succ fu_42 ih_42 =>
            intro k42 gb42 hk42 hmu_42 H locs ls V hl
            refine lv_iload hx hb dX8_lays_42 (lv_at hl 0 rfl) ?_
            refine lv_iload_n hx hb dX8_lays_44 rfl (lv_at hl 2 rfl) ?_
            refine lv_icmp_ge (tgt := 68) hx hb dX8_lays_45 (by decide) (fun c_13 => ?_) (fun c_13 => ?_)
            · skip
              have c_13 := b_le (by omega) (by omega) c_13
              exact g_vret (Qr := (q_m_lays2 T n o u sum w0 g1 g2 g3 g4 tp w6 w7 w8 w9 w10 w11 w12 w13 w14 g15 w16 g17 w18 w19 g20 w21 g22 g23 g24 w25 w26 w27 g28 g29 w30 g31 g32 g33 fa fo fp)) hC V ⟨(Nat.le_of_ble_eq_true rfl), (Nat.le_of_ble_eq_true rfl)⟩ ⟨sum, fo, gb42, rfl, rfl, (fun _ _ => rfl)⟩ dX8_lays_68
            · skip
              have c_13 := b_nle (by omega) (by omega) c_13
              refine lv_aload_n hx hb dX8_lays_48 rfl (lv_at hl 1 rfl) ?_
              refine g_get hC V (ci := 8) uwX8 0 rfl rfl 29 (by decide) w_941 rfl rfl dX8_lays_49 ?_
              refine lv_iload hx hb dX8_lays_52 (lv_at hl 0 rfl) ?_
              refine lv_aload_n hx hb dX8_lays_54 rfl (lv_at hl 1 rfl) ?_
              refine g_get hC V (ci := 8) uwX8 0 rfl rfl 28 (by decide) w_940 rfl rfl dX8_lays_55 ?_
              refine lv_iload hx hb dX8_lays_58 (lv_at hl 0 rfl) ?_
              refine g_iald hC V 2 rfl (vp_in_nI (by omega) (by omega)) (v := (fo k42)) (congrArg _ (nI_clamp (by omega))) dX8_lays_60 ?_
              refine g_iast hC V 3 rfl (vp_in_nI (by omega) (by omega)) (f' := (upd gb42 k42 (fo k42))) (by rw [nI_clamp (by omega)]) (ws' := [(o, .inr (8, [.int w0, .ref g1, .ref g2, .ref g3, .ref g4, .int (nI tp), .int w6, .int w7, .int w8, .int w9, .int w10, .int w11, .int w12, .int w13, .int w14, .ref g15, .int w16, .ref g17, .int w18, .int w19, .ref g20, .int w21, .ref g22, .ref g23, .ref g24, .int w25, .int w26, .int w27, .ref g28, .ref g29, .int sum, .ref g31, .ref g32, .ref g33])), (g1, .inl (T 0, 282, .inl fa)), (g28, .inl (T 0, 7, .inl fo)), (g29, .inl (T 0, 7, .inl (upd gb42 k42 (fo k42))))]) rfl dX8_lays_61 (fun H locs V => ?_)
              refine lv_iinc (v := (nI (k42 + 1))) (lv' := [(4, .int (nI (k42 + 1))), (0, .ref o), (1, .int (nI 2)), (2, .int (nI u)), (3, .int sum)]) hx hb dX8_lays_62 hl (k := 0) rfl (nI_1 _) (by decide) rfl (fun ls hl => ?_)
              refine lv_goto (tgt := 42) hx hb dX8_lays_65 (by decide) ?_
              exact ih_42 (k42 + 1) (upd gb42 k42 (fo k42)) (by omega) (by omega) _ _ _ V (lv_sub hl [0, 1, 2, 3, 4] rfl)
        exact L_12 _ 0 fp (by omega) (Nat.lt_succ_self _) _ _ _ V (lv_sub hl [0, 1, 2, 3, 4] rfl)
      · skip
        refine lv_iload_n hx hb dX8_lays_25 rfl (lv_at hl 3 rfl) ?_
        refine lv_aload_n hx hb dX8_lays_26 rfl (lv_at hl 0 rfl) ?_
        refine g_get hC V (ci := 8) uwX8 0 rfl rfl 30 (by decide) w_942 rfl rfl dX8_lays_27 ?_
        refine lv_icmp_lt (tgt := 34) hx hb dX8_lays_30 (by decide) (fun c_14 => ?_) (fun c_14 => ?_)
        · skip
          refine lv_aload_n hx hb dX8_lays_34 rfl (lv_at hl 0 rfl) ?_
          refine lv_iload_n hx hb dX8_lays_35 rfl (lv_at hl 3 rfl) ?_
          refine g_put hC V (ci := 8) uwX8 tyX8 tyX8_ok nmX8 0 rfl rfl 30 (by decide) w_942 rfl rfl rfl rfl (Nat.le_of_ble_eq_true rfl) (ws' := [(o, .inr (8, [.int w0, .ref g1, .ref g2, .ref g3, .ref g4, .int (nI tp), .int w6, .int w7, .int w8, .int w9, .int w10, .int w11, .int w12, .int w13, .int w14, .ref g15, .int w16, .ref g17, .int w18, .int w19, .ref g20, .int w21, .ref g22, .ref g23, .ref g24, .int w25, .int w26, .int w27, .ref g28, .ref g29, .int sum, .ref g31, .ref g32, .ref g33])), (g1, .inl (T 0, 282, .inl fa)), (g28, .inl (T 0, 7, .inl fo)), (g29, .inl (T 0, 7, .inl fp))]) rfl dX8_lays_36 (fun H locs V => ?_)
          refine lv_iconst (v := (nI 0)) hx hb dX8_lays_39 (by decide +kernel) ?_
          refine lv_istore (lv' := [(4, .int (nI 0)), (0, .ref o), (1, .int (nI 2)), (2, .int (nI u)), (3, .int sum)]) hx hb dX8_lays_40 hl (by decide) rfl (fun ls hl => ?_)
          have L_15 : ∀ (fu : Nat) (k42 : Nat) (gb42 : Nat → Int32), k42 ≤ 2 → 2 - k42 < fu → ∀ (H : Heap) (locs : List Loc) (ls : Array Slot), gW D T A s [(o, .inr (8, [.int w0, .ref g1, .ref g2, .ref g3, .ref g4, .int (nI tp), .int w6, .int w7, .int w8, .int w9, .int w10, .int w11, .int w12, .int w13, .int w14, .ref g15, .int w16, .ref g17, .int w18, .int w19, .ref g20, .int w21, .ref g22, .ref g23, .ref g24, .int w25, .int w26, .int w27, .ref g28, .ref g29, .int sum, .ref g31, .ref g32, .ref g33])), (g1, .inl (T 0, 282, .inl fa)), (g28, .inl (T 0, 7, .inl fo)), (g29, .inl (T 0, 7, .inl gb42))] H locs → lv_has ls 5 [(4, .int (nI k42)), (0, .ref o), (1, .int (nI 2)), (2, .int (nI u)), (3, .int sum)] → W p l e (rmD 7 0 0) s m args below meth c H locs 0 0 (MQ below (gQ D A (q_m_lays2 T n o u sum w0 g1 g2 g3 g4 tp w6 w7 w8 w9 w10 w11 w12 w13 w14 g15 w16 g17 w18 w19 g20 w21 g22 g23 g24 w25 w26 w27 g28 g29 w30 g31 g32 g33 fa fo fp)) args s 0 0 A) (F0 m 42 ls []) := by
            intro fu_42
            induction fu_42 with
            | zero => intro k42 gb42 hk42 hmu; exact absurd hmu (Nat.not_lt_zero _)
            | succ fu_42 ih_42 =>
              intro k42 gb42 hk42 hmu_42 H locs ls V hl
              refine lv_iload hx hb dX8_lays_42 (lv_at hl 0 rfl) ?_
              refine lv_iload_n hx hb dX8_lays_44 rfl (lv_at hl 2 rfl) ?_
              refine lv_icmp_ge (tgt := 68) hx hb dX8_lays_45 (by decide) (fun c_16 => ?_) (fun c_16 => ?_)
              · skip
                have c_16 := b_le (by omega) (by omega) c_16
                exact g_vret (Qr := (q_m_lays2 T n o u sum w0 g1 g2 g3 g4 tp w6 w7 w8 w9 w10 w11 w12 w13 w14 g15 w16 g17 w18 w19 g20 w21 g22 g23 g24 w25 w26 w27 g28 g29 w30 g31 g32 g33 fa fo fp)) hC V ⟨(Nat.le_of_ble_eq_true rfl), (Nat.le_of_ble_eq_true rfl)⟩ ⟨sum, fo, gb42, rfl, rfl, (fun _ _ => rfl)⟩ dX8_lays_68
              · skip
                have c_16 := b_nle (by omega) (by omega) c_16
                refine lv_aload_n hx hb dX8_lays_48 rfl (lv_at hl 1 rfl) ?_
                refine g_get hC V (ci := 8) uwX8 0 rfl rfl 29 (by decide) w_941 rfl rfl dX8_lays_49 ?_
                refine lv_iload hx hb dX8_lays_52 (lv_at hl 0 rfl) ?_
                refine lv_aload_n hx hb dX8_lays_54 rfl (lv_at hl 1 rfl) ?_
                refine g_get hC V (ci := 8) uwX8 0 rfl rfl 28 (by decide) w_940 rfl rfl dX8_lays_55 ?_
                refine lv_iload hx hb dX8_lays_58 (lv_at hl 0 rfl) ?_
                refine g_iald hC V 2 rfl (vp_in_nI (by omega) (by omega)) (v := (fo k42)) (congrArg _ (nI_clamp (by omega))) dX8_lays_60 ?_
                refine g_iast hC V 3 rfl (vp_in_nI (by omega) (by omega)) (f' := (upd gb42 k42 (fo k42))) (by rw [nI_clamp (by omega)]) (ws' := [(o, .inr (8, [.int w0, .ref g1, .ref g2, .ref g3, .ref g4, .int (nI tp), .int w6, .int w7, .int w8, .int w9, .int w10, .int w11, .int w12, .int w13, .int w14, .ref g15, .int w16, .ref g17, .int w18, .int w19, .ref g20, .int w21, .ref g22, .ref g23, .ref g24, .int w25, .int w26, .int w27, .ref g28, .ref g29, .int sum, .ref g31, .ref g32, .ref g33])), (g1, .inl (T 0, 282, .inl fa)), (g28, .inl (T 0, 7, .inl fo)), (g29, .inl (T 0, 7, .inl (upd gb42 k42 (fo k42))))]) rfl dX8_lays_61 (fun H locs V => ?_)
                refine lv_iinc (v := (nI (k42 + 1))) (lv' := [(4, .int (nI (k42 + 1))), (0, .ref o), (1, .int (nI 2)), (2, .int (nI u)), (3, .int sum)]) hx hb dX8_lays_62 hl (k := 0) rfl (nI_1 _) (by decide) rfl (fun ls hl => ?_)
                refine lv_goto (tgt := 42) hx hb dX8_lays_65 (by decide) ?_
                exact ih_42 (k42 + 1) (upd gb42 k42 (fo k42)) (by omega) (by omega) _ _ _ V (lv_sub hl [0, 1, 2, 3, 4] rfl)
          exact L_15 _ 0 fp (by omega) (Nat.lt_succ_self _) _ _ _ V (lv_sub hl [0, 1, 2, 3, 4] rfl)
        · skip
          exact g_vret (Qr := (q_m_lays2 T n o u sum w0 g1 g2 g3 g4 tp w6 w7 w8 w9 w10 w11 w12 w13 w14 g15 w16 g17 w18 w19 g20 w21 g22 g23 g24 w25 w26 w27 g28 g29 w30 g31 g32 g33 fa fo fp)) hC V ⟨(Nat.le_of_ble_eq_true rfl), (Nat.le_of_ble_eq_true rfl)⟩ ⟨w30, fo, fp, rfl, rfl, (fun _ _ => rfl)⟩ dX8_lays_33
    · have V : gW D T A s [(o, .inr (8, [.int w0, .ref g1, .ref g2, .ref g3, .ref g4, .int (nI tp), .int w6, .int w7, .int w8, .int w9, .int w10, .int w11, .int w12, .int w13, .int w14, .ref g15, .int w16, .ref g17, .int w18, .int w19, .ref g20, .int w21, .ref g22, .ref g23, .ref g24, .int w25, .int w26, .int w27, .ref g28, .ref g29, .int w30, .ref g31, .ref g32, .ref g33])), (g1, .inl (T 0, 282, .inl fa)), (g28, .inl (T 0, 7, .inl fo)), (g29, .inl (T 0, 7, .inl fp))] H locs := V _ [0, 0, 0] rfl rfl rfl (by decide +kernel) rfl
      show W p l e _ s m args below meth c H locs _ _ _ (F0 m 14 ls [.int (nI 0)])
      refine lv_if_eq (tgt := 33) hx hb dX8_lays_14 (by decide) (fun _ => ?_) (fun c => absurd (show (nI 0) = 0 by decide +kernel) c)
      exact g_vret (Qr := (q_m_lays2 T n o u sum w0 g1 g2 g3 g4 tp w6 w7 w8 w9 w10 w11 w12 w13 w14 g15 w16 g17 w18 w19 g20 w21 g22 g23 g24 w25 w26 w27 g28 g29 w30 g31 g32 g33 fa fo fp)) hC V ⟨(Nat.le_of_ble_eq_true rfl), (Nat.le_of_ble_eq_true rfl)⟩ ⟨w30, fo, fp, rfl, rfl, (fun _ _ => rfl)⟩ dX8_lays_33

def q_m_lays1 (T : Nat → ClassId) (n : Nat) (o : Nat) (u : Nat) (sum : Int32) (w0 : Int32) (g1 : Nat) (g2 : Nat) (g3 : Nat) (g4 : Nat) (tp : Nat) (w6 : Int32) (w7 : Int32) (w8 : Int32) (w9 : Int32) (w10 : Int32) (w11 : Int32) (w12 : Int32) (w13 : Int32) (w14 : Int32) (g15 : Nat) (w16 : Int32) (g17 : Nat) (w18 : Int32) (w19 : Int32) (g20 : Nat) (w21 : Int32) (g22 : Nat) (g23 : Nat) (g24 : Nat) (w25 : Int32) (w26 : Int32) (w27 : Int32) (g28 : Nat) (g29 : Nat) (w30 : Int32) (g31 : Nat) (g32 : Nat) (g33 : Nat) (fa : Nat → Int32) (fo : Nat → Int32) (fp : Nat → Int32) : Option Value → va_W → Prop := fun rr ww => (∃ (bs : Int32) (go : Nat → Int32) (gp : Nat → Int32), rr = none ∧ ww = [(o, .inr (8, [.int w0, .ref g1, .ref g2, .ref g3, .ref g4, .int (nI tp), .int w6, .int w7, .int w8, .int w9, .int w10, .int w11, .int w12, .int w13, .int w14, .ref g15, .int w16, .ref g17, .int w18, .int w19, .ref g20, .int w21, .ref g22, .ref g23, .ref g24, .int w25, .int w26, .int w27, .ref g28, .ref g29, .int bs, .ref g31, .ref g32, .ref g33])), (g1, .inl (T 0, 282, .inl fa)), (g28, .inl (T 0, 7, .inl go)), (g29, .inl (T 0, 7, .inl gp))] ∧ (∀ j, j < 1 → go j = fo j))
set_option maxHeartbeats 4000000 in
set_option maxRecDepth 100000 in
theorem m_lays1 (l : Launch) (D : va_G) (T : Nat → ClassId) (n : Nat) (o : Nat) (u : Nat) (sum : Int32) (w0 : Int32) (g1 : Nat) (g2 : Nat) (g3 : Nat) (g4 : Nat) (tp : Nat) (w6 : Int32) (w7 : Int32) (w8 : Int32) (w9 : Int32) (w10 : Int32) (w11 : Int32) (w12 : Int32) (w13 : Int32) (w14 : Int32) (g15 : Nat) (w16 : Int32) (g17 : Nat) (w18 : Int32) (w19 : Int32) (g20 : Nat) (w21 : Int32) (g22 : Nat) (g23 : Nat) (g24 : Nat) (w25 : Int32) (w26 : Int32) (w27 : Int32) (g28 : Nat) (g29 : Nat) (w30 : Int32) (g31 : Nat) (g32 : Nat) (g33 : Nat) (fa : Nat → Int32) (fo : Nat → Int32) (fp : Nat → Int32) (h_a : MI n fa) (h_li : LI 1 fo) (h_lt : ∀ j, j < 1 → toF fo j < n) (h_ub : UB 1 u fo) (h_1 : 1 ≤ n) (h_7 : n ≤ 7) (h_kn : 1 ≤ n) : Ct l yX8_lays cX8_lays 5 none 8 0 0 D T [.ref o, .int (nI 1), .int (nI u), .int sum] [(o, .inr (8, [.int w0, .ref g1, .ref g2, .ref g3, .ref g4, .int (nI tp), .int w6, .int w7, .int w8, .int w9, .int w10, .int w11, .int w12, .int w13, .int w14, .ref g15, .int w16, .ref g17, .int w18, .int w19, .ref g20, .int w21, .ref g22, .ref g23, .ref g24, .int w25, .int w26, .int w27, .ref g28, .ref g29, .int w30, .ref g31, .ref g32, .ref g33])), (g1, .inl (T 0, 282, .inl fa)), (g28, .inl (T 0, 7, .inl fo)), (g29, .inl (T 0, 7, .inl fp))] (q_m_lays1 T n o u sum w0 g1 g2 g3 g4 tp w6 w7 w8 w9 w10 w11 w12 w13 w14 g15 w16 g17 w18 w19 g20 w21 g22 g23 g24 w25 w26 w27 g28 g29 w30 g31 g32 g33 fa fo fp) := by
  refine Ct.of (cc := cX8_lays) (maxL := 5) (ret := none) (by decide) (Nat.le_of_ble_eq_true rfl) ?_
  intro p e s m args below meth c A ls hC hnm V hl
  obtain ⟨hx, hb, hr, hml, hown, hts, hlocks⟩ := id hC
  generalize hH : s.heap = H at V ⊢
  clear hH
  have hl : lv_has ls 5 [(0, .ref o), (1, .int (nI 1)), (2, .int (nI u)), (3, .int sum)] := hl
  generalize hlo : ([] : List Loc) = locs at V ⊢
  clear hlo
  have ms0 := ms_rf h_a
  have hn10 := h_a.1
  have hu := h_ub.1
  refine lv_iload_n hx hb dX8_lays_0 rfl (lv_at hl 1 rfl) ?_
  refine lv_aload_n hx hb dX8_lays_1 rfl (lv_at hl 0 rfl) ?_
  refine g_get hC V (ci := 8) uwX8 0 rfl rfl 1 (by decide) w_913 rfl rfl dX8_lays_2 ?_
  refine lv_iconst (v := (nI 0)) hx hb dX8_lays_5 (by decide +kernel) ?_
  refine g_iald hC V 1 rfl (vp_in_nI (by decide) (by decide)) (v := (nI n)) (by rw [nI_clamp (by decide)]; first | rfl | exact h_a.2.1) dX8_lays_6 ?_
  refine lv_icmp_ne (tgt := 69) hx hb dX8_lays_7 (by decide) (fun c_1 => ?_) (fun c_1 => ?_)
  · skip
    have c_1 := b_ne (by omega) (by omega) c_1
    refine lv_iconst (v := (nI 0)) hx hb dX8_lays_69 (by decide +kernel) ?_
    refine lv_istore (lv' := [(4, .int (nI 0)), (0, .ref o), (1, .int (nI 1)), (2, .int (nI u)), (3, .int sum)]) hx hb dX8_lays_70 hl (by decide) rfl (fun ls hl => ?_)
    have L_2 : ∀ (fu : Nat) (k72 : Nat) (bv : Int32) (f72 : Nat → Int32) (gb72 : Nat → Int32), k72 ≤ n → (∀ j, j < 1 → f72 j = fo j) → n - k72 < fu → ∀ (H : Heap) (locs : List Loc) (ls : Array Slot), gW D T A s [(o, .inr (8, [.int w0, .ref g1, .ref g2, .ref g3, .ref g4, .int (nI tp), .int w6, .int w7, .int w8, .int w9, .int w10, .int w11, .int w12, .int w13, .int w14, .ref g15, .int w16, .ref g17, .int w18, .int w19, .ref g20, .int w21, .ref g22, .ref g23, .ref g24, .int w25, .int w26, .int w27, .ref g28, .ref g29, .int bv, .ref g31, .ref g32, .ref g33])), (g1, .inl (T 0, 282, .inl fa)), (g28, .inl (T 0, 7, .inl f72)), (g29, .inl (T 0, 7, .inl gb72))] H locs → lv_has ls 5 [(4, .int (nI k72)), (0, .ref o), (1, .int (nI 1)), (2, .int (nI u)), (3, .int sum)] → W p l e (rmD 8 0 0) s m args below meth c H locs 0 0 (MQ below (gQ D A (q_m_lays1 T n o u sum w0 g1 g2 g3 g4 tp w6 w7 w8 w9 w10 w11 w12 w13 w14 g15 w16 g17 w18 w19 g20 w21 g22 g23 g24 w25 w26 w27 g28 g29 w30 g31 g32 g33 fa fo fp)) args s 0 0 A) (F0 m 72 ls []) := by
      intro fu_72
      induction fu_72 with
      | zero => intro k72 bv f72 gb72 hk72 hpre hmu; exact absurd hmu (Nat.not_lt_zero _)
      | succ fu_72 ih_72 =>
        intro k72 bv f72 gb72 hk72 hpre hmu_72 H locs ls V hl
        refine lv_iload hx hb dX8_lays_72 (lv_at hl 0 rfl) ?_
        refine lv_aload_n hx hb dX8_lays_74 rfl (lv_at hl 1 rfl) ?_
        refine g_get hC V (ci := 8) uwX8 0 rfl rfl 1 (by decide) w_913 rfl rfl dX8_lays_75 ?_
        refine lv_iconst (v := (nI 0)) hx hb dX8_lays_78 (by decide +kernel) ?_
        refine g_iald hC V 1 rfl (vp_in_nI (by decide) (by decide)) (v := (nI n)) (by rw [nI_clamp (by decide)]; first | rfl | exact h_a.2.1) dX8_lays_79 ?_
        refine lv_icmp_ge (tgt := 132) hx hb dX8_lays_80 (by decide) (fun c_3 => ?_) (fun c_3 => ?_)
        · skip
          have c_3 := b_le (by omega) (by omega) c_3
          exact g_vret (Qr := (q_m_lays1 T n o u sum w0 g1 g2 g3 g4 tp w6 w7 w8 w9 w10 w11 w12 w13 w14 g15 w16 g17 w18 w19 g20 w21 g22 g23 g24 w25 w26 w27 g28 g29 w30 g31 g32 g33 fa fo fp)) hC V ⟨(Nat.le_of_ble_eq_true rfl), (Nat.le_of_ble_eq_true rfl)⟩ ⟨bv, f72, gb72, rfl, rfl, hpre⟩ dX8_lays_132
        · skip
          have c_3 := b_nle (by omega) (by omega) c_3
          refine lv_iload_n hx hb dX8_lays_83 rfl (lv_at hl 3 rfl) ?_
          refine lv_i2l (v := (nI u).toInt64) hx hb dX8_lays_84 rfl ?_
          refine lv_iload hx hb dX8_lays_85 (lv_at hl 0 rfl) ?_
          refine g_callSU (nA := 2) hC V hl.1 (m_isIn7 l D T u k72 h_ub.1 (by omega)) w_1130 w_1131 w_9 w_1132 (by decide +kernel) rfl ⟨(Nat.le_of_ble_eq_true rfl), (Nat.le_of_ble_eq_true rfl)⟩ [] rfl rfl (Nat.le_of_ble_eq_true rfl) dX8_lays_87 ⟨(Nat.le_of_ble_eq_true rfl), (Nat.le_of_ble_eq_true rfl)⟩ rfl (fun r w1 H locs hQ V => ?_)
          rcases hQ with ⟨rfl, rfl, f_4⟩ | ⟨rfl, rfl, f_5⟩
          · have V : gW D T A s [(o, .inr (8, [.int w0, .ref g1, .ref g2, .ref g3, .ref g4, .int (nI tp), .int w6, .int w7, .int w8, .int w9, .int w10, .int w11, .int w12, .int w13, .int w14, .ref g15, .int w16, .ref g17, .int w18, .int w19, .ref g20, .int w21, .ref g22, .ref g23, .ref g24, .int w25, .int w26, .int w27, .ref g28, .ref g29, .int bv, .ref g31, .ref g32, .ref g33])), (g1, .inl (T 0, 282, .inl fa)), (g28, .inl (T 0, 7, .inl f72)), (g29, .inl (T 0, 7, .inl gb72))] H locs := V _ [] rfl rfl rfl (by decide +kernel) rfl
            show W p l e _ s m args below meth c H locs _ _ _ (F0 m 90 ls [.int (nI 1)])
            refine lv_if_eq (tgt := 96) hx hb dX8_lays_90 (by decide) (fun c => absurd (show (nI 1) = 0 from c) (by decide +kernel)) (fun _ => ?_)
            refine lv_goto (tgt := 126) hx hb dX8_lays_93 (by decide) ?_
            refine lv_iinc (v := (nI (k72 + 1))) (lv' := [(4, .int (nI (k72 + 1))), (0, .ref o), (1, .int (nI 1)), (2, .int (nI u)), (3, .int sum)]) hx hb dX8_lays_126 hl (k := 0) rfl (nI_1 _) (by decide) rfl (fun ls hl => ?_)
            refine lv_goto (tgt := 72) hx hb dX8_lays_129 (by decide) ?_
            exact ih_72 (k72 + 1) bv f72 gb72 (by omega) (by assumption) (by omega) _ _ _ V (lv_sub hl [0, 1, 2, 3, 4] rfl)
          · have V : gW D T A s [(o, .inr (8, [.int w0, .ref g1, .ref g2, .ref g3, .ref g4, .int (nI tp), .int w6, .int w7, .int w8, .int w9, .int w10, .int w11, .int w12, .int w13, .int w14, .ref g15, .int w16, .ref g17, .int w18, .int w19, .ref g20, .int w21, .ref g22, .ref g23, .ref g24, .int w25, .int w26, .int w27, .ref g28, .ref g29, .int bv, .ref g31, .ref g32, .ref g33])), (g1, .inl (T 0, 282, .inl fa)), (g28, .inl (T 0, 7, .inl f72)), (g29, .inl (T 0, 7, .inl gb72))] H locs := V _ [] rfl rfl rfl (by decide +kernel) rfl
            show W p l e _ s m args below meth c H locs _ _ _ (F0 m 90 ls [.int (nI 0)])
            refine lv_if_eq (tgt := 96) hx hb dX8_lays_90 (by decide) (fun _ => ?_) (fun c => absurd (show (nI 0) = 0 by decide +kernel) c)
            refine lv_aload_n hx hb dX8_lays_96 rfl (lv_at hl 1 rfl) ?_
            refine g_get hC V (ci := 8) uwX8 0 rfl rfl 28 (by decide) w_940 rfl rfl dX8_lays_97 ?_
            refine lv_iload_n hx hb dX8_lays_100 rfl (lv_at hl 2 rfl) ?_
            refine lv_iload hx hb dX8_lays_101 (lv_at hl 0 rfl) ?_
            refine g_iast hC V 2 rfl (vp_in_nI (by decide) (by decide)) (f' := (upd f72 1 (nI k72))) (by rw [nI_clamp (by decide)]) (ws' := [(o, .inr (8, [.int w0, .ref g1, .ref g2, .ref g3, .ref g4, .int (nI tp), .int w6, .int w7, .int w8, .int w9, .int w10, .int w11, .int w12, .int w13, .int w14, .ref g15, .int w16, .ref g17, .int w18, .int w19, .ref g20, .int w21, .ref g22, .ref g23, .ref g24, .int w25, .int w26, .int w27, .ref g28, .ref g29, .int bv, .ref g31, .ref g32, .ref g33])), (g1, .inl (T 0, 282, .inl fa)), (g28, .inl (T 0, 7, .inl (upd f72 1 (nI k72)))), (g29, .inl (T 0, 7, .inl gb72))]) rfl dX8_lays_103 (fun H locs V => ?_)
            refine lv_aload_n hx hb dX8_lays_104 rfl (lv_at hl 1 rfl) ?_
            refine lv_iload_n hx hb dX8_lays_105 rfl (lv_at hl 2 rfl) ?_
            refine lv_iconst (v := (nI 1)) hx hb dX8_lays_106 (by decide +kernel) ?_
            refine lv_iadd hx hb dX8_lays_107 ?_
            refine g_vi (y := (nI 2)) (by decide +kernel) ?_
            refine lv_iload_n hx hb dX8_lays_108 rfl (lv_at hl 3 rfl) ?_
            refine lv_iconst (v := (nI 1)) hx hb dX8_lays_109 (by decide +kernel) ?_
            refine lv_iload hx hb dX8_lays_110 (lv_at hl 0 rfl) ?_
            refine lv_ishl hx hb dX8_lays_112 ?_
            refine g_vi (y := (nI (2 ^ k72))) (shl_pow (by omega)) ?_
            refine lv_ior hx hb dX8_lays_113 ?_
            refine g_vi (y := nI (u ||| (2 ^ k72))) (or7 (by omega) (by omega)) ?_
            refine lv_iload_n hx hb dX8_lays_114 rfl (lv_at hl 4 rfl) ?_
            refine lv_aload_n hx hb dX8_lays_115 rfl (lv_at hl 1 rfl) ?_
            refine lv_iload_n hx hb dX8_lays_116 rfl (lv_at hl 2 rfl) ?_
            refine lv_iload hx hb dX8_lays_117 (lv_at hl 0 rfl) ?_
            refine g_callVU (nA := 2) hC V hl.1 (m_offBy l D T o 1 k72 w0 g1 g2 g3 g4 tp w6 w7 w8 w9 w10 w11 w12 w13 w14 g15 w16 g17 w18 w19 g20 w21 g22 g23 g24 w25 w26 w27 g28 g29 bv g31 g32 g33 fa (by first | assumption | omega) (by first | assumption | omega)) w_1328 w_1330 w_s77 w_9 w_1331 (by decide +kernel) rfl ⟨(Nat.le_of_ble_eq_true rfl), (Nat.le_of_ble_eq_true rfl)⟩ 0 (ci := 8) rfl rfl [0, 1] rfl rfl (Nat.le_of_ble_eq_true rfl) dX8_lays_119 ⟨(Nat.le_of_ble_eq_true rfl), (Nat.le_of_ble_eq_true rfl)⟩ rfl (fun r w1 H locs hQ V => ?_)
            obtain ⟨z_6, rfl, rfl⟩ := hQ
            have V : gW D T A s [(o, .inr (8, [.int w0, .ref g1, .ref g2, .ref g3, .ref g4, .int (nI tp), .int w6, .int w7, .int w8, .int w9, .int w10, .int w11, .int w12, .int w13, .int w14, .ref g15, .int w16, .ref g17, .int w18, .int w19, .ref g20, .int w21, .ref g22, .ref g23, .ref g24, .int w25, .int w26, .int w27, .ref g28, .ref g29, .int bv, .ref g31, .ref g32, .ref g33])), (g1, .inl (T 0, 282, .inl fa)), (g28, .inl (T 0, 7, .inl (upd f72 1 (nI k72)))), (g29, .inl (T 0, 7, .inl gb72))] H locs := V _ [0, 0] rfl rfl rfl (by decide +kernel) rfl
            show W p l e _ s m args below meth c H locs _ _ _ (F0 m 122 ls [.int z_6, .int sum, .int (nI (u ||| (2 ^ k72))), .int (nI 2), .ref o])
            refine lv_iadd hx hb dX8_lays_122 ?_
            refine g_callV (wr := []) (nA := 3) hC V hl.1 (m_lays2 l D T n o (u ||| (2 ^ k72)) (sum + z_6) w0 g1 g2 g3 g4 tp w6 w7 w8 w9 w10 w11 w12 w13 w14 g15 w16 g17 w18 w19 g20 w21 g22 g23 g24 w25 w26 w27 g28 g29 bv g31 g32 g33 fa (upd f72 1 (nI k72)) gb72 h_a (li_put (li_ext h_li hpre) (by omega) (ub_free (ub_ext h_ub hpre) (by assumption))) (lt_put h_lt hpre (by omega) h_7) (ub_put (ub_ext h_ub hpre) (by omega)) h_1 h_7 (by omega)) w_1320 w_1322 w_s75 w_9 w_1323 (by decide +kernel) rfl ⟨(Nat.le_of_ble_eq_true rfl), (Nat.le_of_ble_eq_true rfl)⟩ 0 (ci := 8) rfl rfl [0, 1, 2, 3] [] rfl rfl rfl rfl (by decide) (Nat.le_of_ble_eq_true rfl) dX8_lays_123 ⟨(Nat.le_of_ble_eq_true rfl), (Nat.le_of_ble_eq_true rfl)⟩ rfl (fun r w1 H locs hQ V => ?_)
            obtain ⟨bs_7, go_8, gp_9, rfl, rfl, f_10⟩ := hQ
            have V : gW D T A s [(o, .inr (8, [.int w0, .ref g1, .ref g2, .ref g3, .ref g4, .int (nI tp), .int w6, .int w7, .int w8, .int w9, .int w10, .int w11, .int w12, .int w13, .int w14, .ref g15, .int w16, .ref g17, .int w18, .int w19, .ref g20, .int w21, .ref g22, .ref g23, .ref g24, .int w25, .int w26, .int w27, .ref g28, .ref g29, .int bs_7, .ref g31, .ref g32, .ref g33])), (g1, .inl (T 0, 282, .inl fa)), (g28, .inl (T 0, 7, .inl go_8)), (g29, .inl (T 0, 7, .inl gp_9))] H locs := V
            show W p l e _ s m args below meth c H locs _ _ _ (F0 m 126 ls [])
            have hpre2 : ∀ j, j < 1 → go_8 j = fo j := fun j hj => (f_10 j (by omega)).trans ((up_other (by omega)).trans (hpre j hj))
            refine lv_iinc (v := (nI (k72 + 1))) (lv' := [(4, .int (nI (k72 + 1))), (0, .ref o), (1, .int (nI 1)), (2, .int (nI u)), (3, .int sum)]) hx hb dX8_lays_126 hl (k := 0) rfl (nI_1 _) (by decide) rfl (fun ls hl => ?_)
            refine lv_goto (tgt := 72) hx hb dX8_lays_129 (by decide) ?_
            exact ih_72 (k72 + 1) bs_7 go_8 gp_9 (by omega) (by assumption) (by omega) _ _ _ V (lv_sub hl [0, 1, 2, 3, 4] rfl)
    exact L_2 _ 0 w30 fo fp (by omega) (fun _ _ => rfl) (Nat.lt_succ_self _) _ _ _ V (lv_sub hl [0, 1, 2, 3, 4] rfl)
  · skip
    have c_1 := b_eq (by omega) (by omega) c_1
    have hkn : 1 = n := c_1
    refine lv_aload_n hx hb dX8_lays_10 rfl (lv_at hl 0 rfl) ?_
    refine g_callVU (nA := 0) hC V hl.1 (m_isOneRing l D T n o w0 g1 g2 g3 g4 tp w6 w7 w8 w9 w10 w11 w12 w13 w14 g15 w16 g17 w18 w19 g20 w21 g22 g23 g24 w25 w26 w27 g28 g29 w30 g31 g32 g33 fa fo h_a (lf_of h_li h_lt (by omega)) h_1 h_7) w_1324 w_1326 w_s76 w_9 w_1327 (by decide +kernel) rfl ⟨(Nat.le_of_ble_eq_true rfl), (Nat.le_of_ble_eq_true rfl)⟩ 0 (ci := 8) rfl rfl [0, 1, 2] rfl rfl (Nat.le_of_ble_eq_true rfl) dX8_lays_11 ⟨(Nat.le_of_ble_eq_true rfl), (Nat.le_of_ble_eq_true rfl)⟩ rfl (fun r w1 H locs hQ V => ?_)
    rcases hQ with ⟨rfl, rfl⟩ | ⟨rfl, rfl⟩
    · have V : gW D T A s [(o, .inr (8, [.int w0, .ref g1, .ref g2, .ref g3, .ref g4, .int (nI tp), .int w6, .int w7, .int w8, .int w9, .int w10, .int w11, .int w12, .int w13, .int w14, .ref g15, .int w16, .ref g17, .int w18, .int w19, .ref g20, .int w21, .ref g22, .ref g23, .ref g24, .int w25, .int w26, .int w27, .ref g28, .ref g29, .int w30, .ref g31, .ref g32, .ref g33])), (g1, .inl (T 0, 282, .inl fa)), (g28, .inl (T 0, 7, .inl fo)), (g29, .inl (T 0, 7, .inl fp))] H locs := V _ [0, 0, 0] rfl rfl rfl (by decide +kernel) rfl
      show W p l e _ s m args below meth c H locs _ _ _ (F0 m 14 ls [.int (nI 1)])
      refine lv_if_eq (tgt := 33) hx hb dX8_lays_14 (by decide) (fun c => absurd (show (nI 1) = 0 from c) (by decide +kernel)) (fun _ => ?_)
      refine lv_aload_n hx hb dX8_lays_17 rfl (lv_at hl 0 rfl) ?_
      refine g_get hC V (ci := 8) uwX8 0 rfl rfl 30 (by decide) w_942 rfl rfl dX8_lays_18 ?_
      refine lv_iconst (v := (-1)) hx hb dX8_lays_21 (by decide +kernel) ?_
      refine lv_icmp_eq (tgt := 34) hx hb dX8_lays_22 (by decide) (fun c_11 => ?_) (fun c_11 => ?_)
      · skip
        refine lv_aload_n hx hb dX8_lays_34 rfl (lv_at hl 0 rfl) ?_
        refine lv_iload_n hx hb dX8_lays_35 rfl (lv_at hl 3 rfl) ?_
        refine g_put hC V (ci := 8) uwX8 tyX8 tyX8_ok nmX8 0 rfl rfl 30 (by decide) w_942 rfl rfl rfl rfl (Nat.le_of_ble_eq_true rfl) (ws' := [(o, .inr (8, [.int w0, .ref g1, .ref g2, .ref g3, .ref g4, .int (nI tp), .int w6, .int w7, .int w8, .int w9, .int w10, .int w11, .int w12, .int w13, .int w14, .ref g15, .int w16, .ref g17, .int w18, .int w19, .ref g20, .int w21, .ref g22, .ref g23, .ref g24, .int w25, .int w26, .int w27, .ref g28, .ref g29, .int sum, .ref g31, .ref g32, .ref g33])), (g1, .inl (T 0, 282, .inl fa)), (g28, .inl (T 0, 7, .inl fo)), (g29, .inl (T 0, 7, .inl fp))]) rfl dX8_lays_36 (fun H locs V => ?_)
        refine lv_iconst (v := (nI 0)) hx hb dX8_lays_39 (by decide +kernel) ?_
        refine lv_istore (lv' := [(4, .int (nI 0)), (0, .ref o), (1, .int (nI 1)), (2, .int (nI u)), (3, .int sum)]) hx hb dX8_lays_40 hl (by decide) rfl (fun ls hl => ?_)
        have L_12 : ∀ (fu : Nat) (k42 : Nat) (gb42 : Nat → Int32), k42 ≤ 1 → 1 - k42 < fu → ∀ (H : Heap) (locs : List Loc) (ls : Array Slot), gW D T A s [(o, .inr (8, [.int w0, .ref g1, .ref g2, .ref g3, .ref g4, .int (nI tp), .int w6, .int w7, .int w8, .int w9, .int w10, .int w11, .int w12, .int w13, .int w14, .ref g15, .int w16, .ref g17, .int w18, .int w19, .ref g20, .int w21, .ref g22, .ref g23, .ref g24, .int w25, .int w26, .int w27, .ref g28, .ref g29, .int sum, .ref g31, .ref g32, .ref g33])), (g1, .inl (T 0, 282, .inl fa)), (g28, .inl (T 0, 7, .inl fo)), (g29, .inl (T 0, 7, .inl gb42))] H locs → lv_has ls 5 [(4, .int (nI k42)), (0, .ref o), (1, .int (nI 1)), (2, .int (nI u)), (3, .int sum)] → W p l e (rmD 8 0 0) s m args below meth c H locs 0 0 (MQ below (gQ D A (q_m_lays1 T n o u sum w0 g1 g2 g3 g4 tp w6 w7 w8 w9 w10 w11 w12 w13 w14 g15 w16 g17 w18 w19 g20 w21 g22 g23 g24 w25 w26 w27 g28 g29 w30 g31 g32 g33 fa fo fp)) args s 0 0 A) (F0 m 42 ls []) := by
          intro fu_42
          induction fu_42 with
          | zero => intro k42 gb42 hk42 hmu; exact absurd hmu (Nat.not_lt_zero _)
          | succ fu_42 ih_42 =>
            intro k42 gb42 hk42 hmu_42 H locs ls V hl
            refine lv_iload hx hb dX8_lays_42 (lv_at hl 0 rfl) ?_
            refine lv_iload_n hx hb dX8_lays_44 rfl (lv_at hl 2 rfl) ?_
            refine lv_icmp_ge (tgt := 68) hx hb dX8_lays_45 (by decide) (fun c_13 => ?_) (fun c_13 => ?_)
            · skip
              have c_13 := b_le (by omega) (by omega) c_13
              exact g_vret (Qr := (q_m_lays1 T n o u sum w0 g1 g2 g3 g4 tp w6 w7 w8 w9 w10 w11 w12 w13 w14 g15 w16 g17 w18 w19 g20 w21 g22 g23 g24 w25 w26 w27 g28 g29 w30 g31 g32 g33 fa fo fp)) hC V ⟨(Nat.le_of_ble_eq_true rfl), (Nat.le_of_ble_eq_true rfl)⟩ ⟨sum, fo, gb42, rfl, rfl, (fun _ _ => rfl)⟩ dX8_lays_68
            · skip
              have c_13 := b_nle (by omega) (by omega) c_13
              refine lv_aload_n hx hb dX8_lays_48 rfl (lv_at hl 1 rfl) ?_
              refine g_get hC V (ci := 8) uwX8 0 rfl rfl 29 (by decide) w_941 rfl rfl dX8_lays_49 ?_
              refine lv_iload hx hb dX8_lays_52 (lv_at hl 0 rfl) ?_
              refine lv_aload_n hx hb dX8_lays_54 rfl (lv_at hl 1 rfl) ?_
              refine g_get hC V (ci := 8) uwX8 0 rfl rfl 28 (by decide) w_940 rfl rfl dX8_lays_55 ?_
              refine lv_iload hx hb dX8_lays_58 (lv_at hl 0 rfl) ?_
              refine g_iald hC V 2 rfl (vp_in_nI (by omega) (by omega)) (v := (fo k42)) (congrArg _ (nI_clamp (by omega))) dX8_lays_60 ?_
              refine g_iast hC V 3 rfl (vp_in_nI (by omega) (by omega)) (f' := (upd gb42 k42 (fo k42))) (by rw [nI_clamp (by omega)]) (ws' := [(o, .inr (8, [.int w0, .ref g1, .ref g2, .ref g3, .ref g4, .int (nI tp), .int w6, .int w7, .int w8, .int w9, .int w10, .int w11, .int w12, .int w13, .int w14, .ref g15, .int w16, .ref g17, .int w18, .int w19, .ref g20, .int w21, .ref g22, .ref g23, .ref g24, .int w25, .int w26, .int w27, .ref g28, .ref g29, .int sum, .ref g31, .ref g32, .ref g33])), (g1, .inl (T 0, 282, .inl fa)), (g28, .inl (T 0, 7, .inl fo)), (g29, .inl (T 0, 7, .inl (upd gb42 k42 (fo k42))))]) rfl dX8_lays_61 (fun H locs V => ?_)
              refine lv_iinc (v := (nI (k42 + 1))) (lv' := [(4, .int (nI (k42 + 1))), (0, .ref o), (1, .int (nI 1)), (2, .int (nI u)), (3, .int sum)]) hx hb dX8_lays_62 hl (k := 0) rfl (nI_1 _) (by decide) rfl (fun ls hl => ?_)
              refine lv_goto (tgt := 42) hx hb dX8_lays_65 (by decide) ?_
              exact ih_42 (k42 + 1) (upd gb42 k42 (fo k42)) (by omega) (by omega) _ _ _ V (lv_sub hl [0, 1, 2, 3, 4] rfl)
        exact L_12 _ 0 fp (by omega) (Nat.lt_succ_self _) _ _ _ V (lv_sub hl [0, 1, 2, 3, 4] rfl)
      · skip
        refine lv_iload_n hx hb dX8_lays_25 rfl (lv_at hl 3 rfl) ?_
        refine lv_aload_n hx hb dX8_lays_26 rfl (lv_at hl 0 rfl) ?_
        refine g_get hC V (ci := 8) uwX8 0 rfl rfl 30 (by decide) w_942 rfl rfl dX8_lays_27 ?_
        refine lv_icmp_lt (tgt := 34) hx hb dX8_lays_30 (by decide) (fun c_14 => ?_) (fun c_14 => ?_)
        · skip
          refine lv_aload_n hx hb dX8_lays_34 rfl (lv_at hl 0 rfl) ?_
          refine lv_iload_n hx hb dX8_lays_35 rfl (lv_at hl 3 rfl) ?_
          refine g_put hC V (ci := 8) uwX8 tyX8 tyX8_ok nmX8 0 rfl rfl 30 (by decide) w_942 rfl rfl rfl rfl (Nat.le_of_ble_eq_true rfl) (ws' := [(o, .inr (8, [.int w0, .ref g1, .ref g2, .ref g3, .ref g4, .int (nI tp), .int w6, .int w7, .int w8, .int w9, .int w10, .int w11, .int w12, .int w13, .int w14, .ref g15, .int w16, .ref g17, .int w18, .int w19, .ref g20, .int w21, .ref g22, .ref g23, .ref g24, .int w25, .int w26, .int w27, .ref g28, .ref g29, .int sum, .ref g31, .ref g32, .ref g33])), (g1, .inl (T 0, 282, .inl fa)), (g28, .inl (T 0, 7, .inl fo)), (g29, .inl (T 0, 7, .inl fp))]) rfl dX8_lays_36 (fun H locs V => ?_)
          refine lv_iconst (v := (nI 0)) hx hb dX8_lays_39 (by decide +kernel) ?_
          refine lv_istore (lv' := [(4, .int (nI 0)), (0, .ref o), (1, .int (nI 1)), (2, .int (nI u)), (3, .int sum)]) hx hb dX8_lays_40 hl (by decide) rfl (fun ls hl => ?_)
          have L_15 : ∀ (fu : Nat) (k42 : Nat) (gb42 : Nat → Int32), k42 ≤ 1 → 1 - k42 < fu → ∀ (H : Heap) (locs : List Loc) (ls : Array Slot), gW D T A s [(o, .inr (8, [.int w0, .ref g1, .ref g2, .ref g3, .ref g4, .int (nI tp), .int w6, .int w7, .int w8, .int w9, .int w10, .int w11, .int w12, .int w13, .int w14, .ref g15, .int w16, .ref g17, .int w18, .int w19, .ref g20, .int w21, .ref g22, .ref g23, .ref g24, .int w25, .int w26, .int w27, .ref g28, .ref g29, .int sum, .ref g31, .ref g32, .ref g33])), (g1, .inl (T 0, 282, .inl fa)), (g28, .inl (T 0, 7, .inl fo)), (g29, .inl (T 0, 7, .inl gb42))] H locs → lv_has ls 5 [(4, .int (nI k42)), (0, .ref o), (1, .int (nI 1)), (2, .int (nI u)), (3, .int sum)] → W p l e (rmD 8 0 0) s m args below meth c H locs 0 0 (MQ below (gQ D A (q_m_lays1 T n o u sum w0 g1 g2 g3 g4 tp w6 w7 w8 w9 w10 w11 w12 w13 w14 g15 w16 g17 w18 w19 g20 w21 g22 g23 g24 w25 w26 w27 g28 g29 w30 g31 g32 g33 fa fo fp)) args s 0 0 A) (F0 m 42 ls []) := by
            intro fu_42
            induction fu_42 with
            | zero => intro k42 gb42 hk42 hmu; exact absurd hmu (Nat.not_lt_zero _)
            | succ fu_42 ih_42 =>
              intro k42 gb42 hk42 hmu_42 H locs ls V hl
              refine lv_iload hx hb dX8_lays_42 (lv_at hl 0 rfl) ?_
              refine lv_iload_n hx hb dX8_lays_44 rfl (lv_at hl 2 rfl) ?_
              refine lv_icmp_ge (tgt := 68) hx hb dX8_lays_45 (by decide) (fun c_16 => ?_) (fun c_16 => ?_)
              · skip
                have c_16 := b_le (by omega) (by omega) c_16
                exact g_vret (Qr := (q_m_lays1 T n o u sum w0 g1 g2 g3 g4 tp w6 w7 w8 w9 w10 w11 w12 w13 w14 g15 w16 g17 w18 w19 g20 w21 g22 g23 g24 w25 w26 w27 g28 g29 w30 g31 g32 g33 fa fo fp)) hC V ⟨(Nat.le_of_ble_eq_true rfl), (Nat.le_of_ble_eq_true rfl)⟩ ⟨sum, fo, gb42, rfl, rfl, (fun _ _ => rfl)⟩ dX8_lays_68
              · skip
                have c_16 := b_nle (by omega) (by omega) c_16
                refine lv_aload_n hx hb dX8_lays_48 rfl (lv_at hl 1 rfl) ?_
                refine g_get hC V (ci := 8) uwX8 0 rfl rfl 29 (by decide) w_941 rfl rfl dX8_lays_49 ?_
                refine lv_iload hx hb dX8_lays_52 (lv_at hl 0 rfl) ?_
                refine lv_aload_n hx hb dX8_lays_54 rfl (lv_at hl 1 rfl) ?_
                refine g_get hC V (ci := 8) uwX8 0 rfl rfl 28 (by decide) w_940 rfl rfl dX8_lays_55 ?_
                refine lv_iload hx hb dX8_lays_58 (lv_at hl 0 rfl) ?_
                refine g_iald hC V 2 rfl (vp_in_nI (by omega) (by omega)) (v := (fo k42)) (congrArg _ (nI_clamp (by omega))) dX8_lays_60 ?_
                refine g_iast hC V 3 rfl (vp_in_nI (by omega) (by omega)) (f' := (upd gb42 k42 (fo k42))) (by rw [nI_clamp (by omega)]) (ws' := [(o, .inr (8, [.int w0, .ref g1, .ref g2, .ref g3, .ref g4, .int (nI tp), .int w6, .int w7, .int w8, .int w9, .int w10, .int w11, .int w12, .int w13, .int w14, .ref g15, .int w16, .ref g17, .int w18, .int w19, .ref g20, .int w21, .ref g22, .ref g23, .ref g24, .int w25, .int w26, .int w27, .ref g28, .ref g29, .int sum, .ref g31, .ref g32, .ref g33])), (g1, .inl (T 0, 282, .inl fa)), (g28, .inl (T 0, 7, .inl fo)), (g29, .inl (T 0, 7, .inl (upd gb42 k42 (fo k42))))]) rfl dX8_lays_61 (fun H locs V => ?_)
                refine lv_iinc (v := (nI (k42 + 1))) (lv' := [(4, .int (nI (k42 + 1))), (0, .ref o), (1, .int (nI 1)), (2, .int (nI u)), (3, .int sum)]) hx hb dX8_lays_62 hl (k := 0) rfl (nI_1 _) (by decide) rfl (fun ls hl => ?_)
                refine lv_goto (tgt := 42) hx hb dX8_lays_65 (by decide) ?_
                exact ih_42 (k42 + 1) (upd gb42 k42 (fo k42)) (by omega) (by omega) _ _ _ V (lv_sub hl [0, 1, 2, 3, 4] rfl)
          exact L_15 _ 0 fp (by omega) (Nat.lt_succ_self _) _ _ _ V (lv_sub hl [0, 1, 2, 3, 4] rfl)
        · skip
          exact g_vret (Qr := (q_m_lays1 T n o u sum w0 g1 g2 g3 g4 tp w6 w7 w8 w9 w10 w11 w12 w13 w14 g15 w16 g17 w18 w19 g20 w21 g22 g23 g24 w25 w26 w27 g28 g29 w30 g31 g32 g33 fa fo fp)) hC V ⟨(Nat.le_of_ble_eq_true rfl), (Nat.le_of_ble_eq_true rfl)⟩ ⟨w30, fo, fp, rfl, rfl, (fun _ _ => rfl)⟩ dX8_lays_33
    · have V : gW D T A s [(o, .inr (8, [.int w0, .ref g1, .ref g2, .ref g3, .ref g4, .int (nI tp), .int w6, .int w7, .int w8, .int w9, .int w10, .int w11, .int w12, .int w13, .int w14, .ref g15, .int w16, .ref g17, .int w18, .int w19, .ref g20, .int w21, .ref g22, .ref g23, .ref g24, .int w25, .int w26, .int w27, .ref g28, .ref g29, .int w30, .ref g31, .ref g32, .ref g33])), (g1, .inl (T 0, 282, .inl fa)), (g28, .inl (T 0, 7, .inl fo)), (g29, .inl (T 0, 7, .inl fp))] H locs := V _ [0, 0, 0] rfl rfl rfl (by decide +kernel) rfl
      show W p l e _ s m args below meth c H locs _ _ _ (F0 m 14 ls [.int (nI 0)])
      refine lv_if_eq (tgt := 33) hx hb dX8_lays_14 (by decide) (fun _ => ?_) (fun c => absurd (show (nI 0) = 0 by decide +kernel) c)
      exact g_vret (Qr := (q_m_lays1 T n o u sum w0 g1 g2 g3 g4 tp w6 w7 w8 w9 w10 w11 w12 w13 w14 g15 w16 g17 w18 w19 g20 w21 g22 g23 g24 w25 w26 w27 g28 g29 w30 g31 g32 g33 fa fo fp)) hC V ⟨(Nat.le_of_ble_eq_true rfl), (Nat.le_of_ble_eq_true rfl)⟩ ⟨w30, fo, fp, rfl, rfl, (fun _ _ => rfl)⟩ dX8_lays_33

def q_m_lays0 (T : Nat → ClassId) (n : Nat) (o : Nat) (u : Nat) (sum : Int32) (w0 : Int32) (g1 : Nat) (g2 : Nat) (g3 : Nat) (g4 : Nat) (tp : Nat) (w6 : Int32) (w7 : Int32) (w8 : Int32) (w9 : Int32) (w10 : Int32) (w11 : Int32) (w12 : Int32) (w13 : Int32) (w14 : Int32) (g15 : Nat) (w16 : Int32) (g17 : Nat) (w18 : Int32) (w19 : Int32) (g20 : Nat) (w21 : Int32) (g22 : Nat) (g23 : Nat) (g24 : Nat) (w25 : Int32) (w26 : Int32) (w27 : Int32) (g28 : Nat) (g29 : Nat) (w30 : Int32) (g31 : Nat) (g32 : Nat) (g33 : Nat) (fa : Nat → Int32) (fo : Nat → Int32) (fp : Nat → Int32) : Option Value → va_W → Prop := fun rr ww => (∃ (bs : Int32) (go : Nat → Int32) (gp : Nat → Int32), rr = none ∧ ww = [(o, .inr (8, [.int w0, .ref g1, .ref g2, .ref g3, .ref g4, .int (nI tp), .int w6, .int w7, .int w8, .int w9, .int w10, .int w11, .int w12, .int w13, .int w14, .ref g15, .int w16, .ref g17, .int w18, .int w19, .ref g20, .int w21, .ref g22, .ref g23, .ref g24, .int w25, .int w26, .int w27, .ref g28, .ref g29, .int bs, .ref g31, .ref g32, .ref g33])), (g1, .inl (T 0, 282, .inl fa)), (g28, .inl (T 0, 7, .inl go)), (g29, .inl (T 0, 7, .inl gp))] ∧ (∀ j, j < 0 → go j = fo j))
set_option maxHeartbeats 4000000 in
set_option maxRecDepth 100000 in
theorem m_lays0 (l : Launch) (D : va_G) (T : Nat → ClassId) (n : Nat) (o : Nat) (u : Nat) (sum : Int32) (w0 : Int32) (g1 : Nat) (g2 : Nat) (g3 : Nat) (g4 : Nat) (tp : Nat) (w6 : Int32) (w7 : Int32) (w8 : Int32) (w9 : Int32) (w10 : Int32) (w11 : Int32) (w12 : Int32) (w13 : Int32) (w14 : Int32) (g15 : Nat) (w16 : Int32) (g17 : Nat) (w18 : Int32) (w19 : Int32) (g20 : Nat) (w21 : Int32) (g22 : Nat) (g23 : Nat) (g24 : Nat) (w25 : Int32) (w26 : Int32) (w27 : Int32) (g28 : Nat) (g29 : Nat) (w30 : Int32) (g31 : Nat) (g32 : Nat) (g33 : Nat) (fa : Nat → Int32) (fo : Nat → Int32) (fp : Nat → Int32) (h_a : MI n fa) (h_li : LI 0 fo) (h_lt : ∀ j, j < 0 → toF fo j < n) (h_ub : UB 0 u fo) (h_1 : 1 ≤ n) (h_7 : n ≤ 7) (h_kn : 0 ≤ n) : Ct l yX8_lays cX8_lays 5 none 9 0 0 D T [.ref o, .int (nI 0), .int (nI u), .int sum] [(o, .inr (8, [.int w0, .ref g1, .ref g2, .ref g3, .ref g4, .int (nI tp), .int w6, .int w7, .int w8, .int w9, .int w10, .int w11, .int w12, .int w13, .int w14, .ref g15, .int w16, .ref g17, .int w18, .int w19, .ref g20, .int w21, .ref g22, .ref g23, .ref g24, .int w25, .int w26, .int w27, .ref g28, .ref g29, .int w30, .ref g31, .ref g32, .ref g33])), (g1, .inl (T 0, 282, .inl fa)), (g28, .inl (T 0, 7, .inl fo)), (g29, .inl (T 0, 7, .inl fp))] (q_m_lays0 T n o u sum w0 g1 g2 g3 g4 tp w6 w7 w8 w9 w10 w11 w12 w13 w14 g15 w16 g17 w18 w19 g20 w21 g22 g23 g24 w25 w26 w27 g28 g29 w30 g31 g32 g33 fa fo fp) := by
  refine Ct.of (cc := cX8_lays) (maxL := 5) (ret := none) (by decide) (Nat.le_of_ble_eq_true rfl) ?_
  intro p e s m args below meth c A ls hC hnm V hl
  obtain ⟨hx, hb, hr, hml, hown, hts, hlocks⟩ := id hC
  generalize hH : s.heap = H at V ⊢
  clear hH
  have hl : lv_has ls 5 [(0, .ref o), (1, .int (nI 0)), (2, .int (nI u)), (3, .int sum)] := hl
  generalize hlo : ([] : List Loc) = locs at V ⊢
  clear hlo
  have ms0 := ms_rf h_a
  have hn10 := h_a.1
  have hu := h_ub.1
  refine lv_iload_n hx hb dX8_lays_0 rfl (lv_at hl 1 rfl) ?_
  refine lv_aload_n hx hb dX8_lays_1 rfl (lv_at hl 0 rfl) ?_
  refine g_get hC V (ci := 8) uwX8 0 rfl rfl 1 (by decide) w_913 rfl rfl dX8_lays_2 ?_
  refine lv_iconst (v := (nI 0)) hx hb dX8_lays_5 (by decide +kernel) ?_
  refine g_iald hC V 1 rfl (vp_in_nI (by decide) (by decide)) (v := (nI n)) (by rw [nI_clamp (by decide)]; first | rfl | exact h_a.2.1) dX8_lays_6 ?_
  refine lv_icmp_ne (tgt := 69) hx hb dX8_lays_7 (by decide) (fun c_1 => ?_) (fun c_1 => ?_)
  · skip
    have c_1 := b_ne (by omega) (by omega) c_1
    refine lv_iconst (v := (nI 0)) hx hb dX8_lays_69 (by decide +kernel) ?_
    refine lv_istore (lv' := [(4, .int (nI 0)), (0, .ref o), (1, .int (nI 0)), (2, .int (nI u)), (3, .int sum)]) hx hb dX8_lays_70 hl (by decide) rfl (fun ls hl => ?_)
    have L_2 : ∀ (fu : Nat) (k72 : Nat) (bv : Int32) (f72 : Nat → Int32) (gb72 : Nat → Int32), k72 ≤ n → (∀ j, j < 0 → f72 j = fo j) → n - k72 < fu → ∀ (H : Heap) (locs : List Loc) (ls : Array Slot), gW D T A s [(o, .inr (8, [.int w0, .ref g1, .ref g2, .ref g3, .ref g4, .int (nI tp), .int w6, .int w7, .int w8, .int w9, .int w10, .int w11, .int w12, .int w13, .int w14, .ref g15, .int w16, .ref g17, .int w18, .int w19, .ref g20, .int w21, .ref g22, .ref g23, .ref g24, .int w25, .int w26, .int w27, .ref g28, .ref g29, .int bv, .ref g31, .ref g32, .ref g33])), (g1, .inl (T 0, 282, .inl fa)), (g28, .inl (T 0, 7, .inl f72)), (g29, .inl (T 0, 7, .inl gb72))] H locs → lv_has ls 5 [(4, .int (nI k72)), (0, .ref o), (1, .int (nI 0)), (2, .int (nI u)), (3, .int sum)] → W p l e (rmD 9 0 0) s m args below meth c H locs 0 0 (MQ below (gQ D A (q_m_lays0 T n o u sum w0 g1 g2 g3 g4 tp w6 w7 w8 w9 w10 w11 w12 w13 w14 g15 w16 g17 w18 w19 g20 w21 g22 g23 g24 w25 w26 w27 g28 g29 w30 g31 g32 g33 fa fo fp)) args s 0 0 A) (F0 m 72 ls []) := by
      intro fu_72
      induction fu_72 with
      | zero => intro k72 bv f72 gb72 hk72 hpre hmu; exact absurd hmu (Nat.not_lt_zero _)
      | succ fu_72 ih_72 =>
        intro k72 bv f72 gb72 hk72 hpre hmu_72 H locs ls V hl
        refine lv_iload hx hb dX8_lays_72 (lv_at hl 0 rfl) ?_
        refine lv_aload_n hx hb dX8_lays_74 rfl (lv_at hl 1 rfl) ?_
        refine g_get hC V (ci := 8) uwX8 0 rfl rfl 1 (by decide) w_913 rfl rfl dX8_lays_75 ?_
        refine lv_iconst (v := (nI 0)) hx hb dX8_lays_78 (by decide +kernel) ?_
        refine g_iald hC V 1 rfl (vp_in_nI (by decide) (by decide)) (v := (nI n)) (by rw [nI_clamp (by decide)]; first | rfl | exact h_a.2.1) dX8_lays_79 ?_
        refine lv_icmp_ge (tgt := 132) hx hb dX8_lays_80 (by decide) (fun c_3 => ?_) (fun c_3 => ?_)
        · skip
          have c_3 := b_le (by omega) (by omega) c_3
          exact g_vret (Qr := (q_m_lays0 T n o u sum w0 g1 g2 g3 g4 tp w6 w7 w8 w9 w10 w11 w12 w13 w14 g15 w16 g17 w18 w19 g20 w21 g22 g23 g24 w25 w26 w27 g28 g29 w30 g31 g32 g33 fa fo fp)) hC V ⟨(Nat.le_of_ble_eq_true rfl), (Nat.le_of_ble_eq_true rfl)⟩ ⟨bv, f72, gb72, rfl, rfl, hpre⟩ dX8_lays_132
        · skip
          have c_3 := b_nle (by omega) (by omega) c_3
          refine lv_iload_n hx hb dX8_lays_83 rfl (lv_at hl 3 rfl) ?_
          refine lv_i2l (v := (nI u).toInt64) hx hb dX8_lays_84 rfl ?_
          refine lv_iload hx hb dX8_lays_85 (lv_at hl 0 rfl) ?_
          refine g_callSU (nA := 2) hC V hl.1 (m_isIn7 l D T u k72 h_ub.1 (by omega)) w_1130 w_1131 w_9 w_1132 (by decide +kernel) rfl ⟨(Nat.le_of_ble_eq_true rfl), (Nat.le_of_ble_eq_true rfl)⟩ [] rfl rfl (Nat.le_of_ble_eq_true rfl) dX8_lays_87 ⟨(Nat.le_of_ble_eq_true rfl), (Nat.le_of_ble_eq_true rfl)⟩ rfl (fun r w1 H locs hQ V => ?_)
          rcases hQ with ⟨rfl, rfl, f_4⟩ | ⟨rfl, rfl, f_5⟩
          · have V : gW D T A s [(o, .inr (8, [.int w0, .ref g1, .ref g2, .ref g3, .ref g4, .int (nI tp), .int w6, .int w7, .int w8, .int w9, .int w10, .int w11, .int w12, .int w13, .int w14, .ref g15, .int w16, .ref g17, .int w18, .int w19, .ref g20, .int w21, .ref g22, .ref g23, .ref g24, .int w25, .int w26, .int w27, .ref g28, .ref g29, .int bv, .ref g31, .ref g32, .ref g33])), (g1, .inl (T 0, 282, .inl fa)), (g28, .inl (T 0, 7, .inl f72)), (g29, .inl (T 0, 7, .inl gb72))] H locs := V _ [] rfl rfl rfl (by decide +kernel) rfl
            show W p l e _ s m args below meth c H locs _ _ _ (F0 m 90 ls [.int (nI 1)])
            refine lv_if_eq (tgt := 96) hx hb dX8_lays_90 (by decide) (fun c => absurd (show (nI 1) = 0 from c) (by decide +kernel)) (fun _ => ?_)
            refine lv_goto (tgt := 126) hx hb dX8_lays_93 (by decide) ?_
            refine lv_iinc (v := (nI (k72 + 1))) (lv' := [(4, .int (nI (k72 + 1))), (0, .ref o), (1, .int (nI 0)), (2, .int (nI u)), (3, .int sum)]) hx hb dX8_lays_126 hl (k := 0) rfl (nI_1 _) (by decide) rfl (fun ls hl => ?_)
            refine lv_goto (tgt := 72) hx hb dX8_lays_129 (by decide) ?_
            exact ih_72 (k72 + 1) bv f72 gb72 (by omega) (by assumption) (by omega) _ _ _ V (lv_sub hl [0, 1, 2, 3, 4] rfl)
          · have V : gW D T A s [(o, .inr (8, [.int w0, .ref g1, .ref g2, .ref g3, .ref g4, .int (nI tp), .int w6, .int w7, .int w8, .int w9, .int w10, .int w11, .int w12, .int w13, .int w14, .ref g15, .int w16, .ref g17, .int w18, .int w19, .ref g20, .int w21, .ref g22, .ref g23, .ref g24, .int w25, .int w26, .int w27, .ref g28, .ref g29, .int bv, .ref g31, .ref g32, .ref g33])), (g1, .inl (T 0, 282, .inl fa)), (g28, .inl (T 0, 7, .inl f72)), (g29, .inl (T 0, 7, .inl gb72))] H locs := V _ [] rfl rfl rfl (by decide +kernel) rfl
            show W p l e _ s m args below meth c H locs _ _ _ (F0 m 90 ls [.int (nI 0)])
            refine lv_if_eq (tgt := 96) hx hb dX8_lays_90 (by decide) (fun _ => ?_) (fun c => absurd (show (nI 0) = 0 by decide +kernel) c)
            refine lv_aload_n hx hb dX8_lays_96 rfl (lv_at hl 1 rfl) ?_
            refine g_get hC V (ci := 8) uwX8 0 rfl rfl 28 (by decide) w_940 rfl rfl dX8_lays_97 ?_
            refine lv_iload_n hx hb dX8_lays_100 rfl (lv_at hl 2 rfl) ?_
            refine lv_iload hx hb dX8_lays_101 (lv_at hl 0 rfl) ?_
            refine g_iast hC V 2 rfl (vp_in_nI (by decide) (by decide)) (f' := (upd f72 0 (nI k72))) (by rw [nI_clamp (by decide)]) (ws' := [(o, .inr (8, [.int w0, .ref g1, .ref g2, .ref g3, .ref g4, .int (nI tp), .int w6, .int w7, .int w8, .int w9, .int w10, .int w11, .int w12, .int w13, .int w14, .ref g15, .int w16, .ref g17, .int w18, .int w19, .ref g20, .int w21, .ref g22, .ref g23, .ref g24, .int w25, .int w26, .int w27, .ref g28, .ref g29, .int bv, .ref g31, .ref g32, .ref g33])), (g1, .inl (T 0, 282, .inl fa)), (g28, .inl (T 0, 7, .inl (upd f72 0 (nI k72)))), (g29, .inl (T 0, 7, .inl gb72))]) rfl dX8_lays_103 (fun H locs V => ?_)
            refine lv_aload_n hx hb dX8_lays_104 rfl (lv_at hl 1 rfl) ?_
            refine lv_iload_n hx hb dX8_lays_105 rfl (lv_at hl 2 rfl) ?_
            refine lv_iconst (v := (nI 1)) hx hb dX8_lays_106 (by decide +kernel) ?_
            refine lv_iadd hx hb dX8_lays_107 ?_
            refine g_vi (y := (nI 1)) (by decide +kernel) ?_
            refine lv_iload_n hx hb dX8_lays_108 rfl (lv_at hl 3 rfl) ?_
            refine lv_iconst (v := (nI 1)) hx hb dX8_lays_109 (by decide +kernel) ?_
            refine lv_iload hx hb dX8_lays_110 (lv_at hl 0 rfl) ?_
            refine lv_ishl hx hb dX8_lays_112 ?_
            refine g_vi (y := (nI (2 ^ k72))) (shl_pow (by omega)) ?_
            refine lv_ior hx hb dX8_lays_113 ?_
            refine g_vi (y := nI (u ||| (2 ^ k72))) (or7 (by omega) (by omega)) ?_
            refine lv_iload_n hx hb dX8_lays_114 rfl (lv_at hl 4 rfl) ?_
            refine lv_aload_n hx hb dX8_lays_115 rfl (lv_at hl 1 rfl) ?_
            refine lv_iload_n hx hb dX8_lays_116 rfl (lv_at hl 2 rfl) ?_
            refine lv_iload hx hb dX8_lays_117 (lv_at hl 0 rfl) ?_
            refine g_callVU (nA := 2) hC V hl.1 (m_offBy l D T o 0 k72 w0 g1 g2 g3 g4 tp w6 w7 w8 w9 w10 w11 w12 w13 w14 g15 w16 g17 w18 w19 g20 w21 g22 g23 g24 w25 w26 w27 g28 g29 bv g31 g32 g33 fa (by first | assumption | omega) (by first | assumption | omega)) w_1328 w_1330 w_s77 w_9 w_1331 (by decide +kernel) rfl ⟨(Nat.le_of_ble_eq_true rfl), (Nat.le_of_ble_eq_true rfl)⟩ 0 (ci := 8) rfl rfl [0, 1] rfl rfl (Nat.le_of_ble_eq_true rfl) dX8_lays_119 ⟨(Nat.le_of_ble_eq_true rfl), (Nat.le_of_ble_eq_true rfl)⟩ rfl (fun r w1 H locs hQ V => ?_)
            obtain ⟨z_6, rfl, rfl⟩ := hQ
            have V : gW D T A s [(o, .inr (8, [.int w0, .ref g1, .ref g2, .ref g3, .ref g4, .int (nI tp), .int w6, .int w7, .int w8, .int w9, .int w10, .int w11, .int w12, .int w13, .int w14, .ref g15, .int w16, .ref g17, .int w18, .int w19, .ref g20, .int w21, .ref g22, .ref g23, .ref g24, .int w25, .int w26, .int w27, .ref g28, .ref g29, .int bv, .ref g31, .ref g32, .ref g33])), (g1, .inl (T 0, 282, .inl fa)), (g28, .inl (T 0, 7, .inl (upd f72 0 (nI k72)))), (g29, .inl (T 0, 7, .inl gb72))] H locs := V _ [0, 0] rfl rfl rfl (by decide +kernel) rfl
            show W p l e _ s m args below meth c H locs _ _ _ (F0 m 122 ls [.int z_6, .int sum, .int (nI (u ||| (2 ^ k72))), .int (nI 1), .ref o])
            refine lv_iadd hx hb dX8_lays_122 ?_
            refine g_callV (wr := []) (nA := 3) hC V hl.1 (m_lays1 l D T n o (u ||| (2 ^ k72)) (sum + z_6) w0 g1 g2 g3 g4 tp w6 w7 w8 w9 w10 w11 w12 w13 w14 g15 w16 g17 w18 w19 g20 w21 g22 g23 g24 w25 w26 w27 g28 g29 bv g31 g32 g33 fa (upd f72 0 (nI k72)) gb72 h_a (li_put (li_ext h_li hpre) (by omega) (ub_free (ub_ext h_ub hpre) (by assumption))) (lt_put h_lt hpre (by omega) h_7) (ub_put (ub_ext h_ub hpre) (by omega)) h_1 h_7 (by omega)) w_1320 w_1322 w_s75 w_9 w_1323 (by decide +kernel) rfl ⟨(Nat.le_of_ble_eq_true rfl), (Nat.le_of_ble_eq_true rfl)⟩ 0 (ci := 8) rfl rfl [0, 1, 2, 3] [] rfl rfl rfl rfl (by decide) (Nat.le_of_ble_eq_true rfl) dX8_lays_123 ⟨(Nat.le_of_ble_eq_true rfl), (Nat.le_of_ble_eq_true rfl)⟩ rfl (fun r w1 H locs hQ V => ?_)
            obtain ⟨bs_7, go_8, gp_9, rfl, rfl, f_10⟩ := hQ
            have V : gW D T A s [(o, .inr (8, [.int w0, .ref g1, .ref g2, .ref g3, .ref g4, .int (nI tp), .int w6, .int w7, .int w8, .int w9, .int w10, .int w11, .int w12, .int w13, .int w14, .ref g15, .int w16, .ref g17, .int w18, .int w19, .ref g20, .int w21, .ref g22, .ref g23, .ref g24, .int w25, .int w26, .int w27, .ref g28, .ref g29, .int bs_7, .ref g31, .ref g32, .ref g33])), (g1, .inl (T 0, 282, .inl fa)), (g28, .inl (T 0, 7, .inl go_8)), (g29, .inl (T 0, 7, .inl gp_9))] H locs := V
            show W p l e _ s m args below meth c H locs _ _ _ (F0 m 126 ls [])
            have hpre2 : ∀ j, j < 0 → go_8 j = fo j := fun j hj => (f_10 j (by omega)).trans ((up_other (by omega)).trans (hpre j hj))
            refine lv_iinc (v := (nI (k72 + 1))) (lv' := [(4, .int (nI (k72 + 1))), (0, .ref o), (1, .int (nI 0)), (2, .int (nI u)), (3, .int sum)]) hx hb dX8_lays_126 hl (k := 0) rfl (nI_1 _) (by decide) rfl (fun ls hl => ?_)
            refine lv_goto (tgt := 72) hx hb dX8_lays_129 (by decide) ?_
            exact ih_72 (k72 + 1) bs_7 go_8 gp_9 (by omega) (by assumption) (by omega) _ _ _ V (lv_sub hl [0, 1, 2, 3, 4] rfl)
    exact L_2 _ 0 w30 fo fp (by omega) (fun _ _ => rfl) (Nat.lt_succ_self _) _ _ _ V (lv_sub hl [0, 1, 2, 3, 4] rfl)
  · skip
    have c_1 := b_eq (by omega) (by omega) c_1
    have hkn : 0 = n := c_1
    refine lv_aload_n hx hb dX8_lays_10 rfl (lv_at hl 0 rfl) ?_
    refine g_callVU (nA := 0) hC V hl.1 (m_isOneRing l D T n o w0 g1 g2 g3 g4 tp w6 w7 w8 w9 w10 w11 w12 w13 w14 g15 w16 g17 w18 w19 g20 w21 g22 g23 g24 w25 w26 w27 g28 g29 w30 g31 g32 g33 fa fo h_a (lf_of h_li h_lt (by omega)) h_1 h_7) w_1324 w_1326 w_s76 w_9 w_1327 (by decide +kernel) rfl ⟨(Nat.le_of_ble_eq_true rfl), (Nat.le_of_ble_eq_true rfl)⟩ 0 (ci := 8) rfl rfl [0, 1, 2] rfl rfl (Nat.le_of_ble_eq_true rfl) dX8_lays_11 ⟨(Nat.le_of_ble_eq_true rfl), (Nat.le_of_ble_eq_true rfl)⟩ rfl (fun r w1 H locs hQ V => ?_)
    rcases hQ with ⟨rfl, rfl⟩ | ⟨rfl, rfl⟩
    · have V : gW D T A s [(o, .inr (8, [.int w0, .ref g1, .ref g2, .ref g3, .ref g4, .int (nI tp), .int w6, .int w7, .int w8, .int w9, .int w10, .int w11, .int w12, .int w13, .int w14, .ref g15, .int w16, .ref g17, .int w18, .int w19, .ref g20, .int w21, .ref g22, .ref g23, .ref g24, .int w25, .int w26, .int w27, .ref g28, .ref g29, .int w30, .ref g31, .ref g32, .ref g33])), (g1, .inl (T 0, 282, .inl fa)), (g28, .inl (T 0, 7, .inl fo)), (g29, .inl (T 0, 7, .inl fp))] H locs := V _ [0, 0, 0] rfl rfl rfl (by decide +kernel) rfl
      show W p l e _ s m args below meth c H locs _ _ _ (F0 m 14 ls [.int (nI 1)])
      refine lv_if_eq (tgt := 33) hx hb dX8_lays_14 (by decide) (fun c => absurd (show (nI 1) = 0 from c) (by decide +kernel)) (fun _ => ?_)
      refine lv_aload_n hx hb dX8_lays_17 rfl (lv_at hl 0 rfl) ?_
      refine g_get hC V (ci := 8) uwX8 0 rfl rfl 30 (by decide) w_942 rfl rfl dX8_lays_18 ?_
      refine lv_iconst (v := (-1)) hx hb dX8_lays_21 (by decide +kernel) ?_
      refine lv_icmp_eq (tgt := 34) hx hb dX8_lays_22 (by decide) (fun c_11 => ?_) (fun c_11 => ?_)
      · skip
        refine lv_aload_n hx hb dX8_lays_34 rfl (lv_at hl 0 rfl) ?_
        refine lv_iload_n hx hb dX8_lays_35 rfl (lv_at hl 3 rfl) ?_
        refine g_put hC V (ci := 8) uwX8 tyX8 tyX8_ok nmX8 0 rfl rfl 30 (by decide) w_942 rfl rfl rfl rfl (Nat.le_of_ble_eq_true rfl) (ws' := [(o, .inr (8, [.int w0, .ref g1, .ref g2, .ref g3, .ref g4, .int (nI tp), .int w6, .int w7, .int w8, .int w9, .int w10, .int w11, .int w12, .int w13, .int w14, .ref g15, .int w16, .ref g17, .int w18, .int w19, .ref g20, .int w21, .ref g22, .ref g23, .ref g24, .int w25, .int w26, .int w27, .ref g28, .ref g29, .int sum, .ref g31, .ref g32, .ref g33])), (g1, .inl (T 0, 282, .inl fa)), (g28, .inl (T 0, 7, .inl fo)), (g29, .inl (T 0, 7, .inl fp))]) rfl dX8_lays_36 (fun H locs V => ?_)
        refine lv_iconst (v := (nI 0)) hx hb dX8_lays_39 (by decide +kernel) ?_
        refine lv_istore (lv' := [(4, .int (nI 0)), (0, .ref o), (1, .int (nI 0)), (2, .int (nI u)), (3, .int sum)]) hx hb dX8_lays_40 hl (by decide) rfl (fun ls hl => ?_)
        have L_12 : ∀ (fu : Nat) (k42 : Nat) (gb42 : Nat → Int32), k42 ≤ 0 → 0 - k42 < fu → ∀ (H : Heap) (locs : List Loc) (ls : Array Slot), gW D T A s [(o, .inr (8, [.int w0, .ref g1, .ref g2, .ref g3, .ref g4, .int (nI tp), .int w6, .int w7, .int w8, .int w9, .int w10, .int w11, .int w12, .int w13, .int w14, .ref g15, .int w16, .ref g17, .int w18, .int w19, .ref g20, .int w21, .ref g22, .ref g23, .ref g24, .int w25, .int w26, .int w27, .ref g28, .ref g29, .int sum, .ref g31, .ref g32, .ref g33])), (g1, .inl (T 0, 282, .inl fa)), (g28, .inl (T 0, 7, .inl fo)), (g29, .inl (T 0, 7, .inl gb42))] H locs → lv_has ls 5 [(4, .int (nI k42)), (0, .ref o), (1, .int (nI 0)), (2, .int (nI u)), (3, .int sum)] → W p l e (rmD 9 0 0) s m args below meth c H locs 0 0 (MQ below (gQ D A (q_m_lays0 T n o u sum w0 g1 g2 g3 g4 tp w6 w7 w8 w9 w10 w11 w12 w13 w14 g15 w16 g17 w18 w19 g20 w21 g22 g23 g24 w25 w26 w27 g28 g29 w30 g31 g32 g33 fa fo fp)) args s 0 0 A) (F0 m 42 ls []) := by
          intro fu_42
          induction fu_42 with
          | zero => intro k42 gb42 hk42 hmu; exact absurd hmu (Nat.not_lt_zero _)
          | succ fu_42 ih_42 =>
            intro k42 gb42 hk42 hmu_42 H locs ls V hl
            refine lv_iload hx hb dX8_lays_42 (lv_at hl 0 rfl) ?_
            refine lv_iload_n hx hb dX8_lays_44 rfl (lv_at hl 2 rfl) ?_
            refine lv_icmp_ge (tgt := 68) hx hb dX8_lays_45 (by decide) (fun c_13 => ?_) (fun c_13 => ?_)
            · skip
              have c_13 := b_le (by omega) (by omega) c_13
              exact g_vret (Qr := (q_m_lays0 T n o u sum w0 g1 g2 g3 g4 tp w6 w7 w8 w9 w10 w11 w12 w13 w14 g15 w16 g17 w18 w19 g20 w21 g22 g23 g24 w25 w26 w27 g28 g29 w30 g31 g32 g33 fa fo fp)) hC V ⟨(Nat.le_of_ble_eq_true rfl), (Nat.le_of_ble_eq_true rfl)⟩ ⟨sum, fo, gb42, rfl, rfl, (fun _ _ => rfl)⟩ dX8_lays_68
            · skip
              have c_13 := b_nle (by omega) (by omega) c_13
              refine lv_aload_n hx hb dX8_lays_48 rfl (lv_at hl 1 rfl) ?_
              refine g_get hC V (ci := 8) uwX8 0 rfl rfl 29 (by decide) w_941 rfl rfl dX8_lays_49 ?_
              refine lv_iload hx hb dX8_lays_52 (lv_at hl 0 rfl) ?_
              refine lv_aload_n hx hb dX8_lays_54 rfl (lv_at hl 1 rfl) ?_
              refine g_get hC V (ci := 8) uwX8 0 rfl rfl 28 (by decide) w_940 rfl rfl dX8_lays_55 ?_
              refine lv_iload hx hb dX8_lays_58 (lv_at hl 0 rfl) ?_
              refine g_iald hC V 2 rfl (vp_in_nI (by omega) (by omega)) (v := (fo k42)) (congrArg _ (nI_clamp (by omega))) dX8_lays_60 ?_
              refine g_iast hC V 3 rfl (vp_in_nI (by omega) (by omega)) (f' := (upd gb42 k42 (fo k42))) (by rw [nI_clamp (by omega)]) (ws' := [(o, .inr (8, [.int w0, .ref g1, .ref g2, .ref g3, .ref g4, .int (nI tp), .int w6, .int w7, .int w8, .int w9, .int w10, .int w11, .int w12, .int w13, .int w14, .ref g15, .int w16, .ref g17, .int w18, .int w19, .ref g20, .int w21, .ref g22, .ref g23, .ref g24, .int w25, .int w26, .int w27, .ref g28, .ref g29, .int sum, .ref g31, .ref g32, .ref g33])), (g1, .inl (T 0, 282, .inl fa)), (g28, .inl (T 0, 7, .inl fo)), (g29, .inl (T 0, 7, .inl (upd gb42 k42 (fo k42))))]) rfl dX8_lays_61 (fun H locs V => ?_)
              refine lv_iinc (v := (nI (k42 + 1))) (lv' := [(4, .int (nI (k42 + 1))), (0, .ref o), (1, .int (nI 0)), (2, .int (nI u)), (3, .int sum)]) hx hb dX8_lays_62 hl (k := 0) rfl (nI_1 _) (by decide) rfl (fun ls hl => ?_)
              refine lv_goto (tgt := 42) hx hb dX8_lays_65 (by decide) ?_
              exact ih_42 (k42 + 1) (upd gb42 k42 (fo k42)) (by omega) (by omega) _ _ _ V (lv_sub hl [0, 1, 2, 3, 4] rfl)
        exact L_12 _ 0 fp (by omega) (Nat.lt_succ_self _) _ _ _ V (lv_sub hl [0, 1, 2, 3, 4] rfl)
      · skip
        refine lv_iload_n hx hb dX8_lays_25 rfl (lv_at hl 3 rfl) ?_
        refine lv_aload_n hx hb dX8_lays_26 rfl (lv_at hl 0 rfl) ?_
        refine g_get hC V (ci := 8) uwX8 0 rfl rfl 30 (by decide) w_942 rfl rfl dX8_lays_27 ?_
        refine lv_icmp_lt (tgt := 34) hx hb dX8_lays_30 (by decide) (fun c_14 => ?_) (fun c_14 => ?_)
        · skip
          refine lv_aload_n hx hb dX8_lays_34 rfl (lv_at hl 0 rfl) ?_
          refine lv_iload_n hx hb dX8_lays_35 rfl (lv_at hl 3 rfl) ?_
          refine g_put hC V (ci := 8) uwX8 tyX8 tyX8_ok nmX8 0 rfl rfl 30 (by decide) w_942 rfl rfl rfl rfl (Nat.le_of_ble_eq_true rfl) (ws' := [(o, .inr (8, [.int w0, .ref g1, .ref g2, .ref g3, .ref g4, .int (nI tp), .int w6, .int w7, .int w8, .int w9, .int w10, .int w11, .int w12, .int w13, .int w14, .ref g15, .int w16, .ref g17, .int w18, .int w19, .ref g20, .int w21, .ref g22, .ref g23, .ref g24, .int w25, .int w26, .int w27, .ref g28, .ref g29, .int sum, .ref g31, .ref g32, .ref g33])), (g1, .inl (T 0, 282, .inl fa)), (g28, .inl (T 0, 7, .inl fo)), (g29, .inl (T 0, 7, .inl fp))]) rfl dX8_lays_36 (fun H locs V => ?_)
          refine lv_iconst (v := (nI 0)) hx hb dX8_lays_39 (by decide +kernel) ?_
          refine lv_istore (lv' := [(4, .int (nI 0)), (0, .ref o), (1, .int (nI 0)), (2, .int (nI u)), (3, .int sum)]) hx hb dX8_lays_40 hl (by decide) rfl (fun ls hl => ?_)
          have L_15 : ∀ (fu : Nat) (k42 : Nat) (gb42 : Nat → Int32), k42 ≤ 0 → 0 - k42 < fu → ∀ (H : Heap) (locs : List Loc) (ls : Array Slot), gW D T A s [(o, .inr (8, [.int w0, .ref g1, .ref g2, .ref g3, .ref g4, .int (nI tp), .int w6, .int w7, .int w8, .int w9, .int w10, .int w11, .int w12, .int w13, .int w14, .ref g15, .int w16, .ref g17, .int w18, .int w19, .ref g20, .int w21, .ref g22, .ref g23, .ref g24, .int w25, .int w26, .int w27, .ref g28, .ref g29, .int sum, .ref g31, .ref g32, .ref g33])), (g1, .inl (T 0, 282, .inl fa)), (g28, .inl (T 0, 7, .inl fo)), (g29, .inl (T 0, 7, .inl gb42))] H locs → lv_has ls 5 [(4, .int (nI k42)), (0, .ref o), (1, .int (nI 0)), (2, .int (nI u)), (3, .int sum)] → W p l e (rmD 9 0 0) s m args below meth c H locs 0 0 (MQ below (gQ D A (q_m_lays0 T n o u sum w0 g1 g2 g3 g4 tp w6 w7 w8 w9 w10 w11 w12 w13 w14 g15 w16 g17 w18 w19 g20 w21 g22 g23 g24 w25 w26 w27 g28 g29 w30 g31 g32 g33 fa fo fp)) args s 0 0 A) (F0 m 42 ls []) := by
            intro fu_42
            induction fu_42 with
            | zero => intro k42 gb42 hk42 hmu; exact absurd hmu (Nat.not_lt_zero _)
            | succ fu_42 ih_42 =>
              intro k42 gb42 hk42 hmu_42 H locs ls V hl
              refine lv_iload hx hb dX8_lays_42 (lv_at hl 0 rfl) ?_
              refine lv_iload_n hx hb dX8_lays_44 rfl (lv_at hl 2 rfl) ?_
              refine lv_icmp_ge (tgt := 68) hx hb dX8_lays_45 (by decide) (fun c_16 => ?_) (fun c_16 => ?_)
              · skip
                have c_16 := b_le (by omega) (by omega) c_16
                exact g_vret (Qr := (q_m_lays0 T n o u sum w0 g1 g2 g3 g4 tp w6 w7 w8 w9 w10 w11 w12 w13 w14 g15 w16 g17 w18 w19 g20 w21 g22 g23 g24 w25 w26 w27 g28 g29 w30 g31 g32 g33 fa fo fp)) hC V ⟨(Nat.le_of_ble_eq_true rfl), (Nat.le_of_ble_eq_true rfl)⟩ ⟨sum, fo, gb42, rfl, rfl, (fun _ _ => rfl)⟩ dX8_lays_68
              · skip
                have c_16 := b_nle (by omega) (by omega) c_16
                refine lv_aload_n hx hb dX8_lays_48 rfl (lv_at hl 1 rfl) ?_
                refine g_get hC V (ci := 8) uwX8 0 rfl rfl 29 (by decide) w_941 rfl rfl dX8_lays_49 ?_
                refine lv_iload hx hb dX8_lays_52 (lv_at hl 0 rfl) ?_
                refine lv_aload_n hx hb dX8_lays_54 rfl (lv_at hl 1 rfl) ?_
                refine g_get hC V (ci := 8) uwX8 0 rfl rfl 28 (by decide) w_940 rfl rfl dX8_lays_55 ?_
                refine lv_iload hx hb dX8_lays_58 (lv_at hl 0 rfl) ?_
                refine g_iald hC V 2 rfl (vp_in_nI (by omega) (by omega)) (v := (fo k42)) (congrArg _ (nI_clamp (by omega))) dX8_lays_60 ?_
                refine g_iast hC V 3 rfl (vp_in_nI (by omega) (by omega)) (f' := (upd gb42 k42 (fo k42))) (by rw [nI_clamp (by omega)]) (ws' := [(o, .inr (8, [.int w0, .ref g1, .ref g2, .ref g3, .ref g4, .int (nI tp), .int w6, .int w7, .int w8, .int w9, .int w10, .int w11, .int w12, .int w13, .int w14, .ref g15, .int w16, .ref g17, .int w18, .int w19, .ref g20, .int w21, .ref g22, .ref g23, .ref g24, .int w25, .int w26, .int w27, .ref g28, .ref g29, .int sum, .ref g31, .ref g32, .ref g33])), (g1, .inl (T 0, 282, .inl fa)), (g28, .inl (T 0, 7, .inl fo)), (g29, .inl (T 0, 7, .inl (upd gb42 k42 (fo k42))))]) rfl dX8_lays_61 (fun H locs V => ?_)
                refine lv_iinc (v := (nI (k42 + 1))) (lv' := [(4, .int (nI (k42 + 1))), (0, .ref o), (1, .int (nI 0)), (2, .int (nI u)), (3, .int sum)]) hx hb dX8_lays_62 hl (k := 0) rfl (nI_1 _) (by decide) rfl (fun ls hl => ?_)
                refine lv_goto (tgt := 42) hx hb dX8_lays_65 (by decide) ?_
                exact ih_42 (k42 + 1) (upd gb42 k42 (fo k42)) (by omega) (by omega) _ _ _ V (lv_sub hl [0, 1, 2, 3, 4] rfl)
          exact L_15 _ 0 fp (by omega) (Nat.lt_succ_self _) _ _ _ V (lv_sub hl [0, 1, 2, 3, 4] rfl)
        · skip
          exact g_vret (Qr := (q_m_lays0 T n o u sum w0 g1 g2 g3 g4 tp w6 w7 w8 w9 w10 w11 w12 w13 w14 g15 w16 g17 w18 w19 g20 w21 g22 g23 g24 w25 w26 w27 g28 g29 w30 g31 g32 g33 fa fo fp)) hC V ⟨(Nat.le_of_ble_eq_true rfl), (Nat.le_of_ble_eq_true rfl)⟩ ⟨w30, fo, fp, rfl, rfl, (fun _ _ => rfl)⟩ dX8_lays_33
    · have V : gW D T A s [(o, .inr (8, [.int w0, .ref g1, .ref g2, .ref g3, .ref g4, .int (nI tp), .int w6, .int w7, .int w8, .int w9, .int w10, .int w11, .int w12, .int w13, .int w14, .ref g15, .int w16, .ref g17, .int w18, .int w19, .ref g20, .int w21, .ref g22, .ref g23, .ref g24, .int w25, .int w26, .int w27, .ref g28, .ref g29, .int w30, .ref g31, .ref g32, .ref g33])), (g1, .inl (T 0, 282, .inl fa)), (g28, .inl (T 0, 7, .inl fo)), (g29, .inl (T 0, 7, .inl fp))] H locs := V _ [0, 0, 0] rfl rfl rfl (by decide +kernel) rfl
      show W p l e _ s m args below meth c H locs _ _ _ (F0 m 14 ls [.int (nI 0)])
      refine lv_if_eq (tgt := 33) hx hb dX8_lays_14 (by decide) (fun _ => ?_) (fun c => absurd (show (nI 0) = 0 by decide +kernel) c)
      exact g_vret (Qr := (q_m_lays0 T n o u sum w0 g1 g2 g3 g4 tp w6 w7 w8 w9 w10 w11 w12 w13 w14 g15 w16 g17 w18 w19 g20 w21 g22 g23 g24 w25 w26 w27 g28 g29 w30 g31 g32 g33 fa fo fp)) hC V ⟨(Nat.le_of_ble_eq_true rfl), (Nat.le_of_ble_eq_true rfl)⟩ ⟨w30, fo, fp, rfl, rfl, (fun _ _ => rfl)⟩ dX8_lays_33

def q_m_ropes (T : Nat → ClassId) (n : Nat) (o : Nat) (wh : Int32) (w0 : Int32) (g1 : Nat) (g2 : Nat) (g3 : Nat) (g4 : Nat) (tp : Nat) (w6 : Int32) (w7 : Int32) (w8 : Int32) (w9 : Int32) (w10 : Int32) (w11 : Int32) (w12 : Int32) (w13 : Int32) (w14 : Int32) (g15 : Nat) (w16 : Int32) (g17 : Nat) (w18 : Int32) (w19 : Int32) (g20 : Nat) (w21 : Int32) (g22 : Nat) (g23 : Nat) (g24 : Nat) (w25 : Int32) (w26 : Int32) (w27 : Int32) (g28 : Nat) (g29 : Nat) (w30 : Int32) (g31 : Nat) (g32 : Nat) (g33 : Nat) (fa : Nat → Int32) (fo : Nat → Int32) (fp : Nat → Int32) : Option Value → va_W → Prop := fun rr ww => (∃ (z : Int32) (bs : Int32) (go : Nat → Int32) (gp : Nat → Int32), rr = some (.int z) ∧ ww = [(o, .inr (8, [.int (nI 0), .ref g1, .ref g2, .ref g3, .ref g4, .int (nI tp), .int w6, .int w7, .int w8, .int w9, .int w10, .int w11, .int w12, .int w13, .int w14, .ref g15, .int w16, .ref g17, .int w18, .int w19, .ref g20, .int w21, .ref g22, .ref g23, .ref g24, .int w25, .int w26, .int w27, .ref g28, .ref g29, .int bs, .ref g31, .ref g32, .ref g33])), (g1, .inl (T 0, 282, .inl fa)), (g28, .inl (T 0, 7, .inl go)), (g29, .inl (T 0, 7, .inl gp))])
set_option maxHeartbeats 4000000 in
set_option maxRecDepth 100000 in
theorem m_ropes (l : Launch) (D : va_G) (T : Nat → ClassId) (n : Nat) (o : Nat) (wh : Int32) (w0 : Int32) (g1 : Nat) (g2 : Nat) (g3 : Nat) (g4 : Nat) (tp : Nat) (w6 : Int32) (w7 : Int32) (w8 : Int32) (w9 : Int32) (w10 : Int32) (w11 : Int32) (w12 : Int32) (w13 : Int32) (w14 : Int32) (g15 : Nat) (w16 : Int32) (g17 : Nat) (w18 : Int32) (w19 : Int32) (g20 : Nat) (w21 : Int32) (g22 : Nat) (g23 : Nat) (g24 : Nat) (w25 : Int32) (w26 : Int32) (w27 : Int32) (g28 : Nat) (g29 : Nat) (w30 : Int32) (g31 : Nat) (g32 : Nat) (g33 : Nat) (fa : Nat → Int32) (fo : Nat → Int32) (fp : Nat → Int32) (h_a : MI n fa) : Ct l yX8_ropes cX8_ropes 2 (some .int) 10 0 0 D T [.ref o, .int wh] [(o, .inr (8, [.int w0, .ref g1, .ref g2, .ref g3, .ref g4, .int (nI tp), .int w6, .int w7, .int w8, .int w9, .int w10, .int w11, .int w12, .int w13, .int w14, .ref g15, .int w16, .ref g17, .int w18, .int w19, .ref g20, .int w21, .ref g22, .ref g23, .ref g24, .int w25, .int w26, .int w27, .ref g28, .ref g29, .int w30, .ref g31, .ref g32, .ref g33])), (g1, .inl (T 0, 282, .inl fa)), (g28, .inl (T 0, 7, .inl fo)), (g29, .inl (T 0, 7, .inl fp))] (q_m_ropes T n o wh w0 g1 g2 g3 g4 tp w6 w7 w8 w9 w10 w11 w12 w13 w14 g15 w16 g17 w18 w19 g20 w21 g22 g23 g24 w25 w26 w27 g28 g29 w30 g31 g32 g33 fa fo fp) := by
  refine Ct.of (cc := cX8_ropes) (maxL := 2) (ret := (some .int)) (by decide) (Nat.le_of_ble_eq_true rfl) ?_
  intro p e s m args below meth c A ls hC hnm V hl
  obtain ⟨hx, hb, hr, hml, hown, hts, hlocks⟩ := id hC
  generalize hH : s.heap = H at V ⊢
  clear hH
  have hl : lv_has ls 2 [(0, .ref o), (1, .int wh)] := hl
  generalize hlo : ([] : List Loc) = locs at V ⊢
  clear hlo
  have ms0 := ms_rf h_a
  have hn10 := h_a.1
  refine lv_aload_n hx hb dX8_ropes_0 rfl (lv_at hl 0 rfl) ?_
  refine lv_iconst (v := (nI 0)) hx hb dX8_ropes_1 (by decide +kernel) ?_
  refine g_put hC V (ci := 8) uwX8 tyX8 tyX8_ok nmX8 0 rfl rfl 0 (by decide) w_912 rfl rfl rfl rfl (Nat.le_of_ble_eq_true rfl) (ws' := [(o, .inr (8, [.int (nI 0), .ref g1, .ref g2, .ref g3, .ref g4, .int (nI tp), .int w6, .int w7, .int w8, .int w9, .int w10, .int w11, .int w12, .int w13, .int w14, .ref g15, .int w16, .ref g17, .int w18, .int w19, .ref g20, .int w21, .ref g22, .ref g23, .ref g24, .int w25, .int w26, .int w27, .ref g28, .ref g29, .int w30, .ref g31, .ref g32, .ref g33])), (g1, .inl (T 0, 282, .inl fa)), (g28, .inl (T 0, 7, .inl fo)), (g29, .inl (T 0, 7, .inl fp))]) rfl dX8_ropes_2 (fun H locs V => ?_)
  refine lv_iload_n hx hb dX8_ropes_5 rfl (lv_at hl 1 rfl) ?_
  refine lv_if_eq (tgt := 33) hx hb dX8_ropes_6 (by decide) (fun c_1 => ?_) (fun c_1 => ?_)
  · skip
    refine lv_aload_n hx hb dX8_ropes_33 rfl (lv_at hl 0 rfl) ?_
    refine g_get hC V (ci := 8) uwX8 0 rfl rfl 1 (by decide) w_913 rfl rfl dX8_ropes_34 ?_
    refine lv_iconst (v := (nI 0)) hx hb dX8_ropes_37 (by decide +kernel) ?_
    refine g_iald hC V 1 rfl (vp_in_nI (by decide) (by decide)) (v := (nI n)) (by rw [nI_clamp (by decide)]; first | rfl | exact h_a.2.1) dX8_ropes_38 ?_
    refine lv_bipush (v := (nI 7)) hx hb dX8_ropes_39 (by decide +kernel) ?_
    refine lv_icmp_le (tgt := 47) hx hb dX8_ropes_41 (by decide) (fun c_2 => ?_) (fun c_2 => ?_)
    · skip
      have c_2 := b_le (by omega) (by omega) c_2
      refine lv_aload_n hx hb dX8_ropes_47 rfl (lv_at hl 0 rfl) ?_
      refine g_get hC V (ci := 8) uwX8 0 rfl rfl 1 (by decide) w_913 rfl rfl dX8_ropes_48 ?_
      refine lv_iconst (v := (nI 0)) hx hb dX8_ropes_51 (by decide +kernel) ?_
      refine g_iald hC V 1 rfl (vp_in_nI (by decide) (by decide)) (v := (nI n)) (by rw [nI_clamp (by decide)]; first | rfl | exact h_a.2.1) dX8_ropes_52 ?_
      refine lv_if_ne (tgt := 59) hx hb dX8_ropes_53 (by decide) (fun c_3 => ?_) (fun c_3 => ?_)
      · skip
        rw [show (0 : Int32) = nI 0 from rfl] at c_3
        have c_3 := b_ne (by omega) (by omega) c_3
        refine lv_aload_n hx hb dX8_ropes_59 rfl (lv_at hl 0 rfl) ?_
        refine lv_iconst (v := (-1)) hx hb dX8_ropes_60 (by decide +kernel) ?_
        refine g_put hC V (ci := 8) uwX8 tyX8 tyX8_ok nmX8 0 rfl rfl 30 (by decide) w_942 rfl rfl rfl rfl (Nat.le_of_ble_eq_true rfl) (ws' := [(o, .inr (8, [.int (nI 0), .ref g1, .ref g2, .ref g3, .ref g4, .int (nI tp), .int w6, .int w7, .int w8, .int w9, .int w10, .int w11, .int w12, .int w13, .int w14, .ref g15, .int w16, .ref g17, .int w18, .int w19, .ref g20, .int w21, .ref g22, .ref g23, .ref g24, .int w25, .int w26, .int w27, .ref g28, .ref g29, .int (-1), .ref g31, .ref g32, .ref g33])), (g1, .inl (T 0, 282, .inl fa)), (g28, .inl (T 0, 7, .inl fo)), (g29, .inl (T 0, 7, .inl fp))]) rfl dX8_ropes_61 (fun H locs V => ?_)
        refine lv_aload_n hx hb dX8_ropes_64 rfl (lv_at hl 0 rfl) ?_
        refine lv_iconst (v := (nI 0)) hx hb dX8_ropes_65 (by decide +kernel) ?_
        refine lv_iconst (v := (nI 0)) hx hb dX8_ropes_66 (by decide +kernel) ?_
        refine lv_iconst (v := (nI 0)) hx hb dX8_ropes_67 (by decide +kernel) ?_
        refine g_callV (wr := []) (nA := 3) hC V hl.1 (m_lays0 l D T n o 0 (nI 0) (nI 0) g1 g2 g3 g4 tp w6 w7 w8 w9 w10 w11 w12 w13 w14 g15 w16 g17 w18 w19 g20 w21 g22 g23 g24 w25 w26 w27 g28 g29 (-1) g31 g32 g33 fa fo fp h_a (li_0 _) (fun j h => absurd h (Nat.not_lt_zero _)) (ub_0 _) (by omega) (by omega) (by omega)) w_1320 w_1322 w_s75 w_9 w_1323 (by decide +kernel) rfl ⟨(Nat.le_of_ble_eq_true rfl), (Nat.le_of_ble_eq_true rfl)⟩ 0 (ci := 8) rfl rfl [0, 1, 2, 3] [] rfl rfl rfl rfl (by decide) (Nat.le_of_ble_eq_true rfl) dX8_ropes_68 ⟨(Nat.le_of_ble_eq_true rfl), (Nat.le_of_ble_eq_true rfl)⟩ rfl (fun r w1 H locs hQ V => ?_)
        obtain ⟨bs_4, go_5, gp_6, rfl, rfl, f_7⟩ := hQ
        have V : gW D T A s [(o, .inr (8, [.int (nI 0), .ref g1, .ref g2, .ref g3, .ref g4, .int (nI tp), .int w6, .int w7, .int w8, .int w9, .int w10, .int w11, .int w12, .int w13, .int w14, .ref g15, .int w16, .ref g17, .int w18, .int w19, .ref g20, .int w21, .ref g22, .ref g23, .ref g24, .int w25, .int w26, .int w27, .ref g28, .ref g29, .int bs_4, .ref g31, .ref g32, .ref g33])), (g1, .inl (T 0, 282, .inl fa)), (g28, .inl (T 0, 7, .inl go_5)), (g29, .inl (T 0, 7, .inl gp_6))] H locs := V
        show W p l e _ s m args below meth c H locs _ _ _ (F0 m 71 ls [])
        refine lv_iload_n hx hb dX8_ropes_71 rfl (lv_at hl 1 rfl) ?_
        refine lv_if_ne (tgt := 82) hx hb dX8_ropes_72 (by decide) (fun c_8 => ?_) (fun c_8 => ?_)
        · skip
          refine lv_aload_n hx hb dX8_ropes_82 rfl (lv_at hl 0 rfl) ?_
          refine g_get hC V (ci := 8) uwX8 0 rfl rfl 29 (by decide) w_941 rfl rfl dX8_ropes_83 ?_
          refine lv_iload_n hx hb dX8_ropes_86 rfl (lv_at hl 1 rfl) ?_
          refine lv_bipush (v := (nI 10)) hx hb dX8_ropes_87 (by decide +kernel) ?_
          refine lv_isub hx hb dX8_ropes_89 ?_
          exact absurd (by assumption) ‹¬ wh = 0›
        · skip
          refine lv_aload_n hx hb dX8_ropes_75 rfl (lv_at hl 0 rfl) ?_
          refine g_get hC V (ci := 8) uwX8 0 rfl rfl 30 (by decide) w_942 rfl rfl dX8_ropes_76 ?_
          refine lv_goto (tgt := 91) hx hb dX8_ropes_79 (by decide) ?_
          exact g_iret (Qr := (q_m_ropes T n o wh w0 g1 g2 g3 g4 tp w6 w7 w8 w9 w10 w11 w12 w13 w14 g15 w16 g17 w18 w19 g20 w21 g22 g23 g24 w25 w26 w27 g28 g29 w30 g31 g32 g33 fa fo fp)) hC V ⟨(Nat.le_of_ble_eq_true rfl), (Nat.le_of_ble_eq_true rfl)⟩ ⟨bs_4, bs_4, go_5, gp_6, rfl, rfl⟩ dX8_ropes_91
      · skip
        rw [show (0 : Int32) = nI 0 from rfl] at c_3
        have c_3 := b_eq (by omega) (by omega) c_3
        refine lv_bipush (v := (-5)) hx hb dX8_ropes_56 (by decide +kernel) ?_
        exact g_iret (Qr := (q_m_ropes T n o wh w0 g1 g2 g3 g4 tp w6 w7 w8 w9 w10 w11 w12 w13 w14 g15 w16 g17 w18 w19 g20 w21 g22 g23 g24 w25 w26 w27 g28 g29 w30 g31 g32 g33 fa fo fp)) hC V ⟨(Nat.le_of_ble_eq_true rfl), (Nat.le_of_ble_eq_true rfl)⟩ ⟨(-5), w30, fo, fp, rfl, rfl⟩ dX8_ropes_58
    · skip
      have c_2 := b_nle (by omega) (by omega) c_2
      refine lv_bipush (v := (-4)) hx hb dX8_ropes_44 (by decide +kernel) ?_
      exact g_iret (Qr := (q_m_ropes T n o wh w0 g1 g2 g3 g4 tp w6 w7 w8 w9 w10 w11 w12 w13 w14 g15 w16 g17 w18 w19 g20 w21 g22 g23 g24 w25 w26 w27 g28 g29 w30 g31 g32 g33 fa fo fp)) hC V ⟨(Nat.le_of_ble_eq_true rfl), (Nat.le_of_ble_eq_true rfl)⟩ ⟨(-4), w30, fo, fp, rfl, rfl⟩ dX8_ropes_46
  · skip
    refine lv_iload_n hx hb dX8_ropes_9 rfl (lv_at hl 1 rfl) ?_
    refine lv_i2l (v := wh.toInt64) hx hb dX8_ropes_10 rfl ?_
    refine lv_ldc2 (v := (10)) hx hb hown (hts _ w_1257) dX8_ropes_11 ?_
    refine g_vl (y := (nI 10).toInt64) (by decide +kernel) ?_
    refine lv_bipush (v := (nI 9)) hx hb dX8_ropes_14 (by decide +kernel) ?_
    refine lv_aload_n hx hb dX8_ropes_16 rfl (lv_at hl 0 rfl) ?_
    refine g_get hC V (ci := 8) uwX8 0 rfl rfl 1 (by decide) w_913 rfl rfl dX8_ropes_17 ?_
    refine lv_iconst (v := (nI 0)) hx hb dX8_ropes_20 (by decide +kernel) ?_
    refine g_iald hC V 1 rfl (vp_in_nI (by decide) (by decide)) (v := (nI n)) (by rw [nI_clamp (by decide)]; first | rfl | exact h_a.2.1) dX8_ropes_21 ?_
    refine lv_iadd hx hb dX8_ropes_22 ?_
    refine g_vi (y := (nI (9 + n))) (nI_add _ _) ?_
    refine lv_i2l (v := (nI (9 + n)).toInt64) hx hb dX8_ropes_23 rfl ?_
    refine g_callSU (nA := 3) hC V hl.1 (m_within l D T wh (nI 10) (nI (9 + n))) w_1023 w_1024 w_9 w_1025 (by decide +kernel) rfl ⟨(Nat.le_of_ble_eq_true rfl), (Nat.le_of_ble_eq_true rfl)⟩ [] rfl rfl (Nat.le_of_ble_eq_true rfl) dX8_ropes_24 ⟨(Nat.le_of_ble_eq_true rfl), (Nat.le_of_ble_eq_true rfl)⟩ rfl (fun r w1 H locs hQ V => ?_)
    rcases hQ with ⟨rfl, rfl, f_9, f_10⟩ | ⟨rfl, rfl, f_11⟩
    · have V : gW D T A s [(o, .inr (8, [.int (nI 0), .ref g1, .ref g2, .ref g3, .ref g4, .int (nI tp), .int w6, .int w7, .int w8, .int w9, .int w10, .int w11, .int w12, .int w13, .int w14, .ref g15, .int w16, .ref g17, .int w18, .int w19, .ref g20, .int w21, .ref g22, .ref g23, .ref g24, .int w25, .int w26, .int w27, .ref g28, .ref g29, .int w30, .ref g31, .ref g32, .ref g33])), (g1, .inl (T 0, 282, .inl fa)), (g28, .inl (T 0, 7, .inl fo)), (g29, .inl (T 0, 7, .inl fp))] H locs := V _ [] rfl rfl rfl (by decide +kernel) rfl
      show W p l e _ s m args below meth c H locs _ _ _ (F0 m 27 ls [.int (nI 1)])
      obtain ⟨jw_12, hjw_12, ejw_12⟩ := w_ten hn10 f_9 f_10
      refine lv_if_ne (tgt := 33) hx hb dX8_ropes_27 (by decide) (fun _ => ?_) (fun c => absurd (show (nI 1) = 0 from c) (by decide +kernel))
      refine lv_aload_n hx hb dX8_ropes_33 rfl (lv_at hl 0 rfl) ?_
      refine g_get hC V (ci := 8) uwX8 0 rfl rfl 1 (by decide) w_913 rfl rfl dX8_ropes_34 ?_
      refine lv_iconst (v := (nI 0)) hx hb dX8_ropes_37 (by decide +kernel) ?_
      refine g_iald hC V 1 rfl (vp_in_nI (by decide) (by decide)) (v := (nI n)) (by rw [nI_clamp (by decide)]; first | rfl | exact h_a.2.1) dX8_ropes_38 ?_
      refine lv_bipush (v := (nI 7)) hx hb dX8_ropes_39 (by decide +kernel) ?_
      refine lv_icmp_le (tgt := 47) hx hb dX8_ropes_41 (by decide) (fun c_13 => ?_) (fun c_13 => ?_)
      · skip
        have c_13 := b_le (by omega) (by omega) c_13
        refine lv_aload_n hx hb dX8_ropes_47 rfl (lv_at hl 0 rfl) ?_
        refine g_get hC V (ci := 8) uwX8 0 rfl rfl 1 (by decide) w_913 rfl rfl dX8_ropes_48 ?_
        refine lv_iconst (v := (nI 0)) hx hb dX8_ropes_51 (by decide +kernel) ?_
        refine g_iald hC V 1 rfl (vp_in_nI (by decide) (by decide)) (v := (nI n)) (by rw [nI_clamp (by decide)]; first | rfl | exact h_a.2.1) dX8_ropes_52 ?_
        refine lv_if_ne (tgt := 59) hx hb dX8_ropes_53 (by decide) (fun c_14 => ?_) (fun c_14 => ?_)
        · skip
          rw [show (0 : Int32) = nI 0 from rfl] at c_14
          have c_14 := b_ne (by omega) (by omega) c_14
          refine lv_aload_n hx hb dX8_ropes_59 rfl (lv_at hl 0 rfl) ?_
          refine lv_iconst (v := (-1)) hx hb dX8_ropes_60 (by decide +kernel) ?_
          refine g_put hC V (ci := 8) uwX8 tyX8 tyX8_ok nmX8 0 rfl rfl 30 (by decide) w_942 rfl rfl rfl rfl (Nat.le_of_ble_eq_true rfl) (ws' := [(o, .inr (8, [.int (nI 0), .ref g1, .ref g2, .ref g3, .ref g4, .int (nI tp), .int w6, .int w7, .int w8, .int w9, .int w10, .int w11, .int w12, .int w13, .int w14, .ref g15, .int w16, .ref g17, .int w18, .int w19, .ref g20, .int w21, .ref g22, .ref g23, .ref g24, .int w25, .int w26, .int w27, .ref g28, .ref g29, .int (-1), .ref g31, .ref g32, .ref g33])), (g1, .inl (T 0, 282, .inl fa)), (g28, .inl (T 0, 7, .inl fo)), (g29, .inl (T 0, 7, .inl fp))]) rfl dX8_ropes_61 (fun H locs V => ?_)
          refine lv_aload_n hx hb dX8_ropes_64 rfl (lv_at hl 0 rfl) ?_
          refine lv_iconst (v := (nI 0)) hx hb dX8_ropes_65 (by decide +kernel) ?_
          refine lv_iconst (v := (nI 0)) hx hb dX8_ropes_66 (by decide +kernel) ?_
          refine lv_iconst (v := (nI 0)) hx hb dX8_ropes_67 (by decide +kernel) ?_
          refine g_callV (wr := []) (nA := 3) hC V hl.1 (m_lays0 l D T n o 0 (nI 0) (nI 0) g1 g2 g3 g4 tp w6 w7 w8 w9 w10 w11 w12 w13 w14 g15 w16 g17 w18 w19 g20 w21 g22 g23 g24 w25 w26 w27 g28 g29 (-1) g31 g32 g33 fa fo fp h_a (li_0 _) (fun j h => absurd h (Nat.not_lt_zero _)) (ub_0 _) (by omega) (by omega) (by omega)) w_1320 w_1322 w_s75 w_9 w_1323 (by decide +kernel) rfl ⟨(Nat.le_of_ble_eq_true rfl), (Nat.le_of_ble_eq_true rfl)⟩ 0 (ci := 8) rfl rfl [0, 1, 2, 3] [] rfl rfl rfl rfl (by decide) (Nat.le_of_ble_eq_true rfl) dX8_ropes_68 ⟨(Nat.le_of_ble_eq_true rfl), (Nat.le_of_ble_eq_true rfl)⟩ rfl (fun r w1 H locs hQ V => ?_)
          obtain ⟨bs_15, go_16, gp_17, rfl, rfl, f_18⟩ := hQ
          have V : gW D T A s [(o, .inr (8, [.int (nI 0), .ref g1, .ref g2, .ref g3, .ref g4, .int (nI tp), .int w6, .int w7, .int w8, .int w9, .int w10, .int w11, .int w12, .int w13, .int w14, .ref g15, .int w16, .ref g17, .int w18, .int w19, .ref g20, .int w21, .ref g22, .ref g23, .ref g24, .int w25, .int w26, .int w27, .ref g28, .ref g29, .int bs_15, .ref g31, .ref g32, .ref g33])), (g1, .inl (T 0, 282, .inl fa)), (g28, .inl (T 0, 7, .inl go_16)), (g29, .inl (T 0, 7, .inl gp_17))] H locs := V
          show W p l e _ s m args below meth c H locs _ _ _ (F0 m 71 ls [])
          refine lv_iload_n hx hb dX8_ropes_71 rfl (lv_at hl 1 rfl) ?_
          refine lv_if_ne (tgt := 82) hx hb dX8_ropes_72 (by decide) (fun c_19 => ?_) (fun c_19 => ?_)
          · skip
            refine lv_aload_n hx hb dX8_ropes_82 rfl (lv_at hl 0 rfl) ?_
            refine g_get hC V (ci := 8) uwX8 0 rfl rfl 29 (by decide) w_941 rfl rfl dX8_ropes_83 ?_
            refine lv_iload_n hx hb dX8_ropes_86 rfl (lv_at hl 1 rfl) ?_
            refine lv_bipush (v := (nI 10)) hx hb dX8_ropes_87 (by decide +kernel) ?_
            refine lv_isub hx hb dX8_ropes_89 ?_
            refine g_vi (y := nI jw_12) ejw_12 ?_
            refine g_iald hC V 3 rfl (vp_in_nI (by omega) (by omega)) (v := (gp_17 jw_12)) (congrArg _ (nI_clamp (by omega))) dX8_ropes_90 ?_
            exact g_iret (Qr := (q_m_ropes T n o wh w0 g1 g2 g3 g4 tp w6 w7 w8 w9 w10 w11 w12 w13 w14 g15 w16 g17 w18 w19 g20 w21 g22 g23 g24 w25 w26 w27 g28 g29 w30 g31 g32 g33 fa fo fp)) hC V ⟨(Nat.le_of_ble_eq_true rfl), (Nat.le_of_ble_eq_true rfl)⟩ ⟨(gp_17 jw_12), bs_15, go_16, gp_17, rfl, rfl⟩ dX8_ropes_91
          · skip
            refine lv_aload_n hx hb dX8_ropes_75 rfl (lv_at hl 0 rfl) ?_
            refine g_get hC V (ci := 8) uwX8 0 rfl rfl 30 (by decide) w_942 rfl rfl dX8_ropes_76 ?_
            refine lv_goto (tgt := 91) hx hb dX8_ropes_79 (by decide) ?_
            exact g_iret (Qr := (q_m_ropes T n o wh w0 g1 g2 g3 g4 tp w6 w7 w8 w9 w10 w11 w12 w13 w14 g15 w16 g17 w18 w19 g20 w21 g22 g23 g24 w25 w26 w27 g28 g29 w30 g31 g32 g33 fa fo fp)) hC V ⟨(Nat.le_of_ble_eq_true rfl), (Nat.le_of_ble_eq_true rfl)⟩ ⟨bs_15, bs_15, go_16, gp_17, rfl, rfl⟩ dX8_ropes_91
        · skip
          rw [show (0 : Int32) = nI 0 from rfl] at c_14
          have c_14 := b_eq (by omega) (by omega) c_14
          refine lv_bipush (v := (-5)) hx hb dX8_ropes_56 (by decide +kernel) ?_
          exact g_iret (Qr := (q_m_ropes T n o wh w0 g1 g2 g3 g4 tp w6 w7 w8 w9 w10 w11 w12 w13 w14 g15 w16 g17 w18 w19 g20 w21 g22 g23 g24 w25 w26 w27 g28 g29 w30 g31 g32 g33 fa fo fp)) hC V ⟨(Nat.le_of_ble_eq_true rfl), (Nat.le_of_ble_eq_true rfl)⟩ ⟨(-5), w30, fo, fp, rfl, rfl⟩ dX8_ropes_58
      · skip
        have c_13 := b_nle (by omega) (by omega) c_13
        refine lv_bipush (v := (-4)) hx hb dX8_ropes_44 (by decide +kernel) ?_
        exact g_iret (Qr := (q_m_ropes T n o wh w0 g1 g2 g3 g4 tp w6 w7 w8 w9 w10 w11 w12 w13 w14 g15 w16 g17 w18 w19 g20 w21 g22 g23 g24 w25 w26 w27 g28 g29 w30 g31 g32 g33 fa fo fp)) hC V ⟨(Nat.le_of_ble_eq_true rfl), (Nat.le_of_ble_eq_true rfl)⟩ ⟨(-4), w30, fo, fp, rfl, rfl⟩ dX8_ropes_46
    · have V : gW D T A s [(o, .inr (8, [.int (nI 0), .ref g1, .ref g2, .ref g3, .ref g4, .int (nI tp), .int w6, .int w7, .int w8, .int w9, .int w10, .int w11, .int w12, .int w13, .int w14, .ref g15, .int w16, .ref g17, .int w18, .int w19, .ref g20, .int w21, .ref g22, .ref g23, .ref g24, .int w25, .int w26, .int w27, .ref g28, .ref g29, .int w30, .ref g31, .ref g32, .ref g33])), (g1, .inl (T 0, 282, .inl fa)), (g28, .inl (T 0, 7, .inl fo)), (g29, .inl (T 0, 7, .inl fp))] H locs := V _ [] rfl rfl rfl (by decide +kernel) rfl
      show W p l e _ s m args below meth c H locs _ _ _ (F0 m 27 ls [.int (nI 0)])
      refine lv_if_ne (tgt := 33) hx hb dX8_ropes_27 (by decide) (fun c => absurd (show (nI 0) = 0 by decide +kernel) c) (fun _ => ?_)
      refine lv_bipush (v := (-2)) hx hb dX8_ropes_30 (by decide +kernel) ?_
      exact g_iret (Qr := (q_m_ropes T n o wh w0 g1 g2 g3 g4 tp w6 w7 w8 w9 w10 w11 w12 w13 w14 g15 w16 g17 w18 w19 g20 w21 g22 g23 g24 w25 w26 w27 g28 g29 w30 g31 g32 g33 fa fo fp)) hC V ⟨(Nat.le_of_ble_eq_true rfl), (Nat.le_of_ble_eq_true rfl)⟩ ⟨(-2), w30, fo, fp, rfl, rfl⟩ dX8_ropes_32

def q_m_see (T : Nat → ClassId) (o : Nat) (k : Nat) (w0 : Int32) (g1 : Nat) (g2 : Nat) (g3 : Nat) (g4 : Nat) (tp : Nat) (w6 : Int32) (w7 : Int32) (sz : Nat) (w9 : Int32) (w10 : Int32) (w11 : Int32) (w12 : Int32) (w13 : Int32) (w14 : Int32) (g15 : Nat) (w16 : Int32) (g17 : Nat) (w18 : Int32) (w19 : Int32) (g20 : Nat) (w21 : Int32) (g22 : Nat) (g23 : Nat) (g24 : Nat) (w25 : Int32) (w26 : Int32) (w27 : Int32) (g28 : Nat) (g29 : Nat) (w30 : Int32) (g31 : Nat) (g32 : Nat) (g33 : Nat) (ft : Nat → Int32) : Option Value → va_W → Prop := fun rr ww => (rr = some (.int (-1)) ∧ ww = [(o, .inr (8, [.int w0, .ref g1, .ref g2, .ref g3, .ref g4, .int (nI tp), .int w6, .int w7, .int (nI sz), .int w9, .int w10, .int w11, .int w12, .int w13, .int w14, .ref g15, .int w16, .ref g17, .int w18, .int w19, .ref g20, .int w21, .ref g22, .ref g23, .ref g24, .int w25, .int w26, .int w27, .ref g28, .ref g29, .int w30, .ref g31, .ref g32, .ref g33])), (g3, .inl (T 0, 900, .inl ft))] ∧ sz ≤ k) ∨ (∃ (z : Int32), rr = some (.int z) ∧ ww = [(o, .inr (8, [.int w0, .ref g1, .ref g2, .ref g3, .ref g4, .int (nI tp), .int w6, .int w7, .int (nI sz), .int w9, .int w10, .int w11, .int w12, .int w13, .int w14, .ref g15, .int w16, .ref g17, .int w18, .int w19, .ref g20, .int w21, .ref g22, .ref g23, .ref g24, .int w25, .int w26, .int w27, .ref g28, .ref g29, .int w30, .ref g31, .ref g32, .ref g33])), (g3, .inl (T 0, 900, .inl ft))] ∧ k < sz ∧ z = ft k)
set_option maxHeartbeats 4000000 in
set_option maxRecDepth 100000 in
theorem m_see (l : Launch) (D : va_G) (T : Nat → ClassId) (o : Nat) (k : Nat) (w0 : Int32) (g1 : Nat) (g2 : Nat) (g3 : Nat) (g4 : Nat) (tp : Nat) (w6 : Int32) (w7 : Int32) (sz : Nat) (w9 : Int32) (w10 : Int32) (w11 : Int32) (w12 : Int32) (w13 : Int32) (w14 : Int32) (g15 : Nat) (w16 : Int32) (g17 : Nat) (w18 : Int32) (w19 : Int32) (g20 : Nat) (w21 : Int32) (g22 : Nat) (g23 : Nat) (g24 : Nat) (w25 : Int32) (w26 : Int32) (w27 : Int32) (g28 : Nat) (g29 : Nat) (w30 : Int32) (g31 : Nat) (g32 : Nat) (g33 : Nat) (ft : Nat → Int32) (h_sz : sz ≤ 900) (h_k : k ≤ 900) : Ct l yX8_see cX8_see 2 (some .int) 0 0 0 D T [.ref o, .int (nI k)] [(o, .inr (8, [.int w0, .ref g1, .ref g2, .ref g3, .ref g4, .int (nI tp), .int w6, .int w7, .int (nI sz), .int w9, .int w10, .int w11, .int w12, .int w13, .int w14, .ref g15, .int w16, .ref g17, .int w18, .int w19, .ref g20, .int w21, .ref g22, .ref g23, .ref g24, .int w25, .int w26, .int w27, .ref g28, .ref g29, .int w30, .ref g31, .ref g32, .ref g33])), (g3, .inl (T 0, 900, .inl ft))] (q_m_see T o k w0 g1 g2 g3 g4 tp w6 w7 sz w9 w10 w11 w12 w13 w14 g15 w16 g17 w18 w19 g20 w21 g22 g23 g24 w25 w26 w27 g28 g29 w30 g31 g32 g33 ft) := by
  refine Ct.of (cc := cX8_see) (maxL := 2) (ret := (some .int)) (by decide) (Nat.le_of_ble_eq_true rfl) ?_
  intro p e s m args below meth c A ls hC hnm V hl
  obtain ⟨hx, hb, hr, hml, hown, hts, hlocks⟩ := id hC
  generalize hH : s.heap = H at V ⊢
  clear hH
  have hl : lv_has ls 2 [(0, .ref o), (1, .int (nI k))] := hl
  generalize hlo : ([] : List Loc) = locs at V ⊢
  clear hlo
  refine lv_iload_n hx hb dX8_see_0 rfl (lv_at hl 1 rfl) ?_
  refine lv_aload_n hx hb dX8_see_1 rfl (lv_at hl 0 rfl) ?_
  refine g_get hC V (ci := 8) uwX8 0 rfl rfl 8 (by decide) w_920 rfl rfl dX8_see_2 ?_
  refine lv_icmp_ge (tgt := 17) hx hb dX8_see_5 (by decide) (fun c_1 => ?_) (fun c_1 => ?_)
  · skip
    have c_1 := b_le (by omega) (by omega) c_1
    refine lv_iconst (v := (-1)) hx hb dX8_see_17 (by decide +kernel) ?_
    exact g_iret (Qr := (q_m_see T o k w0 g1 g2 g3 g4 tp w6 w7 sz w9 w10 w11 w12 w13 w14 g15 w16 g17 w18 w19 g20 w21 g22 g23 g24 w25 w26 w27 g28 g29 w30 g31 g32 g33 ft)) hC V ⟨(Nat.le_of_ble_eq_true rfl), (Nat.le_of_ble_eq_true rfl)⟩ (.inl ⟨rfl, rfl, (by first | assumption | omega)⟩) dX8_see_18
  · skip
    have c_1 := b_nle (by omega) (by omega) c_1
    refine lv_aload_n hx hb dX8_see_8 rfl (lv_at hl 0 rfl) ?_
    refine g_get hC V (ci := 8) uwX8 0 rfl rfl 3 (by decide) w_915 rfl rfl dX8_see_9 ?_
    refine lv_iload_n hx hb dX8_see_12 rfl (lv_at hl 1 rfl) ?_
    refine g_iald hC V 1 rfl (vp_in_nI (by omega) (by omega)) (v := (ft k)) (congrArg _ (nI_clamp (by omega))) dX8_see_13 ?_
    refine lv_goto (tgt := 18) hx hb dX8_see_14 (by decide) ?_
    exact g_iret (Qr := (q_m_see T o k w0 g1 g2 g3 g4 tp w6 w7 sz w9 w10 w11 w12 w13 w14 g15 w16 g17 w18 w19 g20 w21 g22 g23 g24 w25 w26 w27 g28 g29 w30 g31 g32 g33 ft)) hC V ⟨(Nat.le_of_ble_eq_true rfl), (Nat.le_of_ble_eq_true rfl)⟩ (.inr ⟨(ft k), rfl, rfl, (by omega), rfl⟩) dX8_see_18

/-- what holds of the street that is being read -/
def FR (n : Nat) (f : Nat → Int32) : Prop := n ≤ 10 ∧ f 0 = nI n ∧ bd (f 2) 21 ∧ (∀ i, i < n → bd (f (14 + i)) 31 ∧ bd (f (24 + i)) 256 ∧ bd (f (54 + i)) 21 ∧ bd (f (4 + i)) 61) ∧ (∀ i, i < 10 → f (64 + i) = nI 0) ∧ ∀ i, i < 10 → bd (f (84 + i)) (n + 1)
theorem fr_new {f : Nat → Int32} (h : ∀ j, j < 94 → f j = if j = 2 then nI 20 else nI 0) : FR 0 f := by
  refine ⟨by decide, by rw [h 0 (by decide)]; rfl, by rw [h 2 (by decide)]; exact bd_nI (by decide), fun i hi => absurd hi (Nat.not_lt_zero _), fun i hi => by rw [h _ (by omega), if_neg (by omega)], fun i hi => by rw [h _ (by omega), if_neg (by omega)]; exact bd_nI (by decide)⟩
theorem fr_lost {n : Nat} {f : Nat → Int32} {x : Int32} (h : FR n f) (hx : bd x 21) : FR n (upd f 2 x) := by
  obtain ⟨a1, a2, a3, a4, a5, a6⟩ := h
  refine ⟨a1, by rw [up_other (by decide)]; exact a2, by rw [up_same]; exact hx, fun i hi => ?_, fun i hi => by rw [up_other (by omega)]; exact a5 i hi, fun i hi => by rw [up_other (by omega)]; exact a6 i hi⟩
  rw [up_other (by omega), up_other (by omega), up_other (by omega), up_other (by omega)]
  exact a4 i hi
theorem fr_line {n : Nat} {f : Nat → Int32} {x : Int32} (h : FR n f) : FR n (upd f 3 x) := by
  obtain ⟨a1, a2, a3, a4, a5, a6⟩ := h
  refine ⟨a1, by rw [up_other (by decide)]; exact a2, by rw [up_other (by decide)]; exact a3, fun i hi => ?_, fun i hi => by rw [up_other (by omega)]; exact a5 i hi, fun i hi => by rw [up_other (by omega)]; exact a6 i hi⟩
  rw [up_other (by omega), up_other (by omega), up_other (by omega), up_other (by omega)]
  exact a4 i hi
theorem fr_blow {n k : Nat} {f : Nat → Int32} {x : Int32} (h : FR n f) (hk : k < 10) (hx : bd x (n + 1)) : FR n (upd f (84 + k) x) := by
  obtain ⟨a1, a2, a3, a4, a5, a6⟩ := h
  refine ⟨a1, by rw [up_other (by omega)]; exact a2, by rw [up_other (by omega)]; exact a3, fun i hi => ?_, fun i hi => by rw [up_other (by omega)]; exact a5 i hi, fun i hi => ?_⟩
  · rw [up_other (by omega), up_other (by omega), up_other (by omega), up_other (by omega)]
    exact a4 i hi
  · by_cases e : i = k
    · subst e; rw [up_same]; exact hx
    · rw [up_other (by omega)]; exact a6 i hi
theorem fr_add {n : Nat} {f g : Nat → Int32} (h : FR n f) (hn : n < 10) (h0 : g 0 = nI (n + 1)) (h2 : g 2 = f 2) (hs : ∀ j, (∀ b, b = 0 ∨ b = 4 + n ∨ b = 14 + n ∨ b = 24 + n ∨ b = 34 + n ∨ b = 44 + n ∨ b = 54 + n → j ≠ b) → g j = f j) (b4 : bd (g (4 + n)) 61) (b14 : bd (g (14 + n)) 31) (b24 : bd (g (24 + n)) 256) (b54 : bd (g (54 + n)) 21) : FR (n + 1) g := by
  obtain ⟨a1, a2, a3, a4, a5, a6⟩ := h
  refine ⟨by omega, h0, by rw [h2]; exact a3, fun i hi => ?_, fun i hi => by rw [hs _ (by intros; omega)]; exact a5 i hi, fun i hi => by rw [hs _ (by intros; omega)]; exact bd_le (a6 i hi) (by omega)⟩
  by_cases e : i = n
  · subst e; exact ⟨b14, b24, b54, b4⟩
  · rw [hs (14 + i) (by intros; omega), hs (24 + i) (by intros; omega), hs (54 + i) (by intros; omega), hs (4 + i) (by intros; omega)]
    exact a4 i (by omega)
theorem rg_bd {x : Int32} {b : Nat} (h : ¬ x < nI 0 ∧ ¬ nI b < x) (hb : b < 1000) : bd x (b + 1) := by
  obtain ⟨j, h1, h2, e⟩ := g_rng (by decide) (by omega) h.1 h.2
  exact ⟨j, by omega, e⟩
theorem rg_or {x : Int32} {b c : Nat} (h : (¬ x < nI 0 ∧ ¬ nI b < x) ∨ x = nI c) (hb : b < 1000) (hc : c ≤ b) : bd x (b + 1) := by
  rcases h with h | h
  · exact rg_bd h hb
  · rw [h]; exact bd_nI (by omega)

theorem fr_smith {n : Nat} {f : Nat → Int32} {x4 x14 x24 x34 x44 x54 : Int32} (h : FR n f) (hn : n < 10) (b4 : bd x4 61) (b14 : bd x14 31) (b24 : bd x24 256) (b54 : bd x54 21) :
    FR (n + 1) (upd (upd (upd (upd (upd (upd (upd f (4 + n) x4) (14 + n) x14) (24 + n) x24) (34 + n) x34) (44 + n) x44) (54 + n) x54) 0 (nI (n + 1))) := by
  refine fr_add h hn up_same ?_ ?_ ?_ ?_ ?_ ?_
  · rw [up_other (by omega), up_other (by omega), up_other (by omega), up_other (by omega), up_other (by omega), up_other (by omega), up_other (by omega)]
  · intro j hj
    rw [up_other (hj 0 (by omega)), up_other (hj (54 + n) (by omega)), up_other (hj (44 + n) (by omega)), up_other (hj (34 + n) (by omega)), up_other (hj (24 + n) (by omega)), up_other (hj (14 + n) (by omega)), up_other (hj (4 + n) (by omega))]
  · rw [up_other (by omega), up_other (by omega), up_other (by omega), up_other (by omega), up_other (by omega), up_other (by omega), up_same]; exact b4
  · rw [up_other (by omega), up_other (by omega), up_other (by omega), up_other (by omega), up_other (by omega), up_same]; exact b14
  · rw [up_other (by omega), up_other (by omega), up_other (by omega), up_other (by omega), up_same]; exact b24
  · rw [up_other (by omega), up_same]; exact b54

theorem so_mi {n : Nat} {f g : Nat → Int32} (h : FR n f) (e : ∀ j, j < 84 → g j = f j) (t : ∀ i, i < n → bd (g (84 + i)) n) : MI n g := by
  obtain ⟨a1, a2, a3, a4, a5, a6⟩ := h
  refine ⟨a1, by rw [e 0 (by decide)]; exact a2, by rw [e 2 (by decide)]; exact a3, fun i hi => ?_⟩
  rw [e (14 + i) (by omega), e (24 + i) (by omega), e (54 + i) (by omega), e (64 + i) (by omega), e (4 + i) (by omega), a5 i (by omega)]
  exact ⟨(a4 i hi).1, (a4 i hi).2.1, (a4 i hi).2.2.1, bd_nI (by decide), t i hi, (a4 i hi).2.2.2⟩
theorem fr_to {n i : Nat} {f : Nat → Int32} (h : FR n f) (hi : i < 10) : bd (f (84 + i)) (n + 1) := h.2.2.2.2.2 i hi

theorem so_st {f : Nat → Int32} {k n : Nat} {x : Int32} (h : ∀ i, i < k → bd (f (84 + i)) n) (hx : bd x n) : ∀ i, i < k + 1 → bd (upd f (84 + k) x (84 + i)) n := by
  intro i hi
  by_cases e : i = k
  · subst e; rw [up_same]; exact hx
  · rw [up_other (by omega)]; exact h i (by omega)
