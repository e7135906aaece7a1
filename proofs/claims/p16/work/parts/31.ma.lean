def q_m_within (T : Nat → ClassId) (v : Int32) (lo : Int32) (hi : Int32) : Option Value → va_W → Prop := fun rr ww => (rr = some (.int (nI 1)) ∧ ww = [] ∧ ¬ v < lo ∧ ¬ hi < v) ∨ (rr = some (.int (nI 0)) ∧ ww = [] ∧ (v < lo ∨ hi < v))
set_option maxHeartbeats 4000000 in
set_option maxRecDepth 100000 in
theorem m_within (l : Launch) (D : va_G) (T : Nat → ClassId) (v : Int32) (lo : Int32) (hi : Int32) : Ct l yX8_within cX8_within 6 (some .boolean) 0 0 0 D T [.long v.toInt64, .long lo.toInt64, .long hi.toInt64] [] (q_m_within T v lo hi) := by
  refine Ct.of (cc := cX8_within) (maxL := 6) (ret := (some .boolean)) (by decide) (Nat.le_of_ble_eq_true rfl) ?_
  intro p e s m args below meth c A ls hC hnm V hl
  obtain ⟨hx, hb, hr, hml, hown, hts, hlocks⟩ := id hC
  generalize hH : s.heap = H at V ⊢
  clear hH
  have hl : lv_has ls 6 [(0, .long v.toInt64), (2, .long lo.toInt64), (4, .long hi.toInt64)] := hl
  generalize hlo : ([] : List Loc) = locs at V ⊢
  clear hlo
  refine lv_lload_n hx hb dX8_within_0 rfl (lv_at hl 0 rfl) ?_
  refine lv_lload_n hx hb dX8_within_1 rfl (lv_at hl 1 rfl) ?_
  refine W.lcmp hx hb dX8_within_2 ?_
  refine lv_if_lt (tgt := 17) hx hb dX8_within_3 (by decide) (fun c_1 => ?_) (fun c_1 => ?_)
  · skip
    have c_1 := cv_lt.mp ((lg_cmp_lt _ _).mp c_1)
    refine lv_iconst (v := (nI 0)) hx hb dX8_within_17 (by decide +kernel) ?_
    exact g_zret (Qr := (q_m_within T v lo hi)) hC V ⟨(Nat.le_of_ble_eq_true rfl), (Nat.le_of_ble_eq_true rfl)⟩ (by first | decide +kernel | exact rfl) (.inr ⟨rfl, rfl, (by first | exact Or.inl (by assumption) | exact Or.inr (by assumption))⟩) dX8_within_18
  · skip
    have c_1 := fun h => c_1 ((lg_cmp_lt _ _).mpr (cv_lt.mpr h))
    refine lv_lload_n hx hb dX8_within_6 rfl (lv_at hl 0 rfl) ?_
    refine lv_lload hx hb dX8_within_7 (lv_at hl 2 rfl) ?_
    refine W.lcmp hx hb dX8_within_9 ?_
    refine lv_if_gt (tgt := 17) hx hb dX8_within_10 (by decide) (fun c_2 => ?_) (fun c_2 => ?_)
    · skip
      have c_2 := cv_lt.mp ((lg_cmp_gt _ _).mp c_2)
      refine lv_iconst (v := (nI 0)) hx hb dX8_within_17 (by decide +kernel) ?_
      exact g_zret (Qr := (q_m_within T v lo hi)) hC V ⟨(Nat.le_of_ble_eq_true rfl), (Nat.le_of_ble_eq_true rfl)⟩ (by first | decide +kernel | exact rfl) (.inr ⟨rfl, rfl, (by first | exact Or.inl (by assumption) | exact Or.inr (by assumption))⟩) dX8_within_18
    · skip
      have c_2 := fun h => c_2 ((lg_cmp_gt _ _).mpr (cv_lt.mpr h))
      refine lv_iconst (v := (nI 1)) hx hb dX8_within_13 (by decide +kernel) ?_
      refine lv_goto (tgt := 18) hx hb dX8_within_14 (by decide) ?_
      exact g_zret (Qr := (q_m_within T v lo hi)) hC V ⟨(Nat.le_of_ble_eq_true rfl), (Nat.le_of_ble_eq_true rfl)⟩ (by first | decide +kernel | exact rfl) (.inl ⟨rfl, rfl, (by assumption), (by assumption)⟩) dX8_within_18

def q_m_isIn (T : Nat → ClassId) (x : Int64) (i : Int32) : Option Value → va_W → Prop := fun rr ww => (rr = some (.int (nI 1)) ∧ ww = []) ∨ (rr = some (.int (nI 0)) ∧ ww = [])
set_option maxHeartbeats 4000000 in
set_option maxRecDepth 100000 in
theorem m_isIn (l : Launch) (D : va_G) (T : Nat → ClassId) (x : Int64) (i : Int32) : Ct l yX8_isIn cX8_isIn 3 (some .boolean) 0 0 0 D T [.long x, .int i] [] (q_m_isIn T x i) := by
  refine Ct.of (cc := cX8_isIn) (maxL := 3) (ret := (some .boolean)) (by decide) (Nat.le_of_ble_eq_true rfl) ?_
  intro p e s m args below meth c A ls hC hnm V hl
  obtain ⟨hx, hb, hr, hml, hown, hts, hlocks⟩ := id hC
  generalize hH : s.heap = H at V ⊢
  clear hH
  have hl : lv_has ls 3 [(0, .long x), (2, .int i)] := hl
  generalize hlo : ([] : List Loc) = locs at V ⊢
  clear hlo
  refine lv_lload_n hx hb dX8_isIn_0 rfl (lv_at hl 0 rfl) ?_
  refine lv_iload_n hx hb dX8_isIn_1 rfl (lv_at hl 1 rfl) ?_
  refine lv_lshr hx hb dX8_isIn_2 rfl ?_
  refine lv_lconst (v := (nI 1).toInt64) hx hb dX8_isIn_3 (by decide +kernel) ?_
  refine lv_land hx hb dX8_isIn_4 ?_
  refine lv_lconst (v := (nI 1).toInt64) hx hb dX8_isIn_5 (by decide +kernel) ?_
  refine W.lcmp hx hb dX8_isIn_6 ?_
  refine lv_if_ne (tgt := 14) hx hb dX8_isIn_7 (by decide) (fun c_1 => ?_) (fun c_1 => ?_)
  · skip
    refine lv_iconst (v := (nI 0)) hx hb dX8_isIn_14 (by decide +kernel) ?_
    exact g_zret (Qr := (q_m_isIn T x i)) hC V ⟨(Nat.le_of_ble_eq_true rfl), (Nat.le_of_ble_eq_true rfl)⟩ (by first | decide +kernel | exact rfl) (.inr ⟨rfl, rfl⟩) dX8_isIn_15
  · skip
    refine lv_iconst (v := (nI 1)) hx hb dX8_isIn_10 (by decide +kernel) ?_
    refine lv_goto (tgt := 15) hx hb dX8_isIn_11 (by decide) ?_
    exact g_zret (Qr := (q_m_isIn T x i)) hC V ⟨(Nat.le_of_ble_eq_true rfl), (Nat.le_of_ble_eq_true rfl)⟩ (by first | decide +kernel | exact rfl) (.inl ⟨rfl, rfl⟩) dX8_isIn_15

/-- a HEAT within its bounds -/
def ibf (x : Int32) : Int32 := if x < 0 then nI 0 else if nI 200 < x then nI 200 else x
theorem ib_1 {x : Int32} (h1 : 0 ≤ x) (h2 : x ≤ nI 200) : bd x 201 := by
  obtain ⟨j, h3, h4, e⟩ := g_rng (x := x) (a := 0) (b := 200) (by decide) (by decide) (Int32.not_lt.mpr h1) (Int32.not_lt.mpr h2)
  exact ⟨j, by omega, e⟩
theorem ib_2 {x : Int32} (h1 : 0 ≤ x) (h2 : x ≤ nI 200) : x = ibf x := by rw [ibf, if_neg (Int32.not_lt.mpr h1), if_neg (Int32.not_lt.mpr h2)]
theorem ib_3 {x : Int32} (h : ¬ 0 ≤ x) : nI 0 = ibf x := by rw [ibf, if_pos (Int32.not_le.mp h)]
theorem ib_4 {x : Int32} (h1 : 0 ≤ x) (h2 : ¬ x ≤ nI 200) : nI 200 = ibf x := by rw [ibf, if_neg (Int32.not_lt.mpr h1), if_pos (Int32.not_le.mp h2)]
theorem neg_sub {a b : Nat} (h : a < b) (hb : b < 32) : nI a - nI b < 0 := by
  have H : ∀ (b : Fin 32) (a : Fin 32), a.1 < b.1 → nI a.1 - nI b.1 < 0 := by decide +kernel
  exact H ⟨b, hb⟩ ⟨a, by omega⟩ h
theorem ib_up {a q r : Nat} (ha : a < 200) (hq : 1 ≤ q) (hq2 : q ≤ 700) (e : nI r = ibf (nI a + nI q)) (hr : r < 201) : a < r := by
  rw [nI_add] at e
  unfold ibf at e
  rw [if_neg (nI_pos (by omega))] at e
  split at e
  · have := b_eq (by omega) (by omega) e
    omega
  · have := b_eq (by omega) (by omega) e
    omega
theorem ib_dn {a b r : Nat} (ha : 1 ≤ a) (ha2 : a ≤ 255) (hb : 1 ≤ b) (hb2 : b ≤ 31) (e : nI r = ibf (nI a - nI b)) (hr : r < 201) : r < a := by
  unfold ibf at e
  split at e
  · have := b_eq (by omega) (by omega) e
    omega
  · rename_i h
    have hab : b ≤ a := by
      by_cases c : b ≤ a
      · exact c
      · exact absurd (neg_sub (by omega) (by omega)) h
    rw [nI_sub hab] at e
    split at e
    · rename_i h2
      have h3 := b_lt (by omega) (by omega) h2
      have := b_eq (by omega) (by omega) e
      omega
    · have := b_eq (by omega) (by omega) e
      omega

def q_m_inBounds (T : Nat → ClassId) (x : Int32) : Option Value → va_W → Prop := fun rr ww => (∃ (z : Int32), rr = some (.int z) ∧ ww = [] ∧ bd z 201 ∧ z = ibf x)
set_option maxHeartbeats 4000000 in
set_option maxRecDepth 100000 in
theorem m_inBounds (l : Launch) (D : va_G) (T : Nat → ClassId) (x : Int32) : Ct l yX8_inBounds cX8_inBounds 1 (some .int) 0 0 0 D T [.int x] [] (q_m_inBounds T x) := by
  refine Ct.of (cc := cX8_inBounds) (maxL := 1) (ret := (some .int)) (by decide) (Nat.le_of_ble_eq_true rfl) ?_
  intro p e s m args below meth c A ls hC hnm V hl
  obtain ⟨hx, hb, hr, hml, hown, hts, hlocks⟩ := id hC
  generalize hH : s.heap = H at V ⊢
  clear hH
  have hl : lv_has ls 1 [(0, .int x)] := hl
  generalize hlo : ([] : List Loc) = locs at V ⊢
  clear hlo
  refine lv_iload_n hx hb dX8_inBounds_0 rfl (lv_at hl 0 rfl) ?_
  refine lv_if_ge (tgt := 8) hx hb dX8_inBounds_1 (by decide) (fun c_1 => ?_) (fun c_1 => ?_)
  · skip
    refine lv_iload_n hx hb dX8_inBounds_8 rfl (lv_at hl 0 rfl) ?_
    refine lv_sipush (v := (nI 200)) hx hb dX8_inBounds_9 (by decide +kernel) ?_
    refine lv_icmp_le (tgt := 21) hx hb dX8_inBounds_12 (by decide) (fun c_2 => ?_) (fun c_2 => ?_)
    · skip
      refine lv_iload_n hx hb dX8_inBounds_21 rfl (lv_at hl 0 rfl) ?_
      exact g_iret (Qr := (q_m_inBounds T x)) hC V ⟨(Nat.le_of_ble_eq_true rfl), (Nat.le_of_ble_eq_true rfl)⟩ ⟨x, rfl, rfl, (by first | exact bd_nI (by decide) | exact ib_1 (by assumption) (by assumption) | exact ib_2 (by assumption) (by assumption) | exact ib_3 (by assumption) | exact ib_4 (by assumption) (by assumption)), (by first | exact bd_nI (by decide) | exact ib_1 (by assumption) (by assumption) | exact ib_2 (by assumption) (by assumption) | exact ib_3 (by assumption) | exact ib_4 (by assumption) (by assumption))⟩ dX8_inBounds_22
    · skip
      refine lv_sipush (v := (nI 200)) hx hb dX8_inBounds_15 (by decide +kernel) ?_
      refine lv_goto (tgt := 22) hx hb dX8_inBounds_18 (by decide) ?_
      exact g_iret (Qr := (q_m_inBounds T x)) hC V ⟨(Nat.le_of_ble_eq_true rfl), (Nat.le_of_ble_eq_true rfl)⟩ ⟨(nI 200), rfl, rfl, (by first | exact bd_nI (by decide) | exact ib_1 (by assumption) (by assumption) | exact ib_2 (by assumption) (by assumption) | exact ib_3 (by assumption) | exact ib_4 (by assumption) (by assumption)), (by first | exact bd_nI (by decide) | exact ib_1 (by assumption) (by assumption) | exact ib_2 (by assumption) (by assumption) | exact ib_3 (by assumption) | exact ib_4 (by assumption) (by assumption))⟩ dX8_inBounds_22
  · skip
    refine lv_iconst (v := (nI 0)) hx hb dX8_inBounds_4 (by decide +kernel) ?_
    refine lv_goto (tgt := 22) hx hb dX8_inBounds_5 (by decide) ?_
    exact g_iret (Qr := (q_m_inBounds T x)) hC V ⟨(Nat.le_of_ble_eq_true rfl), (Nat.le_of_ble_eq_true rfl)⟩ ⟨(nI 0), rfl, rfl, (by first | exact bd_nI (by decide) | exact ib_1 (by assumption) (by assumption) | exact ib_2 (by assumption) (by assumption) | exact ib_3 (by assumption) | exact ib_4 (by assumption) (by assumption)), (by first | exact bd_nI (by decide) | exact ib_1 (by assumption) (by assumption) | exact ib_2 (by assumption) (by assumption) | exact ib_3 (by assumption) | exact ib_4 (by assumption) (by assumption))⟩ dX8_inBounds_22

def q_m_bitsOf (T : Nat → ClassId) (x : Int64) : Option Value → va_W → Prop := fun rr ww => (∃ (z : Int32), rr = some (.int z) ∧ ww = [])
set_option maxHeartbeats 4000000 in
set_option maxRecDepth 100000 in
theorem m_bitsOf (l : Launch) (D : va_G) (T : Nat → ClassId) (x : Int64) : Ct l yX8_bitsOf cX8_bitsOf 4 (some .int) 1 0 0 D T [.long x] [] (q_m_bitsOf T x) := by
  refine Ct.of (cc := cX8_bitsOf) (maxL := 4) (ret := (some .int)) (by decide) (Nat.le_of_ble_eq_true rfl) ?_
  intro p e s m args below meth c A ls hC hnm V hl
  obtain ⟨hx, hb, hr, hml, hown, hts, hlocks⟩ := id hC
  generalize hH : s.heap = H at V ⊢
  clear hH
  have hl : lv_has ls 4 [(0, .long x)] := hl
  generalize hlo : ([] : List Loc) = locs at V ⊢
  clear hlo
  refine lv_iconst (v := (nI 0)) hx hb dX8_bitsOf_0 (by decide +kernel) ?_
  refine lv_istore_n (lv' := [(2, .int (nI 0)), (0, .long x)]) hx hb dX8_bitsOf_1 rfl hl (by decide) rfl (fun ls hl => ?_)
  refine lv_iconst (v := (nI 0)) hx hb dX8_bitsOf_2 (by decide +kernel) ?_
  refine lv_istore_n (lv' := [(3, .int (nI 0)), (2, .int (nI 0)), (0, .long x)]) hx hb dX8_bitsOf_3 rfl hl (by decide) rfl (fun ls hl => ?_)
  have L_1 : ∀ (fu : Nat) (k4 : Nat) (x4_2 : Int32), k4 ≤ 12 → 12 - k4 < fu → ∀ (H : Heap) (locs : List Loc) (ls : Array Slot), gW D T A s [] H locs → lv_has ls 4 [(3, .int (nI k4)), (2, .int x4_2), (0, .long x)] → W p l e (rmD 1 0 0) s m args below meth c H locs 0 0 (MQ below (gQ D A (q_m_bitsOf T x)) args s 0 0 A) (F0 m 4 ls []) := by
    intro fu_4
    induction fu_4 with
    | zero => intro k4 x4_2 hk4 hmu; exact absurd hmu (Nat.not_lt_zero _)
    | succ fu_4 ih_4 =>
      intro k4 x4_2 hk4 hmu_4 H locs ls V hl
      refine lv_iload_n hx hb dX8_bitsOf_4 rfl (lv_at hl 0 rfl) ?_
      refine lv_bipush (v := (nI 12)) hx hb dX8_bitsOf_5 (by decide +kernel) ?_
      refine lv_icmp_ge (tgt := 32) hx hb dX8_bitsOf_7 (by decide) (fun c_2 => ?_) (fun c_2 => ?_)
      · skip
        have c_2 := b_le (by omega) (by omega) c_2
        refine lv_iload_n hx hb dX8_bitsOf_32 rfl (lv_at hl 1 rfl) ?_
        exact g_iret (Qr := (q_m_bitsOf T x)) hC V ⟨(Nat.le_of_ble_eq_true rfl), (Nat.le_of_ble_eq_true rfl)⟩ ⟨x4_2, rfl, rfl⟩ dX8_bitsOf_33
      · skip
        have c_2 := b_nle (by omega) (by omega) c_2
        refine lv_iload_n hx hb dX8_bitsOf_10 rfl (lv_at hl 1 rfl) ?_
        refine lv_lload_n hx hb dX8_bitsOf_11 rfl (lv_at hl 2 rfl) ?_
        refine lv_iload_n hx hb dX8_bitsOf_12 rfl (lv_at hl 0 rfl) ?_
        refine g_callS (wr := []) (nA := 2) hC V hl.1 (m_isIn l D T x (nI k4)) w_1130 w_1131 w_9 w_1132 (by decide +kernel) rfl ⟨(Nat.le_of_ble_eq_true rfl), (Nat.le_of_ble_eq_true rfl)⟩ [] [] rfl rfl rfl rfl (by decide) (Nat.le_of_ble_eq_true rfl) dX8_bitsOf_13 ⟨(Nat.le_of_ble_eq_true rfl), (Nat.le_of_ble_eq_true rfl)⟩ rfl (fun r w1 H locs hQ V => ?_)
        rcases hQ with ⟨rfl, rfl⟩ | ⟨rfl, rfl⟩
        · have V : gW D T A s [] H locs := V
          show W p l e _ s m args below meth c H locs _ _ _ (F0 m 16 ls [.int (nI 1), .int x4_2])
          refine lv_if_eq (tgt := 23) hx hb dX8_bitsOf_16 (by decide) (fun c => absurd (show (nI 1) = 0 from c) (by decide +kernel)) (fun _ => ?_)
          refine lv_iconst (v := (nI 1)) hx hb dX8_bitsOf_19 (by decide +kernel) ?_
          refine lv_goto (tgt := 24) hx hb dX8_bitsOf_20 (by decide) ?_
          refine lv_iadd hx hb dX8_bitsOf_24 ?_
          refine lv_istore_n (lv' := [(2, .int (x4_2 + (nI 1))), (3, .int (nI k4)), (0, .long x)]) hx hb dX8_bitsOf_25 rfl hl (by decide) rfl (fun ls hl => ?_)
          refine lv_iinc (v := (nI (k4 + 1))) (lv' := [(3, .int (nI (k4 + 1))), (2, .int (x4_2 + (nI 1))), (0, .long x)]) hx hb dX8_bitsOf_26 hl (k := 1) rfl (nI_1 _) (by decide) rfl (fun ls hl => ?_)
          refine lv_goto (tgt := 4) hx hb dX8_bitsOf_29 (by decide) ?_
          exact ih_4 (k4 + 1) (x4_2 + (nI 1)) (by omega) (by omega) _ _ _ V (lv_sub hl [0, 1, 2] rfl)
        · have V : gW D T A s [] H locs := V
          show W p l e _ s m args below meth c H locs _ _ _ (F0 m 16 ls [.int (nI 0), .int x4_2])
          refine lv_if_eq (tgt := 23) hx hb dX8_bitsOf_16 (by decide) (fun _ => ?_) (fun c => absurd (show (nI 0) = 0 by decide +kernel) c)
          refine lv_iconst (v := (nI 0)) hx hb dX8_bitsOf_23 (by decide +kernel) ?_
          refine lv_iadd hx hb dX8_bitsOf_24 ?_
          refine lv_istore_n (lv' := [(2, .int (x4_2 + (nI 0))), (3, .int (nI k4)), (0, .long x)]) hx hb dX8_bitsOf_25 rfl hl (by decide) rfl (fun ls hl => ?_)
          refine lv_iinc (v := (nI (k4 + 1))) (lv' := [(3, .int (nI (k4 + 1))), (2, .int (x4_2 + (nI 0))), (0, .long x)]) hx hb dX8_bitsOf_26 hl (k := 1) rfl (nI_1 _) (by decide) rfl (fun ls hl => ?_)
          refine lv_goto (tgt := 4) hx hb dX8_bitsOf_29 (by decide) ?_
          exact ih_4 (k4 + 1) (x4_2 + (nI 0)) (by omega) (by omega) _ _ _ V (lv_sub hl [0, 1, 2] rfl)
  exact L_1 _ 0 (nI 0) (by omega) (Nat.lt_succ_self _) _ _ _ V (lv_sub hl [0, 1, 2] rfl)

def q_m_isSmith (T : Nat → ClassId) (n : Nat) (o : Nat) (i : Int32) (w0 : Int32) (g1 : Nat) (g2 : Nat) (g3 : Nat) (g4 : Nat) (tp : Nat) (w6 : Int32) (w7 : Int32) (w8 : Int32) (w9 : Int32) (w10 : Int32) (w11 : Int32) (w12 : Int32) (w13 : Int32) (w14 : Int32) (g15 : Nat) (w16 : Int32) (g17 : Nat) (w18 : Int32) (w19 : Int32) (g20 : Nat) (w21 : Int32) (g22 : Nat) (g23 : Nat) (g24 : Nat) (w25 : Int32) (w26 : Int32) (w27 : Int32) (g28 : Nat) (g29 : Nat) (w30 : Int32) (g31 : Nat) (g32 : Nat) (g33 : Nat) (fa : Nat → Int32) : Option Value → va_W → Prop := fun rr ww => (∃ (j : Nat), rr = some (.int (nI 1)) ∧ ww = [(o, .inr (8, [.int w0, .ref g1, .ref g2, .ref g3, .ref g4, .int (nI tp), .int w6, .int w7, .int w8, .int w9, .int w10, .int w11, .int w12, .int w13, .int w14, .ref g15, .int w16, .ref g17, .int w18, .int w19, .ref g20, .int w21, .ref g22, .ref g23, .ref g24, .int w25, .int w26, .int w27, .ref g28, .ref g29, .int w30, .ref g31, .ref g32, .ref g33])), (g1, .inl (T 0, 282, .inl fa))] ∧ i = nI j ∧ j < n) ∨ (rr = some (.int (nI 0)) ∧ ww = [(o, .inr (8, [.int w0, .ref g1, .ref g2, .ref g3, .ref g4, .int (nI tp), .int w6, .int w7, .int w8, .int w9, .int w10, .int w11, .int w12, .int w13, .int w14, .ref g15, .int w16, .ref g17, .int w18, .int w19, .ref g20, .int w21, .ref g22, .ref g23, .ref g24, .int w25, .int w26, .int w27, .ref g28, .ref g29, .int w30, .ref g31, .ref g32, .ref g33])), (g1, .inl (T 0, 282, .inl fa))])
set_option maxHeartbeats 4000000 in
set_option maxRecDepth 100000 in
theorem m_isSmith (l : Launch) (D : va_G) (T : Nat → ClassId) (n : Nat) (o : Nat) (i : Int32) (w0 : Int32) (g1 : Nat) (g2 : Nat) (g3 : Nat) (g4 : Nat) (tp : Nat) (w6 : Int32) (w7 : Int32) (w8 : Int32) (w9 : Int32) (w10 : Int32) (w11 : Int32) (w12 : Int32) (w13 : Int32) (w14 : Int32) (g15 : Nat) (w16 : Int32) (g17 : Nat) (w18 : Int32) (w19 : Int32) (g20 : Nat) (w21 : Int32) (g22 : Nat) (g23 : Nat) (g24 : Nat) (w25 : Int32) (w26 : Int32) (w27 : Int32) (g28 : Nat) (g29 : Nat) (w30 : Int32) (g31 : Nat) (g32 : Nat) (g33 : Nat) (fa : Nat → Int32) (h_a : MI n fa) : Ct l yX8_isSmith cX8_isSmith 2 (some .boolean) 1 0 0 D T [.ref o, .int i] [(o, .inr (8, [.int w0, .ref g1, .ref g2, .ref g3, .ref g4, .int (nI tp), .int w6, .int w7, .int w8, .int w9, .int w10, .int w11, .int w12, .int w13, .int w14, .ref g15, .int w16, .ref g17, .int w18, .int w19, .ref g20, .int w21, .ref g22, .ref g23, .ref g24, .int w25, .int w26, .int w27, .ref g28, .ref g29, .int w30, .ref g31, .ref g32, .ref g33])), (g1, .inl (T 0, 282, .inl fa))] (q_m_isSmith T n o i w0 g1 g2 g3 g4 tp w6 w7 w8 w9 w10 w11 w12 w13 w14 g15 w16 g17 w18 w19 g20 w21 g22 g23 g24 w25 w26 w27 g28 g29 w30 g31 g32 g33 fa) := by
  refine Ct.of (cc := cX8_isSmith) (maxL := 2) (ret := (some .boolean)) (by decide) (Nat.le_of_ble_eq_true rfl) ?_
  intro p e s m args below meth c A ls hC hnm V hl
  obtain ⟨hx, hb, hr, hml, hown, hts, hlocks⟩ := id hC
  generalize hH : s.heap = H at V ⊢
  clear hH
  have hl : lv_has ls 2 [(0, .ref o), (1, .int i)] := hl
  generalize hlo : ([] : List Loc) = locs at V ⊢
  clear hlo
  have ms0 := ms_rf h_a
  have hn10 := h_a.1
  refine lv_iload_n hx hb dX8_isSmith_0 rfl (lv_at hl 1 rfl) ?_
  refine lv_i2l (v := i.toInt64) hx hb dX8_isSmith_1 rfl ?_
  refine lv_lconst (v := (nI 0).toInt64) hx hb dX8_isSmith_2 (by decide +kernel) ?_
  refine lv_aload_n hx hb dX8_isSmith_3 rfl (lv_at hl 0 rfl) ?_
  refine g_get hC V (ci := 8) uwX8 0 rfl rfl 1 (by decide) w_913 rfl rfl dX8_isSmith_4 ?_
  refine lv_iconst (v := (nI 0)) hx hb dX8_isSmith_7 (by decide +kernel) ?_
  refine g_iald hC V 1 rfl (vp_in_nI (by decide) (by decide)) (v := (nI n)) (by rw [nI_clamp (by decide)]; first | rfl | exact h_a.2.1) dX8_isSmith_8 ?_
  refine lv_iconst (v := (nI 1)) hx hb dX8_isSmith_9 (by decide +kernel) ?_
  refine lv_isub hx hb dX8_isSmith_10 ?_
  refine lv_i2l (v := ((nI n) - (nI 1)).toInt64) hx hb dX8_isSmith_11 rfl ?_
  refine g_callSU (nA := 3) hC V hl.1 (m_within l D T i (nI 0) ((nI n) - (nI 1))) w_1023 w_1024 w_9 w_1025 (by decide +kernel) rfl ⟨(Nat.le_of_ble_eq_true rfl), (Nat.le_of_ble_eq_true rfl)⟩ [] rfl rfl (Nat.le_of_ble_eq_true rfl) dX8_isSmith_12 ⟨(Nat.le_of_ble_eq_true rfl), (Nat.le_of_ble_eq_true rfl)⟩ rfl (fun r w1 H locs hQ V => ?_)
  rcases hQ with ⟨rfl, rfl, f_1, f_2⟩ | ⟨rfl, rfl, f_3⟩
  · have V : gW D T A s [(o, .inr (8, [.int w0, .ref g1, .ref g2, .ref g3, .ref g4, .int (nI tp), .int w6, .int w7, .int w8, .int w9, .int w10, .int w11, .int w12, .int w13, .int w14, .ref g15, .int w16, .ref g17, .int w18, .int w19, .ref g20, .int w21, .ref g22, .ref g23, .ref g24, .int w25, .int w26, .int w27, .ref g28, .ref g29, .int w30, .ref g31, .ref g32, .ref g33])), (g1, .inl (T 0, 282, .inl fa))] H locs := V _ [] rfl rfl rfl (by decide +kernel) rfl
    show W p l e _ s m args below meth c H locs _ _ _ (F0 m 15 ls [.int (nI 1)])
    obtain ⟨j, hj, ej⟩ := pred_bd hn10 f_1 f_2
    exact g_zret (Qr := (q_m_isSmith T n o i w0 g1 g2 g3 g4 tp w6 w7 w8 w9 w10 w11 w12 w13 w14 g15 w16 g17 w18 w19 g20 w21 g22 g23 g24 w25 w26 w27 g28 g29 w30 g31 g32 g33 fa)) hC V ⟨(Nat.le_of_ble_eq_true rfl), (Nat.le_of_ble_eq_true rfl)⟩ (by first | decide +kernel | exact rfl) (.inl ⟨j, rfl, rfl, ej, hj⟩) dX8_isSmith_15
  · have V : gW D T A s [(o, .inr (8, [.int w0, .ref g1, .ref g2, .ref g3, .ref g4, .int (nI tp), .int w6, .int w7, .int w8, .int w9, .int w10, .int w11, .int w12, .int w13, .int w14, .ref g15, .int w16, .ref g17, .int w18, .int w19, .ref g20, .int w21, .ref g22, .ref g23, .ref g24, .int w25, .int w26, .int w27, .ref g28, .ref g29, .int w30, .ref g31, .ref g32, .ref g33])), (g1, .inl (T 0, 282, .inl fa))] H locs := V _ [] rfl rfl rfl (by decide +kernel) rfl
    show W p l e _ s m args below meth c H locs _ _ _ (F0 m 15 ls [.int (nI 0)])
    exact g_zret (Qr := (q_m_isSmith T n o i w0 g1 g2 g3 g4 tp w6 w7 w8 w9 w10 w11 w12 w13 w14 g15 w16 g17 w18 w19 g20 w21 g22 g23 g24 w25 w26 w27 g28 g29 w30 g31 g32 g33 fa)) hC V ⟨(Nat.le_of_ble_eq_true rfl), (Nat.le_of_ble_eq_true rfl)⟩ (by first | decide +kernel | exact rfl) (.inr ⟨rfl, rfl⟩) dX8_isSmith_15

def q_m_isDone (T : Nat → ClassId) (o : Nat) (j : Nat) (w0 : Int32) (g1 : Nat) (g2 : Nat) (g3 : Nat) (g4 : Nat) (tp : Nat) (w6 : Int32) (w7 : Int32) (w8 : Int32) (w9 : Int32) (w10 : Int32) (w11 : Int32) (w12 : Int32) (w13 : Int32) (w14 : Int32) (g15 : Nat) (w16 : Int32) (g17 : Nat) (w18 : Int32) (w19 : Int32) (g20 : Nat) (w21 : Int32) (g22 : Nat) (g23 : Nat) (g24 : Nat) (w25 : Int32) (w26 : Int32) (w27 : Int32) (g28 : Nat) (g29 : Nat) (w30 : Int32) (g31 : Nat) (g32 : Nat) (g33 : Nat) (fa : Nat → Int32) : Option Value → va_W → Prop := fun rr ww => (rr = some (.int (nI 1)) ∧ ww = [(o, .inr (8, [.int w0, .ref g1, .ref g2, .ref g3, .ref g4, .int (nI tp), .int w6, .int w7, .int w8, .int w9, .int w10, .int w11, .int w12, .int w13, .int w14, .ref g15, .int w16, .ref g17, .int w18, .int w19, .ref g20, .int w21, .ref g22, .ref g23, .ref g24, .int w25, .int w26, .int w27, .ref g28, .ref g29, .int w30, .ref g31, .ref g32, .ref g33])), (g1, .inl (T 0, 282, .inl fa))] ∧ ¬ fa (64 + j) < fa (54 + j)) ∨ (rr = some (.int (nI 0)) ∧ ww = [(o, .inr (8, [.int w0, .ref g1, .ref g2, .ref g3, .ref g4, .int (nI tp), .int w6, .int w7, .int w8, .int w9, .int w10, .int w11, .int w12, .int w13, .int w14, .ref g15, .int w16, .ref g17, .int w18, .int w19, .ref g20, .int w21, .ref g22, .ref g23, .ref g24, .int w25, .int w26, .int w27, .ref g28, .ref g29, .int w30, .ref g31, .ref g32, .ref g33])), (g1, .inl (T 0, 282, .inl fa))] ∧ fa (64 + j) < fa (54 + j))
set_option maxHeartbeats 4000000 in
set_option maxRecDepth 100000 in
theorem m_isDone (l : Launch) (D : va_G) (T : Nat → ClassId) (o : Nat) (j : Nat) (w0 : Int32) (g1 : Nat) (g2 : Nat) (g3 : Nat) (g4 : Nat) (tp : Nat) (w6 : Int32) (w7 : Int32) (w8 : Int32) (w9 : Int32) (w10 : Int32) (w11 : Int32) (w12 : Int32) (w13 : Int32) (w14 : Int32) (g15 : Nat) (w16 : Int32) (g17 : Nat) (w18 : Int32) (w19 : Int32) (g20 : Nat) (w21 : Int32) (g22 : Nat) (g23 : Nat) (g24 : Nat) (w25 : Int32) (w26 : Int32) (w27 : Int32) (g28 : Nat) (g29 : Nat) (w30 : Int32) (g31 : Nat) (g32 : Nat) (g33 : Nat) (fa : Nat → Int32) (h_j : j < 10) : Ct l yX8_isDone cX8_isDone 2 (some .boolean) 0 0 0 D T [.ref o, .int (nI j)] [(o, .inr (8, [.int w0, .ref g1, .ref g2, .ref g3, .ref g4, .int (nI tp), .int w6, .int w7, .int w8, .int w9, .int w10, .int w11, .int w12, .int w13, .int w14, .ref g15, .int w16, .ref g17, .int w18, .int w19, .ref g20, .int w21, .ref g22, .ref g23, .ref g24, .int w25, .int w26, .int w27, .ref g28, .ref g29, .int w30, .ref g31, .ref g32, .ref g33])), (g1, .inl (T 0, 282, .inl fa))] (q_m_isDone T o j w0 g1 g2 g3 g4 tp w6 w7 w8 w9 w10 w11 w12 w13 w14 g15 w16 g17 w18 w19 g20 w21 g22 g23 g24 w25 w26 w27 g28 g29 w30 g31 g32 g33 fa) := by
  refine Ct.of (cc := cX8_isDone) (maxL := 2) (ret := (some .boolean)) (by decide) (Nat.le_of_ble_eq_true rfl) ?_
  intro p e s m args below meth c A ls hC hnm V hl
  obtain ⟨hx, hb, hr, hml, hown, hts, hlocks⟩ := id hC
  generalize hH : s.heap = H at V ⊢
  clear hH
  have hl : lv_has ls 2 [(0, .ref o), (1, .int (nI j))] := hl
  generalize hlo : ([] : List Loc) = locs at V ⊢
  clear hlo
  refine lv_aload_n hx hb dX8_isDone_0 rfl (lv_at hl 0 rfl) ?_
  refine g_get hC V (ci := 8) uwX8 0 rfl rfl 1 (by decide) w_913 rfl rfl dX8_isDone_1 ?_
  refine lv_bipush (v := (nI 64)) hx hb dX8_isDone_4 (by decide +kernel) ?_
  refine lv_iload_n hx hb dX8_isDone_6 rfl (lv_at hl 1 rfl) ?_
  refine lv_iadd hx hb dX8_isDone_7 ?_
  refine g_vi (y := (nI (64 + j))) (nI_add _ _) ?_
  refine g_iald hC V 1 rfl (vp_in_nI (by omega) (by omega)) (v := (fa (64 + j))) (congrArg _ (nI_clamp (by omega))) dX8_isDone_8 ?_
  refine lv_aload_n hx hb dX8_isDone_9 rfl (lv_at hl 0 rfl) ?_
  refine g_get hC V (ci := 8) uwX8 0 rfl rfl 1 (by decide) w_913 rfl rfl dX8_isDone_10 ?_
  refine lv_bipush (v := (nI 54)) hx hb dX8_isDone_13 (by decide +kernel) ?_
  refine lv_iload_n hx hb dX8_isDone_15 rfl (lv_at hl 1 rfl) ?_
  refine lv_iadd hx hb dX8_isDone_16 ?_
  refine g_vi (y := (nI (54 + j))) (nI_add _ _) ?_
  refine g_iald hC V 1 rfl (vp_in_nI (by omega) (by omega)) (v := (fa (54 + j))) (congrArg _ (nI_clamp (by omega))) dX8_isDone_17 ?_
  refine lv_icmp_lt (tgt := 25) hx hb dX8_isDone_18 (by decide) (fun c_1 => ?_) (fun c_1 => ?_)
  · skip
    refine lv_iconst (v := (nI 0)) hx hb dX8_isDone_25 (by decide +kernel) ?_
    exact g_zret (Qr := (q_m_isDone T o j w0 g1 g2 g3 g4 tp w6 w7 w8 w9 w10 w11 w12 w13 w14 g15 w16 g17 w18 w19 g20 w21 g22 g23 g24 w25 w26 w27 g28 g29 w30 g31 g32 g33 fa)) hC V ⟨(Nat.le_of_ble_eq_true rfl), (Nat.le_of_ble_eq_true rfl)⟩ (by first | decide +kernel | exact rfl) (.inr ⟨rfl, rfl, (by assumption)⟩) dX8_isDone_26
  · skip
    refine lv_iconst (v := (nI 1)) hx hb dX8_isDone_21 (by decide +kernel) ?_
    refine lv_goto (tgt := 26) hx hb dX8_isDone_22 (by decide) ?_
    exact g_zret (Qr := (q_m_isDone T o j w0 g1 g2 g3 g4 tp w6 w7 w8 w9 w10 w11 w12 w13 w14 g15 w16 g17 w18 w19 g20 w21 g22 g23 g24 w25 w26 w27 g28 g29 w30 g31 g32 g33 fa)) hC V ⟨(Nat.le_of_ble_eq_true rfl), (Nat.le_of_ble_eq_true rfl)⟩ (by first | decide +kernel | exact rfl) (.inl ⟨rfl, rfl, (by assumption)⟩) dX8_isDone_26

def q_m_isWarm (T : Nat → ClassId) (o : Nat) (j : Nat) (w0 : Int32) (g1 : Nat) (g2 : Nat) (g3 : Nat) (g4 : Nat) (tp : Nat) (w6 : Int32) (w7 : Int32) (w8 : Int32) (w9 : Int32) (w10 : Int32) (w11 : Int32) (w12 : Int32) (w13 : Int32) (w14 : Int32) (g15 : Nat) (w16 : Int32) (g17 : Nat) (w18 : Int32) (w19 : Int32) (g20 : Nat) (w21 : Int32) (g22 : Nat) (g23 : Nat) (g24 : Nat) (w25 : Int32) (w26 : Int32) (w27 : Int32) (g28 : Nat) (g29 : Nat) (w30 : Int32) (g31 : Nat) (g32 : Nat) (g33 : Nat) (fa : Nat → Int32) : Option Value → va_W → Prop := fun rr ww => (rr = some (.int (nI 1)) ∧ ww = [(o, .inr (8, [.int w0, .ref g1, .ref g2, .ref g3, .ref g4, .int (nI tp), .int w6, .int w7, .int w8, .int w9, .int w10, .int w11, .int w12, .int w13, .int w14, .ref g15, .int w16, .ref g17, .int w18, .int w19, .ref g20, .int w21, .ref g22, .ref g23, .ref g24, .int w25, .int w26, .int w27, .ref g28, .ref g29, .int w30, .ref g31, .ref g32, .ref g33])), (g1, .inl (T 0, 282, .inl fa))]) ∨ (rr = some (.int (nI 0)) ∧ ww = [(o, .inr (8, [.int w0, .ref g1, .ref g2, .ref g3, .ref g4, .int (nI tp), .int w6, .int w7, .int w8, .int w9, .int w10, .int w11, .int w12, .int w13, .int w14, .ref g15, .int w16, .ref g17, .int w18, .int w19, .ref g20, .int w21, .ref g22, .ref g23, .ref g24, .int w25, .int w26, .int w27, .ref g28, .ref g29, .int w30, .ref g31, .ref g32, .ref g33])), (g1, .inl (T 0, 282, .inl fa))])
set_option maxHeartbeats 4000000 in
set_option maxRecDepth 100000 in
theorem m_isWarm (l : Launch) (D : va_G) (T : Nat → ClassId) (o : Nat) (j : Nat) (w0 : Int32) (g1 : Nat) (g2 : Nat) (g3 : Nat) (g4 : Nat) (tp : Nat) (w6 : Int32) (w7 : Int32) (w8 : Int32) (w9 : Int32) (w10 : Int32) (w11 : Int32) (w12 : Int32) (w13 : Int32) (w14 : Int32) (g15 : Nat) (w16 : Int32) (g17 : Nat) (w18 : Int32) (w19 : Int32) (g20 : Nat) (w21 : Int32) (g22 : Nat) (g23 : Nat) (g24 : Nat) (w25 : Int32) (w26 : Int32) (w27 : Int32) (g28 : Nat) (g29 : Nat) (w30 : Int32) (g31 : Nat) (g32 : Nat) (g33 : Nat) (fa : Nat → Int32) (h_j : j < 10) : Ct l yX8_isWarm cX8_isWarm 2 (some .boolean) 0 0 0 D T [.ref o, .int (nI j)] [(o, .inr (8, [.int w0, .ref g1, .ref g2, .ref g3, .ref g4, .int (nI tp), .int w6, .int w7, .int w8, .int w9, .int w10, .int w11, .int w12, .int w13, .int w14, .ref g15, .int w16, .ref g17, .int w18, .int w19, .ref g20, .int w21, .ref g22, .ref g23, .ref g24, .int w25, .int w26, .int w27, .ref g28, .ref g29, .int w30, .ref g31, .ref g32, .ref g33])), (g1, .inl (T 0, 282, .inl fa))] (q_m_isWarm T o j w0 g1 g2 g3 g4 tp w6 w7 w8 w9 w10 w11 w12 w13 w14 g15 w16 g17 w18 w19 g20 w21 g22 g23 g24 w25 w26 w27 g28 g29 w30 g31 g32 g33 fa) := by
  refine Ct.of (cc := cX8_isWarm) (maxL := 2) (ret := (some .boolean)) (by decide) (Nat.le_of_ble_eq_true rfl) ?_
  intro p e s m args below meth c A ls hC hnm V hl
  obtain ⟨hx, hb, hr, hml, hown, hts, hlocks⟩ := id hC
  generalize hH : s.heap = H at V ⊢
  clear hH
  have hl : lv_has ls 2 [(0, .ref o), (1, .int (nI j))] := hl
  generalize hlo : ([] : List Loc) = locs at V ⊢
  clear hlo
  refine lv_aload_n hx hb dX8_isWarm_0 rfl (lv_at hl 0 rfl) ?_
  refine g_get hC V (ci := 8) uwX8 0 rfl rfl 1 (by decide) w_913 rfl rfl dX8_isWarm_1 ?_
  refine lv_bipush (v := (nI 24)) hx hb dX8_isWarm_4 (by decide +kernel) ?_
  refine lv_iload_n hx hb dX8_isWarm_6 rfl (lv_at hl 1 rfl) ?_
  refine lv_iadd hx hb dX8_isWarm_7 ?_
  refine g_vi (y := (nI (24 + j))) (nI_add _ _) ?_
  refine g_iald hC V 1 rfl (vp_in_nI (by omega) (by omega)) (v := (fa (24 + j))) (congrArg _ (nI_clamp (by omega))) dX8_isWarm_8 ?_
  refine lv_aload_n hx hb dX8_isWarm_9 rfl (lv_at hl 0 rfl) ?_
  refine g_get hC V (ci := 8) uwX8 0 rfl rfl 1 (by decide) w_913 rfl rfl dX8_isWarm_10 ?_
  refine lv_bipush (v := (nI 34)) hx hb dX8_isWarm_13 (by decide +kernel) ?_
  refine lv_iload_n hx hb dX8_isWarm_15 rfl (lv_at hl 1 rfl) ?_
  refine lv_iadd hx hb dX8_isWarm_16 ?_
  refine g_vi (y := (nI (34 + j))) (nI_add _ _) ?_
  refine g_iald hC V 1 rfl (vp_in_nI (by omega) (by omega)) (v := (fa (34 + j))) (congrArg _ (nI_clamp (by omega))) dX8_isWarm_17 ?_
  refine lv_icmp_lt (tgt := 46) hx hb dX8_isWarm_18 (by decide) (fun c_1 => ?_) (fun c_1 => ?_)
  · skip
    refine lv_iconst (v := (nI 0)) hx hb dX8_isWarm_46 (by decide +kernel) ?_
    exact g_zret (Qr := (q_m_isWarm T o j w0 g1 g2 g3 g4 tp w6 w7 w8 w9 w10 w11 w12 w13 w14 g15 w16 g17 w18 w19 g20 w21 g22 g23 g24 w25 w26 w27 g28 g29 w30 g31 g32 g33 fa)) hC V ⟨(Nat.le_of_ble_eq_true rfl), (Nat.le_of_ble_eq_true rfl)⟩ (by first | decide +kernel | exact rfl) (.inr ⟨rfl, rfl⟩) dX8_isWarm_47
  · skip
    refine lv_aload_n hx hb dX8_isWarm_21 rfl (lv_at hl 0 rfl) ?_
    refine g_get hC V (ci := 8) uwX8 0 rfl rfl 1 (by decide) w_913 rfl rfl dX8_isWarm_22 ?_
    refine lv_bipush (v := (nI 24)) hx hb dX8_isWarm_25 (by decide +kernel) ?_
    refine lv_iload_n hx hb dX8_isWarm_27 rfl (lv_at hl 1 rfl) ?_
    refine lv_iadd hx hb dX8_isWarm_28 ?_
    refine g_vi (y := (nI (24 + j))) (nI_add _ _) ?_
    refine g_iald hC V 1 rfl (vp_in_nI (by omega) (by omega)) (v := (fa (24 + j))) (congrArg _ (nI_clamp (by omega))) dX8_isWarm_29 ?_
    refine lv_aload_n hx hb dX8_isWarm_30 rfl (lv_at hl 0 rfl) ?_
    refine g_get hC V (ci := 8) uwX8 0 rfl rfl 1 (by decide) w_913 rfl rfl dX8_isWarm_31 ?_
    refine lv_bipush (v := (nI 44)) hx hb dX8_isWarm_34 (by decide +kernel) ?_
    refine lv_iload_n hx hb dX8_isWarm_36 rfl (lv_at hl 1 rfl) ?_
    refine lv_iadd hx hb dX8_isWarm_37 ?_
    refine g_vi (y := (nI (44 + j))) (nI_add _ _) ?_
    refine g_iald hC V 1 rfl (vp_in_nI (by omega) (by omega)) (v := (fa (44 + j))) (congrArg _ (nI_clamp (by omega))) dX8_isWarm_38 ?_
    refine lv_icmp_gt (tgt := 46) hx hb dX8_isWarm_39 (by decide) (fun c_2 => ?_) (fun c_2 => ?_)
    · skip
      refine lv_iconst (v := (nI 0)) hx hb dX8_isWarm_46 (by decide +kernel) ?_
      exact g_zret (Qr := (q_m_isWarm T o j w0 g1 g2 g3 g4 tp w6 w7 w8 w9 w10 w11 w12 w13 w14 g15 w16 g17 w18 w19 g20 w21 g22 g23 g24 w25 w26 w27 g28 g29 w30 g31 g32 g33 fa)) hC V ⟨(Nat.le_of_ble_eq_true rfl), (Nat.le_of_ble_eq_true rfl)⟩ (by first | decide +kernel | exact rfl) (.inr ⟨rfl, rfl⟩) dX8_isWarm_47
    · skip
      refine lv_iconst (v := (nI 1)) hx hb dX8_isWarm_42 (by decide +kernel) ?_
      refine lv_goto (tgt := 47) hx hb dX8_isWarm_43 (by decide) ?_
      exact g_zret (Qr := (q_m_isWarm T o j w0 g1 g2 g3 g4 tp w6 w7 w8 w9 w10 w11 w12 w13 w14 g15 w16 g17 w18 w19 g20 w21 g22 g23 g24 w25 w26 w27 g28 g29 w30 g31 g32 g33 fa)) hC V ⟨(Nat.le_of_ble_eq_true rfl), (Nat.le_of_ble_eq_true rfl)⟩ (by first | decide +kernel | exact rfl) (.inl ⟨rfl, rfl⟩) dX8_isWarm_47

def q_m_heatThen (T : Nat → ClassId) (n : Nat) (o : Nat) (j : Nat) (pl : Int32) (mr : Int32) (w0 : Int32) (g1 : Nat) (g2 : Nat) (g3 : Nat) (g4 : Nat) (tp : Nat) (w6 : Int32) (w7 : Int32) (w8 : Int32) (w9 : Int32) (w10 : Int32) (w11 : Int32) (w12 : Int32) (w13 : Int32) (w14 : Int32) (g15 : Nat) (w16 : Int32) (g17 : Nat) (w18 : Int32) (w19 : Int32) (g20 : Nat) (w21 : Int32) (g22 : Nat) (g23 : Nat) (g24 : Nat) (w25 : Int32) (w26 : Int32) (w27 : Int32) (g28 : Nat) (g29 : Nat) (w30 : Int32) (g31 : Nat) (g32 : Nat) (g33 : Nat) (fa : Nat → Int32) : Option Value → va_W → Prop := fun rr ww => (∃ (z : Int32), rr = some (.int z) ∧ ww = [(o, .inr (8, [.int w0, .ref g1, .ref g2, .ref g3, .ref g4, .int (nI tp), .int w6, .int w7, .int w8, .int w9, .int w10, .int w11, .int w12, .int w13, .int w14, .ref g15, .int w16, .ref g17, .int w18, .int w19, .ref g20, .int w21, .ref g22, .ref g23, .ref g24, .int w25, .int w26, .int w27, .ref g28, .ref g29, .int w30, .ref g31, .ref g32, .ref g33])), (g1, .inl (T 0, 282, .inl fa))] ∧ bd z 201)
set_option maxHeartbeats 4000000 in
set_option maxRecDepth 100000 in
theorem m_heatThen (l : Launch) (D : va_G) (T : Nat → ClassId) (n : Nat) (o : Nat) (j : Nat) (pl : Int32) (mr : Int32) (w0 : Int32) (g1 : Nat) (g2 : Nat) (g3 : Nat) (g4 : Nat) (tp : Nat) (w6 : Int32) (w7 : Int32) (w8 : Int32) (w9 : Int32) (w10 : Int32) (w11 : Int32) (w12 : Int32) (w13 : Int32) (w14 : Int32) (g15 : Nat) (w16 : Int32) (g17 : Nat) (w18 : Int32) (w19 : Int32) (g20 : Nat) (w21 : Int32) (g22 : Nat) (g23 : Nat) (g24 : Nat) (w25 : Int32) (w26 : Int32) (w27 : Int32) (g28 : Nat) (g29 : Nat) (w30 : Int32) (g31 : Nat) (g32 : Nat) (g33 : Nat) (fa : Nat → Int32) (h_a : MI n fa) (h_j : j < n) : Ct l yX8_heatThen cX8_heatThen 6 (some .int) 1 0 0 D T [.ref o, .int (nI j), .int pl, .int mr] [(o, .inr (8, [.int w0, .ref g1, .ref g2, .ref g3, .ref g4, .int (nI tp), .int w6, .int w7, .int w8, .int w9, .int w10, .int w11, .int w12, .int w13, .int w14, .ref g15, .int w16, .ref g17, .int w18, .int w19, .ref g20, .int w21, .ref g22, .ref g23, .ref g24, .int w25, .int w26, .int w27, .ref g28, .ref g29, .int w30, .ref g31, .ref g32, .ref g33])), (g1, .inl (T 0, 282, .inl fa))] (q_m_heatThen T n o j pl mr w0 g1 g2 g3 g4 tp w6 w7 w8 w9 w10 w11 w12 w13 w14 g15 w16 g17 w18 w19 g20 w21 g22 g23 g24 w25 w26 w27 g28 g29 w30 g31 g32 g33 fa) := by
  refine Ct.of (cc := cX8_heatThen) (maxL := 6) (ret := (some .int)) (by decide) (Nat.le_of_ble_eq_true rfl) ?_
  intro p e s m args below meth c A ls hC hnm V hl
  obtain ⟨hx, hb, hr, hml, hown, hts, hlocks⟩ := id hC
  generalize hH : s.heap = H at V ⊢
  clear hH
  have hl : lv_has ls 6 [(0, .ref o), (1, .int (nI j)), (2, .int pl), (3, .int mr)] := hl
  generalize hlo : ([] : List Loc) = locs at V ⊢
  clear hlo
  have ms0 := ms_rf h_a
  have hn10 := h_a.1
  refine lv_aload_n hx hb dX8_heatThen_0 rfl (lv_at hl 0 rfl) ?_
  refine g_get hC V (ci := 8) uwX8 0 rfl rfl 1 (by decide) w_913 rfl rfl dX8_heatThen_1 ?_
  refine lv_bipush (v := (nI 24)) hx hb dX8_heatThen_4 (by decide +kernel) ?_
  refine lv_iload_n hx hb dX8_heatThen_6 rfl (lv_at hl 1 rfl) ?_
  refine lv_iadd hx hb dX8_heatThen_7 ?_
  refine g_vi (y := (nI (24 + j))) (nI_add _ _) ?_
  obtain ⟨j_1, hj_1, ej_1⟩ := bd_ex (mi_heat h_a (i := j) (by omega))
  refine g_iald hC V 1 rfl (vp_in_nI (by omega) (by omega)) (v := (nI j_1)) (by rw [nI_clamp (by omega)]; exact ej_1) dX8_heatThen_8 ?_
  refine lv_iload_n hx hb dX8_heatThen_9 rfl (lv_at hl 3 rfl) ?_
  refine lv_iadd hx hb dX8_heatThen_10 ?_
  refine lv_aload_n hx hb dX8_heatThen_11 rfl (lv_at hl 0 rfl) ?_
  refine g_get hC V (ci := 8) uwX8 0 rfl rfl 1 (by decide) w_913 rfl rfl dX8_heatThen_12 ?_
  refine lv_bipush (v := (nI 14)) hx hb dX8_heatThen_15 (by decide +kernel) ?_
  refine lv_iload_n hx hb dX8_heatThen_17 rfl (lv_at hl 1 rfl) ?_
  refine lv_iadd hx hb dX8_heatThen_18 ?_
  refine g_vi (y := (nI (14 + j))) (nI_add _ _) ?_
  obtain ⟨j_2, hj_2, ej_2⟩ := bd_ex (mi_cool h_a (i := j) (by omega))
  refine g_iald hC V 1 rfl (vp_in_nI (by omega) (by omega)) (v := (nI j_2)) (by rw [nI_clamp (by omega)]; exact ej_2) dX8_heatThen_19 ?_
  refine lv_isub hx hb dX8_heatThen_20 ?_
  refine lv_istore (lv' := [(4, .int (((nI j_1) + mr) - (nI j_2))), (0, .ref o), (1, .int (nI j)), (2, .int pl), (3, .int mr)]) hx hb dX8_heatThen_21 hl (by decide) rfl (fun ls hl => ?_)
  refine lv_iconst (v := (nI 0)) hx hb dX8_heatThen_23 (by decide +kernel) ?_
  refine lv_istore (lv' := [(5, .int (nI 0)), (4, .int (((nI j_1) + mr) - (nI j_2))), (0, .ref o), (1, .int (nI j)), (2, .int pl), (3, .int mr)]) hx hb dX8_heatThen_24 hl (by decide) rfl (fun ls hl => ?_)
  have L_3 : ∀ (fu : Nat) (k26 : Nat) (x26_4 : Int32), k26 ≤ n → n - k26 < fu → ∀ (H : Heap) (locs : List Loc) (ls : Array Slot), gW D T A s [(o, .inr (8, [.int w0, .ref g1, .ref g2, .ref g3, .ref g4, .int (nI tp), .int w6, .int w7, .int w8, .int w9, .int w10, .int w11, .int w12, .int w13, .int w14, .ref g15, .int w16, .ref g17, .int w18, .int w19, .ref g20, .int w21, .ref g22, .ref g23, .ref g24, .int w25, .int w26, .int w27, .ref g28, .ref g29, .int w30, .ref g31, .ref g32, .ref g33])), (g1, .inl (T 0, 282, .inl fa))] H locs → lv_has ls 6 [(5, .int (nI k26)), (4, .int x26_4), (0, .ref o), (1, .int (nI j)), (2, .int pl), (3, .int mr)] → W p l e (rmD 1 0 0) s m args below meth c H locs 0 0 (MQ below (gQ D A (q_m_heatThen T n o j pl mr w0 g1 g2 g3 g4 tp w6 w7 w8 w9 w10 w11 w12 w13 w14 g15 w16 g17 w18 w19 g20 w21 g22 g23 g24 w25 w26 w27 g28 g29 w30 g31 g32 g33 fa)) args s 0 0 A) (F0 m 26 ls []) := by
    intro fu_26
    induction fu_26 with
    | zero => intro k26 x26_4 hk26 hmu; exact absurd hmu (Nat.not_lt_zero _)
    | succ fu_26 ih_26 =>
      intro k26 x26_4 hk26 hmu_26 H locs ls V hl
      refine lv_iload hx hb dX8_heatThen_26 (lv_at hl 0 rfl) ?_
      refine lv_aload_n hx hb dX8_heatThen_28 rfl (lv_at hl 2 rfl) ?_
      refine g_get hC V (ci := 8) uwX8 0 rfl rfl 1 (by decide) w_913 rfl rfl dX8_heatThen_29 ?_
      refine lv_iconst (v := (nI 0)) hx hb dX8_heatThen_32 (by decide +kernel) ?_
      refine g_iald hC V 1 rfl (vp_in_nI (by decide) (by decide)) (v := (nI n)) (by rw [nI_clamp (by decide)]; first | rfl | exact h_a.2.1) dX8_heatThen_33 ?_
      refine lv_icmp_ge (tgt := 85) hx hb dX8_heatThen_34 (by decide) (fun c_4 => ?_) (fun c_4 => ?_)
      · skip
        have c_4 := b_le (by omega) (by omega) c_4
        refine lv_iload hx hb dX8_heatThen_85 (lv_at hl 1 rfl) ?_
        refine g_callSU (nA := 1) hC V hl.1 (m_inBounds l D T x26_4) w_1133 w_1134 w_9 w_1135 (by decide +kernel) rfl ⟨(Nat.le_of_ble_eq_true rfl), (Nat.le_of_ble_eq_true rfl)⟩ [] rfl rfl (Nat.le_of_ble_eq_true rfl) dX8_heatThen_87 ⟨(Nat.le_of_ble_eq_true rfl), (Nat.le_of_ble_eq_true rfl)⟩ rfl (fun r w1 H locs hQ V => ?_)
        obtain ⟨z_5, rfl, rfl, f_6, f_7⟩ := hQ
        have V : gW D T A s [(o, .inr (8, [.int w0, .ref g1, .ref g2, .ref g3, .ref g4, .int (nI tp), .int w6, .int w7, .int w8, .int w9, .int w10, .int w11, .int w12, .int w13, .int w14, .ref g15, .int w16, .ref g17, .int w18, .int w19, .ref g20, .int w21, .ref g22, .ref g23, .ref g24, .int w25, .int w26, .int w27, .ref g28, .ref g29, .int w30, .ref g31, .ref g32, .ref g33])), (g1, .inl (T 0, 282, .inl fa))] H locs := V _ [] rfl rfl rfl (by decide +kernel) rfl
        show W p l e _ s m args below meth c H locs _ _ _ (F0 m 90 ls [.int z_5])
        exact g_iret (Qr := (q_m_heatThen T n o j pl mr w0 g1 g2 g3 g4 tp w6 w7 w8 w9 w10 w11 w12 w13 w14 g15 w16 g17 w18 w19 g20 w21 g22 g23 g24 w25 w26 w27 g28 g29 w30 g31 g32 g33 fa)) hC V ⟨(Nat.le_of_ble_eq_true rfl), (Nat.le_of_ble_eq_true rfl)⟩ ⟨z_5, rfl, rfl, (by first | assumption | omega)⟩ dX8_heatThen_90
      · skip
        have c_4 := b_nle (by omega) (by omega) c_4
        refine lv_iload hx hb dX8_heatThen_37 (lv_at hl 1 rfl) ?_
        refine lv_iload_n hx hb dX8_heatThen_39 rfl (lv_at hl 4 rfl) ?_
        refine lv_i2l (v := pl.toInt64) hx hb dX8_heatThen_40 rfl ?_
        refine lv_iload hx hb dX8_heatThen_41 (lv_at hl 0 rfl) ?_
        refine g_callSU (nA := 2) hC V hl.1 (m_isIn l D T pl.toInt64 (nI k26)) w_1130 w_1131 w_9 w_1132 (by decide +kernel) rfl ⟨(Nat.le_of_ble_eq_true rfl), (Nat.le_of_ble_eq_true rfl)⟩ [] rfl rfl (Nat.le_of_ble_eq_true rfl) dX8_heatThen_43 ⟨(Nat.le_of_ble_eq_true rfl), (Nat.le_of_ble_eq_true rfl)⟩ rfl (fun r w1 H locs hQ V => ?_)
        rcases hQ with ⟨rfl, rfl⟩ | ⟨rfl, rfl⟩
        · have V : gW D T A s [(o, .inr (8, [.int w0, .ref g1, .ref g2, .ref g3, .ref g4, .int (nI tp), .int w6, .int w7, .int w8, .int w9, .int w10, .int w11, .int w12, .int w13, .int w14, .ref g15, .int w16, .ref g17, .int w18, .int w19, .ref g20, .int w21, .ref g22, .ref g23, .ref g24, .int w25, .int w26, .int w27, .ref g28, .ref g29, .int w30, .ref g31, .ref g32, .ref g33])), (g1, .inl (T 0, 282, .inl fa))] H locs := V _ [] rfl rfl rfl (by decide +kernel) rfl
          show W p l e _ s m args below meth c H locs _ _ _ (F0 m 46 ls [.int (nI 1), .int x26_4])
          refine lv_if_eq (tgt := 75) hx hb dX8_heatThen_46 (by decide) (fun c => absurd (show (nI 1) = 0 from c) (by decide +kernel)) (fun _ => ?_)
          refine lv_aload_n hx hb dX8_heatThen_49 rfl (lv_at hl 2 rfl) ?_
          refine g_get hC V (ci := 8) uwX8 0 rfl rfl 1 (by decide) w_913 rfl rfl dX8_heatThen_50 ?_
          refine lv_bipush (v := (nI 84)) hx hb dX8_heatThen_53 (by decide +kernel) ?_
          refine lv_iload hx hb dX8_heatThen_55 (lv_at hl 0 rfl) ?_
          refine lv_iadd hx hb dX8_heatThen_57 ?_
          refine g_vi (y := (nI (84 + k26))) (nI_add _ _) ?_
          obtain ⟨j_8, hj_8, ej_8⟩ := bd_ex (mi_to h_a (i := k26) (by omega))
          refine g_iald hC V 1 rfl (vp_in_nI (by omega) (by omega)) (v := (nI j_8)) (by rw [nI_clamp (by omega)]; exact ej_8) dX8_heatThen_58 ?_
          refine lv_iload_n hx hb dX8_heatThen_59 rfl (lv_at hl 3 rfl) ?_
          refine lv_icmp_ne (tgt := 75) hx hb dX8_heatThen_60 (by decide) (fun c_9 => ?_) (fun c_9 => ?_)
          · skip
            have c_9 := b_ne (by omega) (by omega) c_9
            refine lv_iconst (v := (nI 0)) hx hb dX8_heatThen_75 (by decide +kernel) ?_
            refine lv_iadd hx hb dX8_heatThen_76 ?_
            refine lv_istore (lv' := [(4, .int (x26_4 + (nI 0))), (5, .int (nI k26)), (0, .ref o), (1, .int (nI j)), (2, .int pl), (3, .int mr)]) hx hb dX8_heatThen_77 hl (by decide) rfl (fun ls hl => ?_)
            refine lv_iinc (v := (nI (k26 + 1))) (lv' := [(5, .int (nI (k26 + 1))), (4, .int (x26_4 + (nI 0))), (0, .ref o), (1, .int (nI j)), (2, .int pl), (3, .int mr)]) hx hb dX8_heatThen_79 hl (k := 1) rfl (nI_1 _) (by decide) rfl (fun ls hl => ?_)
            refine lv_goto (tgt := 26) hx hb dX8_heatThen_82 (by decide) ?_
            exact ih_26 (k26 + 1) (x26_4 + (nI 0)) (by omega) (by omega) _ _ _ V (lv_sub hl [0, 1, 2, 3, 4, 5] rfl)
          · skip
            have c_9 := b_eq (by omega) (by omega) c_9
            refine lv_aload_n hx hb dX8_heatThen_63 rfl (lv_at hl 2 rfl) ?_
            refine g_get hC V (ci := 8) uwX8 0 rfl rfl 1 (by decide) w_913 rfl rfl dX8_heatThen_64 ?_
            refine lv_iconst (v := (nI 4)) hx hb dX8_heatThen_67 (by decide +kernel) ?_
            refine lv_iload hx hb dX8_heatThen_68 (lv_at hl 0 rfl) ?_
            refine lv_iadd hx hb dX8_heatThen_70 ?_
            refine g_vi (y := (nI (4 + k26))) (nI_add _ _) ?_
            obtain ⟨j_10, hj_10, ej_10⟩ := bd_ex (mi_blast h_a (i := k26) (by omega))
            refine g_iald hC V 1 rfl (vp_in_nI (by omega) (by omega)) (v := (nI j_10)) (by rw [nI_clamp (by omega)]; exact ej_10) dX8_heatThen_71 ?_
            refine lv_goto (tgt := 76) hx hb dX8_heatThen_72 (by decide) ?_
            refine lv_iadd hx hb dX8_heatThen_76 ?_
            refine lv_istore (lv' := [(4, .int (x26_4 + (nI j_10))), (5, .int (nI k26)), (0, .ref o), (1, .int (nI j)), (2, .int pl), (3, .int mr)]) hx hb dX8_heatThen_77 hl (by decide) rfl (fun ls hl => ?_)
            refine lv_iinc (v := (nI (k26 + 1))) (lv' := [(5, .int (nI (k26 + 1))), (4, .int (x26_4 + (nI j_10))), (0, .ref o), (1, .int (nI j)), (2, .int pl), (3, .int mr)]) hx hb dX8_heatThen_79 hl (k := 1) rfl (nI_1 _) (by decide) rfl (fun ls hl => ?_)
            refine lv_goto (tgt := 26) hx hb dX8_heatThen_82 (by decide) ?_
            exact ih_26 (k26 + 1) (x26_4 + (nI j_10)) (by omega) (by omega) _ _ _ V (lv_sub hl [0, 1, 2, 3, 4, 5] rfl)
        · have V : gW D T A s [(o, .inr (8, [.int w0, .ref g1, .ref g2, .ref g3, .ref g4, .int (nI tp), .int w6, .int w7, .int w8, .int w9, .int w10, .int w11, .int w12, .int w13, .int w14, .ref g15, .int w16, .ref g17, .int w18, .int w19, .ref g20, .int w21, .ref g22, .ref g23, .ref g24, .int w25, .int w26, .int w27, .ref g28, .ref g29, .int w30, .ref g31, .ref g32, .ref g33])), (g1, .inl (T 0, 282, .inl fa))] H locs := V _ [] rfl rfl rfl (by decide +kernel) rfl
          show W p l e _ s m args below meth c H locs _ _ _ (F0 m 46 ls [.int (nI 0), .int x26_4])
          refine lv_if_eq (tgt := 75) hx hb dX8_heatThen_46 (by decide) (fun _ => ?_) (fun c => absurd (show (nI 0) = 0 by decide +kernel) c)
          refine lv_iconst (v := (nI 0)) hx hb dX8_heatThen_75 (by decide +kernel) ?_
          refine lv_iadd hx hb dX8_heatThen_76 ?_
          refine lv_istore (lv' := [(4, .int (x26_4 + (nI 0))), (5, .int (nI k26)), (0, .ref o), (1, .int (nI j)), (2, .int pl), (3, .int mr)]) hx hb dX8_heatThen_77 hl (by decide) rfl (fun ls hl => ?_)
          refine lv_iinc (v := (nI (k26 + 1))) (lv' := [(5, .int (nI (k26 + 1))), (4, .int (x26_4 + (nI 0))), (0, .ref o), (1, .int (nI j)), (2, .int pl), (3, .int mr)]) hx hb dX8_heatThen_79 hl (k := 1) rfl (nI_1 _) (by decide) rfl (fun ls hl => ?_)
          refine lv_goto (tgt := 26) hx hb dX8_heatThen_82 (by decide) ?_
          exact ih_26 (k26 + 1) (x26_4 + (nI 0)) (by omega) (by omega) _ _ _ V (lv_sub hl [0, 1, 2, 3, 4, 5] rfl)
  exact L_3 _ 0 (((nI j_1) + mr) - (nI j_2)) (by omega) (Nat.lt_succ_self _) _ _ _ V (lv_sub hl [0, 1, 2, 3, 4, 5] rfl)

def q_m_goes (T : Nat → ClassId) (n : Nat) (o : Nat) (pl : Int32) (sk : Int32) (fi : Int32) (mr : Int32) (w0 : Int32) (g1 : Nat) (g2 : Nat) (g3 : Nat) (g4 : Nat) (tp : Nat) (w6 : Int32) (w7 : Int32) (w8 : Int32) (w9 : Int32) (w10 : Int32) (w11 : Int32) (w12 : Int32) (w13 : Int32) (w14 : Int32) (g15 : Nat) (w16 : Int32) (g17 : Nat) (w18 : Int32) (w19 : Int32) (g20 : Nat) (w21 : Int32) (g22 : Nat) (g23 : Nat) (g24 : Nat) (w25 : Int32) (w26 : Int32) (w27 : Int32) (g28 : Nat) (g29 : Nat) (w30 : Int32) (g31 : Nat) (g32 : Nat) (g33 : Nat) (fa : Nat → Int32) (fh : Nat → Int32) : Option Value → va_W → Prop := fun rr ww => (∃ (z : Int32) (bm : Int32) (ga : Nat → Int32) (gh : Nat → Int32), rr = some (.int z) ∧ ww = [(o, .inr (8, [.int w0, .ref g1, .ref g2, .ref g3, .ref g4, .int (nI tp), .int w6, .int w7, .int w8, .int w9, .int w10, .int w11, .int w12, .int w13, .int w14, .ref g15, .int bm, .ref g17, .int w18, .int w19, .ref g20, .int w21, .ref g22, .ref g23, .ref g24, .int w25, .int w26, .int w27, .ref g28, .ref g29, .int w30, .ref g31, .ref g32, .ref g33])), (g1, .inl (T 0, 282, .inl ga)), (g15, .inl (T 0, 10, .inl gh))] ∧ MS n fa ga)
set_option maxHeartbeats 4000000 in
set_option maxRecDepth 100000 in
theorem m_goes (l : Launch) (D : va_G) (T : Nat → ClassId) (n : Nat) (o : Nat) (pl : Int32) (sk : Int32) (fi : Int32) (mr : Int32) (w0 : Int32) (g1 : Nat) (g2 : Nat) (g3 : Nat) (g4 : Nat) (tp : Nat) (w6 : Int32) (w7 : Int32) (w8 : Int32) (w9 : Int32) (w10 : Int32) (w11 : Int32) (w12 : Int32) (w13 : Int32) (w14 : Int32) (g15 : Nat) (w16 : Int32) (g17 : Nat) (w18 : Int32) (w19 : Int32) (g20 : Nat) (w21 : Int32) (g22 : Nat) (g23 : Nat) (g24 : Nat) (w25 : Int32) (w26 : Int32) (w27 : Int32) (g28 : Nat) (g29 : Nat) (w30 : Int32) (g31 : Nat) (g32 : Nat) (g33 : Nat) (fa : Nat → Int32) (fh : Nat → Int32) (h_a : MI n fa) : Ct l yX8_goes cX8_goes 7 (some .int) 2 0 0 D T [.ref o, .int pl, .int sk, .int fi, .int mr] [(o, .inr (8, [.int w0, .ref g1, .ref g2, .ref g3, .ref g4, .int (nI tp), .int w6, .int w7, .int w8, .int w9, .int w10, .int w11, .int w12, .int w13, .int w14, .ref g15, .int w16, .ref g17, .int w18, .int w19, .ref g20, .int w21, .ref g22, .ref g23, .ref g24, .int w25, .int w26, .int w27, .ref g28, .ref g29, .int w30, .ref g31, .ref g32, .ref g33])), (g1, .inl (T 0, 282, .inl fa)), (g15, .inl (T 0, 10, .inl fh))] (q_m_goes T n o pl sk fi mr w0 g1 g2 g3 g4 tp w6 w7 w8 w9 w10 w11 w12 w13 w14 g15 w16 g17 w18 w19 g20 w21 g22 g23 g24 w25 w26 w27 g28 g29 w30 g31 g32 g33 fa fh) := by
  refine Ct.of (cc := cX8_goes) (maxL := 7) (ret := (some .int)) (by decide) (Nat.le_of_ble_eq_true rfl) ?_
  intro p e s m args below meth c A ls hC hnm V hl
  obtain ⟨hx, hb, hr, hml, hown, hts, hlocks⟩ := id hC
  generalize hH : s.heap = H at V ⊢
  clear hH
  have hl : lv_has ls 7 [(0, .ref o), (1, .int pl), (2, .int sk), (3, .int fi), (4, .int mr)] := hl
  generalize hlo : ([] : List Loc) = locs at V ⊢
  clear hlo
  have ms0 := ms_rf h_a
  have hn10 := h_a.1
  refine lv_iconst (v := (nI 0)) hx hb dX8_goes_0 (by decide +kernel) ?_
  refine lv_istore (lv' := [(5, .int (nI 0)), (0, .ref o), (1, .int pl), (2, .int sk), (3, .int fi), (4, .int mr)]) hx hb dX8_goes_1 hl (by decide) rfl (fun ls hl => ?_)
  refine lv_iconst (v := (nI 0)) hx hb dX8_goes_3 (by decide +kernel) ?_
  refine lv_istore (lv' := [(6, .int (nI 0)), (5, .int (nI 0)), (0, .ref o), (1, .int pl), (2, .int sk), (3, .int fi), (4, .int mr)]) hx hb dX8_goes_4 hl (by decide) rfl (fun ls hl => ?_)
  have L_1 : ∀ (fu : Nat) (k6 : Nat) (x6_5 : Int32) (th6 : Nat → Int32) (f6 : Nat → Int32), k6 ≤ n → MS n fa f6 → (∀ i, i < k6 → bd (th6 i) 201) → n - k6 < fu → ∀ (H : Heap) (locs : List Loc) (ls : Array Slot), gW D T A s [(o, .inr (8, [.int w0, .ref g1, .ref g2, .ref g3, .ref g4, .int (nI tp), .int w6, .int w7, .int w8, .int w9, .int w10, .int w11, .int w12, .int w13, .int w14, .ref g15, .int w16, .ref g17, .int w18, .int w19, .ref g20, .int w21, .ref g22, .ref g23, .ref g24, .int w25, .int w26, .int w27, .ref g28, .ref g29, .int w30, .ref g31, .ref g32, .ref g33])), (g1, .inl (T 0, 282, .inl f6)), (g15, .inl (T 0, 10, .inl th6))] H locs → lv_has ls 7 [(6, .int (nI k6)), (5, .int x6_5), (0, .ref o), (1, .int pl), (2, .int sk), (3, .int fi), (4, .int mr)] → W p l e (rmD 2 0 0) s m args below meth c H locs 0 0 (MQ below (gQ D A (q_m_goes T n o pl sk fi mr w0 g1 g2 g3 g4 tp w6 w7 w8 w9 w10 w11 w12 w13 w14 g15 w16 g17 w18 w19 g20 w21 g22 g23 g24 w25 w26 w27 g28 g29 w30 g31 g32 g33 fa fh)) args s 0 0 A) (F0 m 6 ls []) := by
    intro fu_6
    induction fu_6 with
    | zero => intro k6 x6_5 th6 f6 hk6 hf6 hth6 hmu; exact absurd hmu (Nat.not_lt_zero _)
    | succ fu_6 ih_6 =>
      intro k6 x6_5 th6 f6 hk6 hf6 hth6 hmu_6 H locs ls V hl
      refine lv_iload hx hb dX8_goes_6 (lv_at hl 0 rfl) ?_
      refine lv_aload_n hx hb dX8_goes_8 rfl (lv_at hl 2 rfl) ?_
      refine g_get hC V (ci := 8) uwX8 0 rfl rfl 1 (by decide) w_913 rfl rfl dX8_goes_9 ?_
      refine lv_iconst (v := (nI 0)) hx hb dX8_goes_12 (by decide +kernel) ?_
      refine g_iald hC V 1 rfl (vp_in_nI (by decide) (by decide)) (v := (nI n)) (by rw [nI_clamp (by decide)]; first | rfl | exact h_a.2.1 | exact hf6.1.2.1 | exact hf100.1.2.1) dX8_goes_13 ?_
      refine lv_icmp_ge (tgt := 97) hx hb dX8_goes_14 (by decide) (fun c_2 => ?_) (fun c_2 => ?_)
      · skip
        have c_2 := b_le (by omega) (by omega) c_2
        have hth : ∀ i, i < n → bd (th6 i) 201 := fun i h => hth6 i (by omega)
        refine lv_iconst (v := (nI 0)) hx hb dX8_goes_97 (by decide +kernel) ?_
        refine lv_istore (lv' := [(6, .int (nI 0)), (5, .int x6_5), (0, .ref o), (1, .int pl), (2, .int sk), (3, .int fi), (4, .int mr)]) hx hb dX8_goes_98 hl (by decide) rfl (fun ls hl => ?_)
        have L_3 : ∀ (fu : Nat) (k100 : Nat) (bv : Int32) (f100 : Nat → Int32), k100 ≤ n → MS n fa f100 → n - k100 < fu → ∀ (H : Heap) (locs : List Loc) (ls : Array Slot), gW D T A s [(o, .inr (8, [.int w0, .ref g1, .ref g2, .ref g3, .ref g4, .int (nI tp), .int w6, .int w7, .int w8, .int w9, .int w10, .int w11, .int w12, .int w13, .int w14, .ref g15, .int bv, .ref g17, .int w18, .int w19, .ref g20, .int w21, .ref g22, .ref g23, .ref g24, .int w25, .int w26, .int w27, .ref g28, .ref g29, .int w30, .ref g31, .ref g32, .ref g33])), (g1, .inl (T 0, 282, .inl f100)), (g15, .inl (T 0, 10, .inl th6))] H locs → lv_has ls 7 [(6, .int (nI k100)), (5, .int x6_5), (0, .ref o), (1, .int pl), (2, .int sk), (3, .int fi), (4, .int mr)] → W p l e (rmD 2 0 0) s m args below meth c H locs 0 0 (MQ below (gQ D A (q_m_goes T n o pl sk fi mr w0 g1 g2 g3 g4 tp w6 w7 w8 w9 w10 w11 w12 w13 w14 g15 w16 g17 w18 w19 g20 w21 g22 g23 g24 w25 w26 w27 g28 g29 w30 g31 g32 g33 fa fh)) args s 0 0 A) (F0 m 100 ls []) := by
          intro fu_100
          induction fu_100 with
          | zero => intro k100 bv f100 hk100 hf100 hmu; exact absurd hmu (Nat.not_lt_zero _)
          | succ fu_100 ih_100 =>
            intro k100 bv f100 hk100 hf100 hmu_100 H locs ls V hl
            refine lv_iload hx hb dX8_goes_100 (lv_at hl 0 rfl) ?_
            refine lv_aload_n hx hb dX8_goes_102 rfl (lv_at hl 2 rfl) ?_
            refine g_get hC V (ci := 8) uwX8 0 rfl rfl 1 (by decide) w_913 rfl rfl dX8_goes_103 ?_
            refine lv_iconst (v := (nI 0)) hx hb dX8_goes_106 (by decide +kernel) ?_
            refine g_iald hC V 1 rfl (vp_in_nI (by decide) (by decide)) (v := (nI n)) (by rw [nI_clamp (by decide)]; first | rfl | exact h_a.2.1 | exact hf6.1.2.1 | exact hf100.1.2.1) dX8_goes_107 ?_
            refine lv_icmp_ge (tgt := 253) hx hb dX8_goes_108 (by decide) (fun c_4 => ?_) (fun c_4 => ?_)
            · skip
              have c_4 := b_le (by omega) (by omega) c_4
              refine lv_aload_n hx hb dX8_goes_253 rfl (lv_at hl 2 rfl) ?_
              refine g_get hC V (ci := 8) uwX8 0 rfl rfl 1 (by decide) w_913 rfl rfl dX8_goes_254 ?_
              refine lv_iconst (v := (nI 1)) hx hb dX8_goes_257 (by decide +kernel) ?_
              refine lv_dup2_11 hx hb dX8_goes_258 rfl rfl ?_
              refine g_iald hC V 1 rfl (vp_in_nI (by decide) (by decide)) (v := (f100 1)) (congrArg _ (nI_clamp (by decide))) dX8_goes_259 ?_
              refine lv_iconst (v := (nI 1)) hx hb dX8_goes_260 (by decide +kernel) ?_
              refine lv_iadd hx hb dX8_goes_261 ?_
              obtain ⟨f_5, ef_5⟩ : ∃ x, x = upd f100 1 ((f100 1) + (nI 1)) := ⟨_, rfl⟩
              have hf_5 : MS n fa f_5 := by rw [ef_5]; exact ms_st (by assumption) (by omega) (by omega) (by intros; first | (exfalso; omega) | assumption) (by intros; first | (exfalso; omega) | assumption) (by intros; first | (exfalso; omega) | assumption) (by intros; first | (exfalso; omega) | assumption) (by intros; first | (exfalso; omega) | assumption) (by intros; first | (exfalso; omega) | assumption) (by intros; first | (exfalso; omega) | assumption)
              refine g_iast hC V 1 rfl (vp_in_nI (by decide) (by decide)) (f' := f_5) (by rw [nI_clamp (by omega)]; exact ef_5.symm) (ws' := [(o, .inr (8, [.int w0, .ref g1, .ref g2, .ref g3, .ref g4, .int (nI tp), .int w6, .int w7, .int w8, .int w9, .int w10, .int w11, .int w12, .int w13, .int w14, .ref g15, .int bv, .ref g17, .int w18, .int w19, .ref g20, .int w21, .ref g22, .ref g23, .ref g24, .int w25, .int w26, .int w27, .ref g28, .ref g29, .int w30, .ref g31, .ref g32, .ref g33])), (g1, .inl (T 0, 282, .inl f_5)), (g15, .inl (T 0, 10, .inl th6))]) rfl dX8_goes_262 (fun H locs V => ?_)
              refine lv_iload hx hb dX8_goes_263 (lv_at hl 1 rfl) ?_
              exact g_iret (Qr := (q_m_goes T n o pl sk fi mr w0 g1 g2 g3 g4 tp w6 w7 w8 w9 w10 w11 w12 w13 w14 g15 w16 g17 w18 w19 g20 w21 g22 g23 g24 w25 w26 w27 g28 g29 w30 g31 g32 g33 fa fh)) hC V ⟨(Nat.le_of_ble_eq_true rfl), (Nat.le_of_ble_eq_true rfl)⟩ ⟨x6_5, bv, f_5, th6, rfl, rfl, (by first | assumption | omega)⟩ dX8_goes_265
            · skip
              have c_4 := b_nle (by omega) (by omega) c_4
              refine lv_aload_n hx hb dX8_goes_111 rfl (lv_at hl 2 rfl) ?_
              refine g_get hC V (ci := 8) uwX8 0 rfl rfl 1 (by decide) w_913 rfl rfl dX8_goes_112 ?_
              refine lv_bipush (v := (nI 24)) hx hb dX8_goes_115 (by decide +kernel) ?_
              refine lv_iload hx hb dX8_goes_117 (lv_at hl 0 rfl) ?_
              refine lv_iadd hx hb dX8_goes_119 ?_
              refine g_vi (y := (nI (24 + k100))) (nI_add _ _) ?_
              refine lv_aload_n hx hb dX8_goes_120 rfl (lv_at hl 2 rfl) ?_
              refine g_get hC V (ci := 8) uwX8 0 rfl rfl 15 (by decide) w_927 rfl rfl dX8_goes_121 ?_
              refine lv_iload hx hb dX8_goes_124 (lv_at hl 0 rfl) ?_
              obtain ⟨j_6, hj_6, ej_6⟩ := bd_ex (hth k100 (by omega))
              refine g_iald hC V 2 rfl (vp_in_nI (by omega) (by omega)) (v := (nI j_6)) (by rw [nI_clamp (by omega)]; exact ej_6) dX8_goes_126 ?_
              obtain ⟨f_7, ef_7⟩ : ∃ x, x = upd f100 (24 + k100) (nI j_6) := ⟨_, rfl⟩
              have hf_7 : MS n fa f_7 := by rw [ef_7]; exact ms_st (by assumption) (by omega) (by omega) (by intros; first | (exfalso; omega) | exact bd_nI (by omega) | exact bd_le ‹bd (nI j_6) _› (by omega) | assumption) (by intros; first | (exfalso; omega) | exact bd_nI (by omega) | exact bd_le ‹bd (nI j_6) _› (by omega) | assumption) (by intros; first | (exfalso; omega) | exact bd_nI (by omega) | exact bd_le ‹bd (nI j_6) _› (by omega) | assumption) (by intros; first | (exfalso; omega) | exact bd_nI (by omega) | exact bd_le ‹bd (nI j_6) _› (by omega) | assumption) (by intros; first | (exfalso; omega) | exact bd_nI (by omega) | exact bd_le ‹bd (nI j_6) _› (by omega) | assumption) (by intros; first | (exfalso; omega) | exact bd_nI (by omega) | exact bd_le ‹bd (nI j_6) _› (by omega) | assumption) (by intros; first | (exfalso; omega) | exact bd_nI (by omega) | exact bd_le ‹bd (nI j_6) _› (by omega) | assumption)
              refine g_iast hC V 1 rfl (vp_in_nI (by omega) (by omega)) (f' := f_7) (by rw [nI_clamp (by omega)]; exact ef_7.symm) (ws' := [(o, .inr (8, [.int w0, .ref g1, .ref g2, .ref g3, .ref g4, .int (nI tp), .int w6, .int w7, .int w8, .int w9, .int w10, .int w11, .int w12, .int w13, .int w14, .ref g15, .int bv, .ref g17, .int w18, .int w19, .ref g20, .int w21, .ref g22, .ref g23, .ref g24, .int w25, .int w26, .int w27, .ref g28, .ref g29, .int w30, .ref g31, .ref g32, .ref g33])), (g1, .inl (T 0, 282, .inl f_7)), (g15, .inl (T 0, 10, .inl th6))]) rfl dX8_goes_127 (fun H locs V => ?_)
              refine lv_aload_n hx hb dX8_goes_128 rfl (lv_at hl 2 rfl) ?_
              refine lv_iload hx hb dX8_goes_129 (lv_at hl 0 rfl) ?_
              refine g_callVU (nA := 1) hC V hl.1 (m_isDone l D T o k100 w0 g1 g2 g3 g4 tp w6 w7 w8 w9 w10 w11 w12 w13 w14 g15 bv g17 w18 w19 g20 w21 g22 g23 g24 w25 w26 w27 g28 g29 w30 g31 g32 g33 f_7 (by first | assumption | omega)) w_1088 w_1090 w_s47 w_9 w_1091 (by decide +kernel) rfl ⟨(Nat.le_of_ble_eq_true rfl), (Nat.le_of_ble_eq_true rfl)⟩ 0 (ci := 8) rfl rfl [0, 1] rfl rfl (Nat.le_of_ble_eq_true rfl) dX8_goes_131 ⟨(Nat.le_of_ble_eq_true rfl), (Nat.le_of_ble_eq_true rfl)⟩ rfl (fun r w1 H locs hQ V => ?_)
              rcases hQ with ⟨rfl, rfl, f_8⟩ | ⟨rfl, rfl, f_9⟩
              · have V : gW D T A s [(o, .inr (8, [.int w0, .ref g1, .ref g2, .ref g3, .ref g4, .int (nI tp), .int w6, .int w7, .int w8, .int w9, .int w10, .int w11, .int w12, .int w13, .int w14, .ref g15, .int bv, .ref g17, .int w18, .int w19, .ref g20, .int w21, .ref g22, .ref g23, .ref g24, .int w25, .int w26, .int w27, .ref g28, .ref g29, .int w30, .ref g31, .ref g32, .ref g33])), (g1, .inl (T 0, 282, .inl f_7)), (g15, .inl (T 0, 10, .inl th6))] H locs := V _ [0, 0] rfl rfl rfl (by decide +kernel) rfl
                show W p l e _ s m args below meth c H locs _ _ _ (F0 m 134 ls [.int (nI 1)])
                refine lv_if_ne (tgt := 247) hx hb dX8_goes_134 (by decide) (fun _ => ?_) (fun c => absurd (show (nI 1) = 0 from c) (by decide +kernel))
                refine lv_iinc (v := (nI (k100 + 1))) (lv' := [(6, .int (nI (k100 + 1))), (5, .int x6_5), (0, .ref o), (1, .int pl), (2, .int sk), (3, .int fi), (4, .int mr)]) hx hb dX8_goes_247 hl (k := 0) rfl (nI_1 _) (by decide) rfl (fun ls hl => ?_)
                refine lv_goto (tgt := 100) hx hb dX8_goes_250 (by decide) ?_
                exact ih_100 (k100 + 1) bv f_7 (by omega) (by assumption) (by omega) _ _ _ V (lv_sub hl [0, 1, 2, 3, 4, 5, 6] rfl)
              · have V : gW D T A s [(o, .inr (8, [.int w0, .ref g1, .ref g2, .ref g3, .ref g4, .int (nI tp), .int w6, .int w7, .int w8, .int w9, .int w10, .int w11, .int w12, .int w13, .int w14, .ref g15, .int bv, .ref g17, .int w18, .int w19, .ref g20, .int w21, .ref g22, .ref g23, .ref g24, .int w25, .int w26, .int w27, .ref g28, .ref g29, .int w30, .ref g31, .ref g32, .ref g33])), (g1, .inl (T 0, 282, .inl f_7)), (g15, .inl (T 0, 10, .inl th6))] H locs := V _ [0, 0] rfl rfl rfl (by decide +kernel) rfl
                show W p l e _ s m args below meth c H locs _ _ _ (F0 m 134 ls [.int (nI 0)])
                refine lv_if_ne (tgt := 247) hx hb dX8_goes_134 (by decide) (fun c => absurd (show (nI 0) = 0 by decide +kernel) c) (fun _ => ?_)
                refine lv_aload_n hx hb dX8_goes_137 rfl (lv_at hl 2 rfl) ?_
                refine g_get hC V (ci := 8) uwX8 0 rfl rfl 1 (by decide) w_913 rfl rfl dX8_goes_138 ?_
                refine lv_bipush (v := (nI 64)) hx hb dX8_goes_141 (by decide +kernel) ?_
                refine lv_iload hx hb dX8_goes_143 (lv_at hl 0 rfl) ?_
                refine lv_iadd hx hb dX8_goes_145 ?_
                refine g_vi (y := (nI (64 + k100))) (nI_add _ _) ?_
                obtain ⟨j_10, hj_10, ej_10⟩ := bd_ex (mi_has hf_7.1 (i := k100) (by omega))
                refine g_iald hC V 1 rfl (vp_in_nI (by omega) (by omega)) (v := (nI j_10)) (by rw [nI_clamp (by omega)]; exact ej_10) dX8_goes_146 ?_
                refine lv_if_eq (tgt := 247) hx hb dX8_goes_147 (by decide) (fun c_11 => ?_) (fun c_11 => ?_)
                · skip
                  rw [show (0 : Int32) = nI 0 from rfl] at c_11
                  have c_11 := b_eq (by omega) (by omega) c_11
                  refine lv_iinc (v := (nI (k100 + 1))) (lv' := [(6, .int (nI (k100 + 1))), (5, .int x6_5), (0, .ref o), (1, .int pl), (2, .int sk), (3, .int fi), (4, .int mr)]) hx hb dX8_goes_247 hl (k := 0) rfl (nI_1 _) (by decide) rfl (fun ls hl => ?_)
                  refine lv_goto (tgt := 100) hx hb dX8_goes_250 (by decide) ?_
                  exact ih_100 (k100 + 1) bv f_7 (by omega) (by assumption) (by omega) _ _ _ V (lv_sub hl [0, 1, 2, 3, 4, 5, 6] rfl)
                · skip
                  rw [show (0 : Int32) = nI 0 from rfl] at c_11
                  have c_11 := b_ne (by omega) (by omega) c_11
                  refine lv_aload_n hx hb dX8_goes_150 rfl (lv_at hl 2 rfl) ?_
                  refine g_get hC V (ci := 8) uwX8 0 rfl rfl 15 (by decide) w_927 rfl rfl dX8_goes_151 ?_
                  refine lv_iload hx hb dX8_goes_154 (lv_at hl 0 rfl) ?_
                  refine g_iald hC V 2 rfl (vp_in_nI (by omega) (by omega)) (v := (nI j_6)) (by rw [nI_clamp (by omega)]; exact ej_6) dX8_goes_156 ?_
                  refine lv_aload_n hx hb dX8_goes_157 rfl (lv_at hl 2 rfl) ?_
                  refine g_get hC V (ci := 8) uwX8 0 rfl rfl 1 (by decide) w_913 rfl rfl dX8_goes_158 ?_
                  refine lv_bipush (v := (nI 44)) hx hb dX8_goes_161 (by decide +kernel) ?_
                  refine lv_iload hx hb dX8_goes_163 (lv_at hl 0 rfl) ?_
                  refine lv_iadd hx hb dX8_goes_165 ?_
                  refine g_vi (y := (nI (44 + k100))) (nI_add _ _) ?_
                  refine g_iald hC V 1 rfl (vp_in_nI (by omega) (by omega)) (v := (f_7 (44 + k100))) (congrArg _ (nI_clamp (by omega))) dX8_goes_166 ?_
                  refine lv_icmp_gt (tgt := 173) hx hb dX8_goes_167 (by decide) (fun c_12 => ?_) (fun c_12 => ?_)
                  · skip
                    refine lv_aload_n hx hb dX8_goes_173 rfl (lv_at hl 2 rfl) ?_
                    refine g_get hC V (ci := 8) uwX8 0 rfl rfl 1 (by decide) w_913 rfl rfl dX8_goes_174 ?_
                    refine lv_bipush (v := (nI 64)) hx hb dX8_goes_177 (by decide +kernel) ?_
                    refine lv_iload hx hb dX8_goes_179 (lv_at hl 0 rfl) ?_
                    refine lv_iadd hx hb dX8_goes_181 ?_
                    refine g_vi (y := (nI (64 + k100))) (nI_add _ _) ?_
                    refine lv_aload_n hx hb dX8_goes_182 rfl (lv_at hl 2 rfl) ?_
                    refine g_get hC V (ci := 8) uwX8 0 rfl rfl 1 (by decide) w_913 rfl rfl dX8_goes_183 ?_
                    refine lv_bipush (v := (nI 64)) hx hb dX8_goes_186 (by decide +kernel) ?_
                    refine lv_iload hx hb dX8_goes_188 (lv_at hl 0 rfl) ?_
                    refine lv_iadd hx hb dX8_goes_190 ?_
                    refine g_vi (y := (nI (64 + k100))) (nI_add _ _) ?_
                    refine g_iald hC V 1 rfl (vp_in_nI (by omega) (by omega)) (v := (nI j_10)) (by rw [nI_clamp (by omega)]; exact ej_10) dX8_goes_191 ?_
                    refine lv_aload_n hx hb dX8_goes_192 rfl (lv_at hl 2 rfl) ?_
                    refine g_get hC V (ci := 8) uwX8 0 rfl rfl 1 (by decide) w_913 rfl rfl dX8_goes_193 ?_
                    refine lv_iconst (v := (nI 2)) hx hb dX8_goes_196 (by decide +kernel) ?_
                    obtain ⟨j_13, hj_13, ej_13⟩ := bd_ex (mi_lost hf_7.1)
                    refine g_iald hC V 1 rfl (vp_in_nI (by decide) (by decide)) (v := (nI j_13)) (by rw [nI_clamp (by omega)]; exact ej_13) dX8_goes_197 ?_
                    refine lv_icmp_le (tgt := 221) hx hb dX8_goes_198 (by decide) (fun c_14 => ?_) (fun c_14 => ?_)
                    · skip
                      have c_14 := b_le (by omega) (by omega) c_14
                      refine lv_iconst (v := (nI 0)) hx hb dX8_goes_221 (by decide +kernel) ?_
                      obtain ⟨f_15, ef_15⟩ : ∃ x, x = upd f_7 (64 + k100) (nI 0) := ⟨_, rfl⟩
                      have hf_15 : MS n fa f_15 := by rw [ef_15]; exact ms_st (by assumption) (by omega) (by omega) (by intros; first | (exfalso; omega) | exact bd_nI (by omega) | exact bd_le ‹bd (nI 0) _› (by omega) | assumption) (by intros; first | (exfalso; omega) | exact bd_nI (by omega) | exact bd_le ‹bd (nI 0) _› (by omega) | assumption) (by intros; first | (exfalso; omega) | exact bd_nI (by omega) | exact bd_le ‹bd (nI 0) _› (by omega) | assumption) (by intros; first | (exfalso; omega) | exact bd_nI (by omega) | exact bd_le ‹bd (nI 0) _› (by omega) | assumption) (by intros; first | (exfalso; omega) | exact bd_nI (by omega) | exact bd_le ‹bd (nI 0) _› (by omega) | assumption) (by intros; first | (exfalso; omega) | exact bd_nI (by omega) | exact bd_le ‹bd (nI 0) _› (by omega) | assumption) (by intros; first | (exfalso; omega) | exact bd_nI (by omega) | exact bd_le ‹bd (nI 0) _› (by omega) | assumption)
                      refine g_iast hC V 1 rfl (vp_in_nI (by omega) (by omega)) (f' := f_15) (by rw [nI_clamp (by omega)]; exact ef_15.symm) (ws' := [(o, .inr (8, [.int w0, .ref g1, .ref g2, .ref g3, .ref g4, .int (nI tp), .int w6, .int w7, .int w8, .int w9, .int w10, .int w11, .int w12, .int w13, .int w14, .ref g15, .int bv, .ref g17, .int w18, .int w19, .ref g20, .int w21, .ref g22, .ref g23, .ref g24, .int w25, .int w26, .int w27, .ref g28, .ref g29, .int w30, .ref g31, .ref g32, .ref g33])), (g1, .inl (T 0, 282, .inl f_15)), (g15, .inl (T 0, 10, .inl th6))]) rfl dX8_goes_222 (fun H locs V => ?_)
                      refine lv_aload_n hx hb dX8_goes_223 rfl (lv_at hl 2 rfl) ?_
                      refine g_get hC V (ci := 8) uwX8 0 rfl rfl 1 (by decide) w_913 rfl rfl dX8_goes_224 ?_
                      refine lv_bipush (v := (nI 74)) hx hb dX8_goes_227 (by decide +kernel) ?_
                      refine lv_iload hx hb dX8_goes_229 (lv_at hl 0 rfl) ?_
                      refine lv_iadd hx hb dX8_goes_231 ?_
                      refine g_vi (y := (nI (74 + k100))) (nI_add _ _) ?_
                      refine lv_dup2_11 hx hb dX8_goes_232 rfl rfl ?_
                      refine g_iald hC V 1 rfl (vp_in_nI (by omega) (by omega)) (v := (f_15 (74 + k100))) (congrArg _ (nI_clamp (by omega))) dX8_goes_233 ?_
                      refine lv_iconst (v := (nI 1)) hx hb dX8_goes_234 (by decide +kernel) ?_
                      refine lv_iadd hx hb dX8_goes_235 ?_
                      obtain ⟨f_16, ef_16⟩ : ∃ x, x = upd f_15 (74 + k100) ((f_15 (74 + k100)) + (nI 1)) := ⟨_, rfl⟩
                      have hf_16 : MS n fa f_16 := by rw [ef_16]; exact ms_st (by assumption) (by omega) (by omega) (by intros; first | (exfalso; omega) | assumption) (by intros; first | (exfalso; omega) | assumption) (by intros; first | (exfalso; omega) | assumption) (by intros; first | (exfalso; omega) | assumption) (by intros; first | (exfalso; omega) | assumption) (by intros; first | (exfalso; omega) | assumption) (by intros; first | (exfalso; omega) | assumption)
                      refine g_iast hC V 1 rfl (vp_in_nI (by omega) (by omega)) (f' := f_16) (by rw [nI_clamp (by omega)]; exact ef_16.symm) (ws' := [(o, .inr (8, [.int w0, .ref g1, .ref g2, .ref g3, .ref g4, .int (nI tp), .int w6, .int w7, .int w8, .int w9, .int w10, .int w11, .int w12, .int w13, .int w14, .ref g15, .int bv, .ref g17, .int w18, .int w19, .ref g20, .int w21, .ref g22, .ref g23, .ref g24, .int w25, .int w26, .int w27, .ref g28, .ref g29, .int w30, .ref g31, .ref g32, .ref g33])), (g1, .inl (T 0, 282, .inl f_16)), (g15, .inl (T 0, 10, .inl th6))]) rfl dX8_goes_236 (fun H locs V => ?_)
                      refine lv_aload_n hx hb dX8_goes_237 rfl (lv_at hl 2 rfl) ?_
                      refine lv_dup hx hb dX8_goes_238 rfl ?_
                      refine g_get hC V (ci := 8) uwX8 0 rfl rfl 16 (by decide) w_928 rfl rfl dX8_goes_239 ?_
                      refine lv_iconst (v := (nI 1)) hx hb dX8_goes_242 (by decide +kernel) ?_
                      refine lv_iadd hx hb dX8_goes_243 ?_
                      refine g_put hC V (ci := 8) uwX8 tyX8 tyX8_ok nmX8 0 rfl rfl 16 (by decide) w_928 rfl rfl rfl rfl (Nat.le_of_ble_eq_true rfl) (ws' := [(o, .inr (8, [.int w0, .ref g1, .ref g2, .ref g3, .ref g4, .int (nI tp), .int w6, .int w7, .int w8, .int w9, .int w10, .int w11, .int w12, .int w13, .int w14, .ref g15, .int (bv + (nI 1)), .ref g17, .int w18, .int w19, .ref g20, .int w21, .ref g22, .ref g23, .ref g24, .int w25, .int w26, .int w27, .ref g28, .ref g29, .int w30, .ref g31, .ref g32, .ref g33])), (g1, .inl (T 0, 282, .inl f_16)), (g15, .inl (T 0, 10, .inl th6))]) rfl dX8_goes_244 (fun H locs V => ?_)
                      refine lv_iinc (v := (nI (k100 + 1))) (lv' := [(6, .int (nI (k100 + 1))), (5, .int x6_5), (0, .ref o), (1, .int pl), (2, .int sk), (3, .int fi), (4, .int mr)]) hx hb dX8_goes_247 hl (k := 0) rfl (nI_1 _) (by decide) rfl (fun ls hl => ?_)
                      refine lv_goto (tgt := 100) hx hb dX8_goes_250 (by decide) ?_
                      exact ih_100 (k100 + 1) (bv + (nI 1)) f_16 (by omega) (by assumption) (by omega) _ _ _ V (lv_sub hl [0, 1, 2, 3, 4, 5, 6] rfl)
                    · skip
                      have c_14 := b_nle (by omega) (by omega) c_14
                      refine lv_aload_n hx hb dX8_goes_201 rfl (lv_at hl 2 rfl) ?_
                      refine g_get hC V (ci := 8) uwX8 0 rfl rfl 1 (by decide) w_913 rfl rfl dX8_goes_202 ?_
                      refine lv_bipush (v := (nI 64)) hx hb dX8_goes_205 (by decide +kernel) ?_
                      refine lv_iload hx hb dX8_goes_207 (lv_at hl 0 rfl) ?_
                      refine lv_iadd hx hb dX8_goes_209 ?_
                      refine g_vi (y := (nI (64 + k100))) (nI_add _ _) ?_
                      refine g_iald hC V 1 rfl (vp_in_nI (by omega) (by omega)) (v := (nI j_10)) (by rw [nI_clamp (by omega)]; exact ej_10) dX8_goes_210 ?_
                      refine lv_aload_n hx hb dX8_goes_211 rfl (lv_at hl 2 rfl) ?_
                      refine g_get hC V (ci := 8) uwX8 0 rfl rfl 1 (by decide) w_913 rfl rfl dX8_goes_212 ?_
                      refine lv_iconst (v := (nI 2)) hx hb dX8_goes_215 (by decide +kernel) ?_
                      refine g_iald hC V 1 rfl (vp_in_nI (by decide) (by decide)) (v := (nI j_13)) (by rw [nI_clamp (by omega)]; exact ej_13) dX8_goes_216 ?_
                      refine lv_isub hx hb dX8_goes_217 ?_
                      refine g_vi (y := (nI (j_10 - j_13))) (nI_sub (by omega)) ?_
                      refine lv_goto (tgt := 222) hx hb dX8_goes_218 (by decide) ?_
                      obtain ⟨f_17, ef_17⟩ : ∃ x, x = upd f_7 (64 + k100) (nI (j_10 - j_13)) := ⟨_, rfl⟩
                      have hf_17 : MS n fa f_17 := by rw [ef_17]; exact ms_st (by assumption) (by omega) (by omega) (by intros; first | (exfalso; omega) | exact bd_nI (by omega) | exact bd_le ‹bd (nI (j_10 - j_13)) _› (by omega) | assumption) (by intros; first | (exfalso; omega) | exact bd_nI (by omega) | exact bd_le ‹bd (nI (j_10 - j_13)) _› (by omega) | assumption) (by intros; first | (exfalso; omega) | exact bd_nI (by omega) | exact bd_le ‹bd (nI (j_10 - j_13)) _› (by omega) | assumption) (by intros; first | (exfalso; omega) | exact bd_nI (by omega) | exact bd_le ‹bd (nI (j_10 - j_13)) _› (by omega) | assumption) (by intros; first | (exfalso; omega) | exact bd_nI (by omega) | exact bd_le ‹bd (nI (j_10 - j_13)) _› (by omega) | assumption) (by intros; first | (exfalso; omega) | exact bd_nI (by omega) | exact bd_le ‹bd (nI (j_10 - j_13)) _› (by omega) | assumption) (by intros; first | (exfalso; omega) | exact bd_nI (by omega) | exact bd_le ‹bd (nI (j_10 - j_13)) _› (by omega) | assumption)
                      refine g_iast hC V 1 rfl (vp_in_nI (by omega) (by omega)) (f' := f_17) (by rw [nI_clamp (by omega)]; exact ef_17.symm) (ws' := [(o, .inr (8, [.int w0, .ref g1, .ref g2, .ref g3, .ref g4, .int (nI tp), .int w6, .int w7, .int w8, .int w9, .int w10, .int w11, .int w12, .int w13, .int w14, .ref g15, .int bv, .ref g17, .int w18, .int w19, .ref g20, .int w21, .ref g22, .ref g23, .ref g24, .int w25, .int w26, .int w27, .ref g28, .ref g29, .int w30, .ref g31, .ref g32, .ref g33])), (g1, .inl (T 0, 282, .inl f_17)), (g15, .inl (T 0, 10, .inl th6))]) rfl dX8_goes_222 (fun H locs V => ?_)
                      refine lv_aload_n hx hb dX8_goes_223 rfl (lv_at hl 2 rfl) ?_
                      refine g_get hC V (ci := 8) uwX8 0 rfl rfl 1 (by decide) w_913 rfl rfl dX8_goes_224 ?_
                      refine lv_bipush (v := (nI 74)) hx hb dX8_goes_227 (by decide +kernel) ?_
                      refine lv_iload hx hb dX8_goes_229 (lv_at hl 0 rfl) ?_
                      refine lv_iadd hx hb dX8_goes_231 ?_
                      refine g_vi (y := (nI (74 + k100))) (nI_add _ _) ?_
                      refine lv_dup2_11 hx hb dX8_goes_232 rfl rfl ?_
                      refine g_iald hC V 1 rfl (vp_in_nI (by omega) (by omega)) (v := (f_17 (74 + k100))) (congrArg _ (nI_clamp (by omega))) dX8_goes_233 ?_
                      refine lv_iconst (v := (nI 1)) hx hb dX8_goes_234 (by decide +kernel) ?_
                      refine lv_iadd hx hb dX8_goes_235 ?_
                      obtain ⟨f_18, ef_18⟩ : ∃ x, x = upd f_17 (74 + k100) ((f_17 (74 + k100)) + (nI 1)) := ⟨_, rfl⟩
                      have hf_18 : MS n fa f_18 := by rw [ef_18]; exact ms_st (by assumption) (by omega) (by omega) (by intros; first | (exfalso; omega) | assumption) (by intros; first | (exfalso; omega) | assumption) (by intros; first | (exfalso; omega) | assumption) (by intros; first | (exfalso; omega) | assumption) (by intros; first | (exfalso; omega) | assumption) (by intros; first | (exfalso; omega) | assumption) (by intros; first | (exfalso; omega) | assumption)
                      refine g_iast hC V 1 rfl (vp_in_nI (by omega) (by omega)) (f' := f_18) (by rw [nI_clamp (by omega)]; exact ef_18.symm) (ws' := [(o, .inr (8, [.int w0, .ref g1, .ref g2, .ref g3, .ref g4, .int (nI tp), .int w6, .int w7, .int w8, .int w9, .int w10, .int w11, .int w12, .int w13, .int w14, .ref g15, .int bv, .ref g17, .int w18, .int w19, .ref g20, .int w21, .ref g22, .ref g23, .ref g24, .int w25, .int w26, .int w27, .ref g28, .ref g29, .int w30, .ref g31, .ref g32, .ref g33])), (g1, .inl (T 0, 282, .inl f_18)), (g15, .inl (T 0, 10, .inl th6))]) rfl dX8_goes_236 (fun H locs V => ?_)
                      refine lv_aload_n hx hb dX8_goes_237 rfl (lv_at hl 2 rfl) ?_
                      refine lv_dup hx hb dX8_goes_238 rfl ?_
                      refine g_get hC V (ci := 8) uwX8 0 rfl rfl 16 (by decide) w_928 rfl rfl dX8_goes_239 ?_
                      refine lv_iconst (v := (nI 1)) hx hb dX8_goes_242 (by decide +kernel) ?_
                      refine lv_iadd hx hb dX8_goes_243 ?_
                      refine g_put hC V (ci := 8) uwX8 tyX8 tyX8_ok nmX8 0 rfl rfl 16 (by decide) w_928 rfl rfl rfl rfl (Nat.le_of_ble_eq_true rfl) (ws' := [(o, .inr (8, [.int w0, .ref g1, .ref g2, .ref g3, .ref g4, .int (nI tp), .int w6, .int w7, .int w8, .int w9, .int w10, .int w11, .int w12, .int w13, .int w14, .ref g15, .int (bv + (nI 1)), .ref g17, .int w18, .int w19, .ref g20, .int w21, .ref g22, .ref g23, .ref g24, .int w25, .int w26, .int w27, .ref g28, .ref g29, .int w30, .ref g31, .ref g32, .ref g33])), (g1, .inl (T 0, 282, .inl f_18)), (g15, .inl (T 0, 10, .inl th6))]) rfl dX8_goes_244 (fun H locs V => ?_)
                      refine lv_iinc (v := (nI (k100 + 1))) (lv' := [(6, .int (nI (k100 + 1))), (5, .int x6_5), (0, .ref o), (1, .int pl), (2, .int sk), (3, .int fi), (4, .int mr)]) hx hb dX8_goes_247 hl (k := 0) rfl (nI_1 _) (by decide) rfl (fun ls hl => ?_)
                      refine lv_goto (tgt := 100) hx hb dX8_goes_250 (by decide) ?_
                      exact ih_100 (k100 + 1) (bv + (nI 1)) f_18 (by omega) (by assumption) (by omega) _ _ _ V (lv_sub hl [0, 1, 2, 3, 4, 5, 6] rfl)
                  · skip
                    refine lv_goto (tgt := 247) hx hb dX8_goes_170 (by decide) ?_
                    refine lv_iinc (v := (nI (k100 + 1))) (lv' := [(6, .int (nI (k100 + 1))), (5, .int x6_5), (0, .ref o), (1, .int pl), (2, .int sk), (3, .int fi), (4, .int mr)]) hx hb dX8_goes_247 hl (k := 0) rfl (nI_1 _) (by decide) rfl (fun ls hl => ?_)
                    refine lv_goto (tgt := 100) hx hb dX8_goes_250 (by decide) ?_
                    exact ih_100 (k100 + 1) bv f_7 (by omega) (by assumption) (by omega) _ _ _ V (lv_sub hl [0, 1, 2, 3, 4, 5, 6] rfl)
        exact L_3 _ 0 w16 f6 (by omega) (by assumption) (Nat.lt_succ_self _) _ _ _ V (lv_sub hl [0, 1, 2, 3, 4, 5, 6] rfl)
      · skip
        have c_2 := b_nle (by omega) (by omega) c_2
        refine lv_aload_n hx hb dX8_goes_17 rfl (lv_at hl 2 rfl) ?_
        refine g_get hC V (ci := 8) uwX8 0 rfl rfl 15 (by decide) w_927 rfl rfl dX8_goes_18 ?_
        refine lv_iload hx hb dX8_goes_21 (lv_at hl 0 rfl) ?_
        refine lv_aload_n hx hb dX8_goes_23 rfl (lv_at hl 2 rfl) ?_
        refine lv_iload hx hb dX8_goes_24 (lv_at hl 0 rfl) ?_
        refine lv_iload_n hx hb dX8_goes_26 rfl (lv_at hl 3 rfl) ?_
        refine lv_iload hx hb dX8_goes_27 (lv_at hl 0 rfl) ?_
        refine lv_iload_n hx hb dX8_goes_29 rfl (lv_at hl 5 rfl) ?_
        refine lv_icmp_ne (tgt := 38) hx hb dX8_goes_30 (by decide) (fun c_19 => ?_) (fun c_19 => ?_)
        · skip
          refine lv_iconst (v := (nI 0)) hx hb dX8_goes_38 (by decide +kernel) ?_
          refine g_callVU (nA := 3) hC V hl.1 (m_heatThen l D T n o k6 pl (nI 0) w0 g1 g2 g3 g4 tp w6 w7 w8 w9 w10 w11 w12 w13 w14 g15 w16 g17 w18 w19 g20 w21 g22 g23 g24 w25 w26 w27 g28 g29 w30 g31 g32 g33 f6 hf6.1 (by first | assumption | omega)) w_1126 w_1128 w_s51 w_9 w_1129 (by decide +kernel) rfl ⟨(Nat.le_of_ble_eq_true rfl), (Nat.le_of_ble_eq_true rfl)⟩ 0 (ci := 8) rfl rfl [0, 1] rfl rfl (Nat.le_of_ble_eq_true rfl) dX8_goes_39 ⟨(Nat.le_of_ble_eq_true rfl), (Nat.le_of_ble_eq_true rfl)⟩ rfl (fun r w1 H locs hQ V => ?_)
          obtain ⟨z_20, rfl, rfl, f_21⟩ := hQ
          have V : gW D T A s [(o, .inr (8, [.int w0, .ref g1, .ref g2, .ref g3, .ref g4, .int (nI tp), .int w6, .int w7, .int w8, .int w9, .int w10, .int w11, .int w12, .int w13, .int w14, .ref g15, .int w16, .ref g17, .int w18, .int w19, .ref g20, .int w21, .ref g22, .ref g23, .ref g24, .int w25, .int w26, .int w27, .ref g28, .ref g29, .int w30, .ref g31, .ref g32, .ref g33])), (g1, .inl (T 0, 282, .inl f6)), (g15, .inl (T 0, 10, .inl th6))] H locs := V _ [0, 0] rfl rfl rfl (by decide +kernel) rfl
          show W p l e _ s m args below meth c H locs _ _ _ (F0 m 42 ls [.int z_20, .int (nI k6), .ref g15])
          refine g_iast hC V 2 rfl (vp_in_nI (by omega) (by omega)) (f' := (upd th6 k6 z_20)) (by rw [nI_clamp (by omega)]) (ws' := [(o, .inr (8, [.int w0, .ref g1, .ref g2, .ref g3, .ref g4, .int (nI tp), .int w6, .int w7, .int w8, .int w9, .int w10, .int w11, .int w12, .int w13, .int w14, .ref g15, .int w16, .ref g17, .int w18, .int w19, .ref g20, .int w21, .ref g22, .ref g23, .ref g24, .int w25, .int w26, .int w27, .ref g28, .ref g29, .int w30, .ref g31, .ref g32, .ref g33])), (g1, .inl (T 0, 282, .inl f6)), (g15, .inl (T 0, 10, .inl (upd th6 k6 z_20)))]) rfl dX8_goes_42 (fun H locs V => ?_)
          refine lv_iload_n hx hb dX8_goes_43 rfl (lv_at hl 4 rfl) ?_
          refine lv_i2l (v := sk.toInt64) hx hb dX8_goes_44 rfl ?_
          refine lv_iload hx hb dX8_goes_45 (lv_at hl 0 rfl) ?_
          refine g_callSU (nA := 2) hC V hl.1 (m_isIn l D T sk.toInt64 (nI k6)) w_1130 w_1131 w_9 w_1132 (by decide +kernel) rfl ⟨(Nat.le_of_ble_eq_true rfl), (Nat.le_of_ble_eq_true rfl)⟩ [] rfl rfl (Nat.le_of_ble_eq_true rfl) dX8_goes_47 ⟨(Nat.le_of_ble_eq_true rfl), (Nat.le_of_ble_eq_true rfl)⟩ rfl (fun r w1 H locs hQ V => ?_)
          rcases hQ with ⟨rfl, rfl⟩ | ⟨rfl, rfl⟩
          · have V : gW D T A s [(o, .inr (8, [.int w0, .ref g1, .ref g2, .ref g3, .ref g4, .int (nI tp), .int w6, .int w7, .int w8, .int w9, .int w10, .int w11, .int w12, .int w13, .int w14, .ref g15, .int w16, .ref g17, .int w18, .int w19, .ref g20, .int w21, .ref g22, .ref g23, .ref g24, .int w25, .int w26, .int w27, .ref g28, .ref g29, .int w30, .ref g31, .ref g32, .ref g33])), (g1, .inl (T 0, 282, .inl f6)), (g15, .inl (T 0, 10, .inl (upd th6 k6 z_20)))] H locs := V _ [] rfl rfl rfl (by decide +kernel) rfl
            show W p l e _ s m args below meth c H locs _ _ _ (F0 m 50 ls [.int (nI 1)])
            refine lv_if_eq (tgt := 91) hx hb dX8_goes_50 (by decide) (fun c => absurd (show (nI 1) = 0 from c) (by decide +kernel)) (fun _ => ?_)
            refine lv_aload_n hx hb dX8_goes_53 rfl (lv_at hl 2 rfl) ?_
            refine lv_iload hx hb dX8_goes_54 (lv_at hl 0 rfl) ?_
            refine g_callVU (nA := 1) hC V hl.1 (m_isDone l D T o k6 w0 g1 g2 g3 g4 tp w6 w7 w8 w9 w10 w11 w12 w13 w14 g15 w16 g17 w18 w19 g20 w21 g22 g23 g24 w25 w26 w27 g28 g29 w30 g31 g32 g33 f6 (by first | assumption | omega)) w_1088 w_1090 w_s47 w_9 w_1091 (by decide +kernel) rfl ⟨(Nat.le_of_ble_eq_true rfl), (Nat.le_of_ble_eq_true rfl)⟩ 0 (ci := 8) rfl rfl [0, 1] rfl rfl (Nat.le_of_ble_eq_true rfl) dX8_goes_56 ⟨(Nat.le_of_ble_eq_true rfl), (Nat.le_of_ble_eq_true rfl)⟩ rfl (fun r w1 H locs hQ V => ?_)
            rcases hQ with ⟨rfl, rfl, f_22⟩ | ⟨rfl, rfl, f_23⟩
            · have V : gW D T A s [(o, .inr (8, [.int w0, .ref g1, .ref g2, .ref g3, .ref g4, .int (nI tp), .int w6, .int w7, .int w8, .int w9, .int w10, .int w11, .int w12, .int w13, .int w14, .ref g15, .int w16, .ref g17, .int w18, .int w19, .ref g20, .int w21, .ref g22, .ref g23, .ref g24, .int w25, .int w26, .int w27, .ref g28, .ref g29, .int w30, .ref g31, .ref g32, .ref g33])), (g1, .inl (T 0, 282, .inl f6)), (g15, .inl (T 0, 10, .inl (upd th6 k6 z_20)))] H locs := V _ [0, 0] rfl rfl rfl (by decide +kernel) rfl
              show W p l e _ s m args below meth c H locs _ _ _ (F0 m 59 ls [.int (nI 1)])
              refine lv_if_ne (tgt := 91) hx hb dX8_goes_59 (by decide) (fun _ => ?_) (fun c => absurd (show (nI 1) = 0 from c) (by decide +kernel))
              refine lv_iinc (v := (nI (k6 + 1))) (lv' := [(6, .int (nI (k6 + 1))), (5, .int x6_5), (0, .ref o), (1, .int pl), (2, .int sk), (3, .int fi), (4, .int mr)]) hx hb dX8_goes_91 hl (k := 0) rfl (nI_1 _) (by decide) rfl (fun ls hl => ?_)
              refine lv_goto (tgt := 6) hx hb dX8_goes_94 (by decide) ?_
              exact ih_6 (k6 + 1) x6_5 (upd th6 k6 z_20) f6 (by omega) (by assumption) (up_one (p := fun _ x => bd x 201) hth6 (by assumption)) (by omega) _ _ _ V (lv_sub hl [0, 1, 2, 3, 4, 5, 6] rfl)
            · have V : gW D T A s [(o, .inr (8, [.int w0, .ref g1, .ref g2, .ref g3, .ref g4, .int (nI tp), .int w6, .int w7, .int w8, .int w9, .int w10, .int w11, .int w12, .int w13, .int w14, .ref g15, .int w16, .ref g17, .int w18, .int w19, .ref g20, .int w21, .ref g22, .ref g23, .ref g24, .int w25, .int w26, .int w27, .ref g28, .ref g29, .int w30, .ref g31, .ref g32, .ref g33])), (g1, .inl (T 0, 282, .inl f6)), (g15, .inl (T 0, 10, .inl (upd th6 k6 z_20)))] H locs := V _ [0, 0] rfl rfl rfl (by decide +kernel) rfl
              show W p l e _ s m args below meth c H locs _ _ _ (F0 m 59 ls [.int (nI 0)])
              refine lv_if_ne (tgt := 91) hx hb dX8_goes_59 (by decide) (fun c => absurd (show (nI 0) = 0 by decide +kernel) c) (fun _ => ?_)
              refine lv_aload_n hx hb dX8_goes_62 rfl (lv_at hl 2 rfl) ?_
              refine lv_iload hx hb dX8_goes_63 (lv_at hl 0 rfl) ?_
              refine g_callVU (nA := 1) hC V hl.1 (m_isWarm l D T o k6 w0 g1 g2 g3 g4 tp w6 w7 w8 w9 w10 w11 w12 w13 w14 g15 w16 g17 w18 w19 g20 w21 g22 g23 g24 w25 w26 w27 g28 g29 w30 g31 g32 g33 f6 (by first | assumption | omega)) w_1136 w_1138 w_s52 w_9 w_1139 (by decide +kernel) rfl ⟨(Nat.le_of_ble_eq_true rfl), (Nat.le_of_ble_eq_true rfl)⟩ 0 (ci := 8) rfl rfl [0, 1] rfl rfl (Nat.le_of_ble_eq_true rfl) dX8_goes_65 ⟨(Nat.le_of_ble_eq_true rfl), (Nat.le_of_ble_eq_true rfl)⟩ rfl (fun r w1 H locs hQ V => ?_)
              rcases hQ with ⟨rfl, rfl⟩ | ⟨rfl, rfl⟩
              · have V : gW D T A s [(o, .inr (8, [.int w0, .ref g1, .ref g2, .ref g3, .ref g4, .int (nI tp), .int w6, .int w7, .int w8, .int w9, .int w10, .int w11, .int w12, .int w13, .int w14, .ref g15, .int w16, .ref g17, .int w18, .int w19, .ref g20, .int w21, .ref g22, .ref g23, .ref g24, .int w25, .int w26, .int w27, .ref g28, .ref g29, .int w30, .ref g31, .ref g32, .ref g33])), (g1, .inl (T 0, 282, .inl f6)), (g15, .inl (T 0, 10, .inl (upd th6 k6 z_20)))] H locs := V _ [0, 0] rfl rfl rfl (by decide +kernel) rfl
                show W p l e _ s m args below meth c H locs _ _ _ (F0 m 68 ls [.int (nI 1)])
                refine lv_if_ne (tgt := 74) hx hb dX8_goes_68 (by decide) (fun _ => ?_) (fun c => absurd (show (nI 1) = 0 from c) (by decide +kernel))
                refine lv_aload_n hx hb dX8_goes_74 rfl (lv_at hl 2 rfl) ?_
                refine g_get hC V (ci := 8) uwX8 0 rfl rfl 1 (by decide) w_913 rfl rfl dX8_goes_75 ?_
                refine lv_bipush (v := (nI 64)) hx hb dX8_goes_78 (by decide +kernel) ?_
                refine lv_iload hx hb dX8_goes_80 (lv_at hl 0 rfl) ?_
                refine lv_iadd hx hb dX8_goes_82 ?_
                refine g_vi (y := (nI (64 + k6))) (nI_add _ _) ?_
                refine lv_dup2_11 hx hb dX8_goes_83 rfl rfl ?_
                obtain ⟨j_24, hj_24, ej_24⟩ := bd_ex (mi_has hf6.1 (i := k6) (by omega))
                refine g_iald hC V 1 rfl (vp_in_nI (by omega) (by omega)) (v := (nI j_24)) (by rw [nI_clamp (by omega)]; exact ej_24) dX8_goes_84 ?_
                refine lv_iconst (v := (nI 1)) hx hb dX8_goes_85 (by decide +kernel) ?_
                refine lv_iadd hx hb dX8_goes_86 ?_
                refine g_vi (y := (nI (j_24 + 1))) (nI_add _ _) ?_
                have hlt := bd_lt (mi_has hf6.1 (i := k6) (by omega)) (by decide) (mi_need hf6.1 (i := k6) (by omega)) (by decide) (by assumption) ej_24 (by omega)
                obtain ⟨f_25, ef_25⟩ : ∃ x, x = upd f6 (64 + k6) (nI (j_24 + 1)) := ⟨_, rfl⟩
                have hf_25 : MS n fa f_25 := by rw [ef_25]; exact ms_st (by assumption) (by omega) (by omega) (by intros; first | (exfalso; omega) | exact bd_nI (by omega) | exact bd_le ‹bd (nI (j_24 + 1)) _› (by omega) | assumption) (by intros; first | (exfalso; omega) | exact bd_nI (by omega) | exact bd_le ‹bd (nI (j_24 + 1)) _› (by omega) | assumption) (by intros; first | (exfalso; omega) | exact bd_nI (by omega) | exact bd_le ‹bd (nI (j_24 + 1)) _› (by omega) | assumption) (by intros; first | (exfalso; omega) | exact bd_nI (by omega) | exact bd_le ‹bd (nI (j_24 + 1)) _› (by omega) | assumption) (by intros; first | (exfalso; omega) | exact bd_nI (by omega) | exact bd_le ‹bd (nI (j_24 + 1)) _› (by omega) | assumption) (by intros; first | (exfalso; omega) | exact bd_nI (by omega) | exact bd_le ‹bd (nI (j_24 + 1)) _› (by omega) | assumption) (by intros; first | (exfalso; omega) | exact bd_nI (by omega) | exact bd_le ‹bd (nI (j_24 + 1)) _› (by omega) | assumption)
                refine g_iast hC V 1 rfl (vp_in_nI (by omega) (by omega)) (f' := f_25) (by rw [nI_clamp (by omega)]; exact ef_25.symm) (ws' := [(o, .inr (8, [.int w0, .ref g1, .ref g2, .ref g3, .ref g4, .int (nI tp), .int w6, .int w7, .int w8, .int w9, .int w10, .int w11, .int w12, .int w13, .int w14, .ref g15, .int w16, .ref g17, .int w18, .int w19, .ref g20, .int w21, .ref g22, .ref g23, .ref g24, .int w25, .int w26, .int w27, .ref g28, .ref g29, .int w30, .ref g31, .ref g32, .ref g33])), (g1, .inl (T 0, 282, .inl f_25)), (g15, .inl (T 0, 10, .inl (upd th6 k6 z_20)))]) rfl dX8_goes_87 (fun H locs V => ?_)
                refine lv_iinc (v := (x6_5 + 1)) (lv' := [(5, .int (x6_5 + 1)), (6, .int (nI k6)), (0, .ref o), (1, .int pl), (2, .int sk), (3, .int fi), (4, .int mr)]) hx hb dX8_goes_88 hl (k := 1) rfl rfl (by decide) rfl (fun ls hl => ?_)
                refine lv_iinc (v := (nI (k6 + 1))) (lv' := [(6, .int (nI (k6 + 1))), (5, .int (x6_5 + 1)), (0, .ref o), (1, .int pl), (2, .int sk), (3, .int fi), (4, .int mr)]) hx hb dX8_goes_91 hl (k := 1) rfl (nI_1 _) (by decide) rfl (fun ls hl => ?_)
                refine lv_goto (tgt := 6) hx hb dX8_goes_94 (by decide) ?_
                exact ih_6 (k6 + 1) (x6_5 + 1) (upd th6 k6 z_20) f_25 (by omega) (by assumption) (up_one (p := fun _ x => bd x 201) hth6 (by assumption)) (by omega) _ _ _ V (lv_sub hl [0, 1, 2, 3, 4, 5, 6] rfl)
              · have V : gW D T A s [(o, .inr (8, [.int w0, .ref g1, .ref g2, .ref g3, .ref g4, .int (nI tp), .int w6, .int w7, .int w8, .int w9, .int w10, .int w11, .int w12, .int w13, .int w14, .ref g15, .int w16, .ref g17, .int w18, .int w19, .ref g20, .int w21, .ref g22, .ref g23, .ref g24, .int w25, .int w26, .int w27, .ref g28, .ref g29, .int w30, .ref g31, .ref g32, .ref g33])), (g1, .inl (T 0, 282, .inl f6)), (g15, .inl (T 0, 10, .inl (upd th6 k6 z_20)))] H locs := V _ [0, 0] rfl rfl rfl (by decide +kernel) rfl
                show W p l e _ s m args below meth c H locs _ _ _ (F0 m 68 ls [.int (nI 0)])
                refine lv_if_ne (tgt := 74) hx hb dX8_goes_68 (by decide) (fun c => absurd (show (nI 0) = 0 by decide +kernel) c) (fun _ => ?_)
                refine lv_goto (tgt := 91) hx hb dX8_goes_71 (by decide) ?_
                refine lv_iinc (v := (nI (k6 + 1))) (lv' := [(6, .int (nI (k6 + 1))), (5, .int x6_5), (0, .ref o), (1, .int pl), (2, .int sk), (3, .int fi), (4, .int mr)]) hx hb dX8_goes_91 hl (k := 0) rfl (nI_1 _) (by decide) rfl (fun ls hl => ?_)
                refine lv_goto (tgt := 6) hx hb dX8_goes_94 (by decide) ?_
                exact ih_6 (k6 + 1) x6_5 (upd th6 k6 z_20) f6 (by omega) (by assumption) (up_one (p := fun _ x => bd x 201) hth6 (by assumption)) (by omega) _ _ _ V (lv_sub hl [0, 1, 2, 3, 4, 5, 6] rfl)
          · have V : gW D T A s [(o, .inr (8, [.int w0, .ref g1, .ref g2, .ref g3, .ref g4, .int (nI tp), .int w6, .int w7, .int w8, .int w9, .int w10, .int w11, .int w12, .int w13, .int w14, .ref g15, .int w16, .ref g17, .int w18, .int w19, .ref g20, .int w21, .ref g22, .ref g23, .ref g24, .int w25, .int w26, .int w27, .ref g28, .ref g29, .int w30, .ref g31, .ref g32, .ref g33])), (g1, .inl (T 0, 282, .inl f6)), (g15, .inl (T 0, 10, .inl (upd th6 k6 z_20)))] H locs := V _ [] rfl rfl rfl (by decide +kernel) rfl
            show W p l e _ s m args below meth c H locs _ _ _ (F0 m 50 ls [.int (nI 0)])
            refine lv_if_eq (tgt := 91) hx hb dX8_goes_50 (by decide) (fun _ => ?_) (fun c => absurd (show (nI 0) = 0 by decide +kernel) c)
            refine lv_iinc (v := (nI (k6 + 1))) (lv' := [(6, .int (nI (k6 + 1))), (5, .int x6_5), (0, .ref o), (1, .int pl), (2, .int sk), (3, .int fi), (4, .int mr)]) hx hb dX8_goes_91 hl (k := 0) rfl (nI_1 _) (by decide) rfl (fun ls hl => ?_)
            refine lv_goto (tgt := 6) hx hb dX8_goes_94 (by decide) ?_
            exact ih_6 (k6 + 1) x6_5 (upd th6 k6 z_20) f6 (by omega) (by assumption) (up_one (p := fun _ x => bd x 201) hth6 (by assumption)) (by omega) _ _ _ V (lv_sub hl [0, 1, 2, 3, 4, 5, 6] rfl)
        · skip
          refine lv_iload hx hb dX8_goes_33 (lv_at hl 6 rfl) ?_
          refine lv_goto (tgt := 39) hx hb dX8_goes_35 (by decide) ?_
          refine g_callVU (nA := 3) hC V hl.1 (m_heatThen l D T n o k6 pl mr w0 g1 g2 g3 g4 tp w6 w7 w8 w9 w10 w11 w12 w13 w14 g15 w16 g17 w18 w19 g20 w21 g22 g23 g24 w25 w26 w27 g28 g29 w30 g31 g32 g33 f6 hf6.1 (by first | assumption | omega)) w_1126 w_1128 w_s51 w_9 w_1129 (by decide +kernel) rfl ⟨(Nat.le_of_ble_eq_true rfl), (Nat.le_of_ble_eq_true rfl)⟩ 0 (ci := 8) rfl rfl [0, 1] rfl rfl (Nat.le_of_ble_eq_true rfl) dX8_goes_39 ⟨(Nat.le_of_ble_eq_true rfl), (Nat.le_of_ble_eq_true rfl)⟩ rfl (fun r w1 H locs hQ V => ?_)
          obtain ⟨z_26, rfl, rfl, f_27⟩ := hQ
          have V : gW D T A s [(o, .inr (8, [.int w0, .ref g1, .ref g2, .ref g3, .ref g4, .int (nI tp), .int w6, .int w7, .int w8, .int w9, .int w10, .int w11, .int w12, .int w13, .int w14, .ref g15, .int w16, .ref g17, .int w18, .int w19, .ref g20, .int w21, .ref g22, .ref g23, .ref g24, .int w25, .int w26, .int w27, .ref g28, .ref g29, .int w30, .ref g31, .ref g32, .ref g33])), (g1, .inl (T 0, 282, .inl f6)), (g15, .inl (T 0, 10, .inl th6))] H locs := V _ [0, 0] rfl rfl rfl (by decide +kernel) rfl
          show W p l e _ s m args below meth c H locs _ _ _ (F0 m 42 ls [.int z_26, .int (nI k6), .ref g15])
          refine g_iast hC V 2 rfl (vp_in_nI (by omega) (by omega)) (f' := (upd th6 k6 z_26)) (by rw [nI_clamp (by omega)]) (ws' := [(o, .inr (8, [.int w0, .ref g1, .ref g2, .ref g3, .ref g4, .int (nI tp), .int w6, .int w7, .int w8, .int w9, .int w10, .int w11, .int w12, .int w13, .int w14, .ref g15, .int w16, .ref g17, .int w18, .int w19, .ref g20, .int w21, .ref g22, .ref g23, .ref g24, .int w25, .int w26, .int w27, .ref g28, .ref g29, .int w30, .ref g31, .ref g32, .ref g33])), (g1, .inl (T 0, 282, .inl f6)), (g15, .inl (T 0, 10, .inl (upd th6 k6 z_26)))]) rfl dX8_goes_42 (fun H locs V => ?_)
          refine lv_iload_n hx hb dX8_goes_43 rfl (lv_at hl 4 rfl) ?_
          refine lv_i2l (v := sk.toInt64) hx hb dX8_goes_44 rfl ?_
          refine lv_iload hx hb dX8_goes_45 (lv_at hl 0 rfl) ?_
          refine g_callSU (nA := 2) hC V hl.1 (m_isIn l D T sk.toInt64 (nI k6)) w_1130 w_1131 w_9 w_1132 (by decide +kernel) rfl ⟨(Nat.le_of_ble_eq_true rfl), (Nat.le_of_ble_eq_true rfl)⟩ [] rfl rfl (Nat.le_of_ble_eq_true rfl) dX8_goes_47 ⟨(Nat.le_of_ble_eq_true rfl), (Nat.le_of_ble_eq_true rfl)⟩ rfl (fun r w1 H locs hQ V => ?_)
          rcases hQ with ⟨rfl, rfl⟩ | ⟨rfl, rfl⟩
          · have V : gW D T A s [(o, .inr (8, [.int w0, .ref g1, .ref g2, .ref g3, .ref g4, .int (nI tp), .int w6, .int w7, .int w8, .int w9, .int w10, .int w11, .int w12, .int w13, .int w14, .ref g15, .int w16, .ref g17, .int w18, .int w19, .ref g20, .int w21, .ref g22, .ref g23, .ref g24, .int w25, .int w26, .int w27, .ref g28, .ref g29, .int w30, .ref g31, .ref g32, .ref g33])), (g1, .inl (T 0, 282, .inl f6)), (g15, .inl (T 0, 10, .inl (upd th6 k6 z_26)))] H locs := V _ [] rfl rfl rfl (by decide +kernel) rfl
            show W p l e _ s m args below meth c H locs _ _ _ (F0 m 50 ls [.int (nI 1)])
            refine lv_if_eq (tgt := 91) hx hb dX8_goes_50 (by decide) (fun c => absurd (show (nI 1) = 0 from c) (by decide +kernel)) (fun _ => ?_)
            refine lv_aload_n hx hb dX8_goes_53 rfl (lv_at hl 2 rfl) ?_
            refine lv_iload hx hb dX8_goes_54 (lv_at hl 0 rfl) ?_
            refine g_callVU (nA := 1) hC V hl.1 (m_isDone l D T o k6 w0 g1 g2 g3 g4 tp w6 w7 w8 w9 w10 w11 w12 w13 w14 g15 w16 g17 w18 w19 g20 w21 g22 g23 g24 w25 w26 w27 g28 g29 w30 g31 g32 g33 f6 (by first | assumption | omega)) w_1088 w_1090 w_s47 w_9 w_1091 (by decide +kernel) rfl ⟨(Nat.le_of_ble_eq_true rfl), (Nat.le_of_ble_eq_true rfl)⟩ 0 (ci := 8) rfl rfl [0, 1] rfl rfl (Nat.le_of_ble_eq_true rfl) dX8_goes_56 ⟨(Nat.le_of_ble_eq_true rfl), (Nat.le_of_ble_eq_true rfl)⟩ rfl (fun r w1 H locs hQ V => ?_)
            rcases hQ with ⟨rfl, rfl, f_28⟩ | ⟨rfl, rfl, f_29⟩
            · have V : gW D T A s [(o, .inr (8, [.int w0, .ref g1, .ref g2, .ref g3, .ref g4, .int (nI tp), .int w6, .int w7, .int w8, .int w9, .int w10, .int w11, .int w12, .int w13, .int w14, .ref g15, .int w16, .ref g17, .int w18, .int w19, .ref g20, .int w21, .ref g22, .ref g23, .ref g24, .int w25, .int w26, .int w27, .ref g28, .ref g29, .int w30, .ref g31, .ref g32, .ref g33])), (g1, .inl (T 0, 282, .inl f6)), (g15, .inl (T 0, 10, .inl (upd th6 k6 z_26)))] H locs := V _ [0, 0] rfl rfl rfl (by decide +kernel) rfl
              show W p l e _ s m args below meth c H locs _ _ _ (F0 m 59 ls [.int (nI 1)])
              refine lv_if_ne (tgt := 91) hx hb dX8_goes_59 (by decide) (fun _ => ?_) (fun c => absurd (show (nI 1) = 0 from c) (by decide +kernel))
              refine lv_iinc (v := (nI (k6 + 1))) (lv' := [(6, .int (nI (k6 + 1))), (5, .int x6_5), (0, .ref o), (1, .int pl), (2, .int sk), (3, .int fi), (4, .int mr)]) hx hb dX8_goes_91 hl (k := 0) rfl (nI_1 _) (by decide) rfl (fun ls hl => ?_)
              refine lv_goto (tgt := 6) hx hb dX8_goes_94 (by decide) ?_
              exact ih_6 (k6 + 1) x6_5 (upd th6 k6 z_26) f6 (by omega) (by assumption) (up_one (p := fun _ x => bd x 201) hth6 (by assumption)) (by omega) _ _ _ V (lv_sub hl [0, 1, 2, 3, 4, 5, 6] rfl)
            · have V : gW D T A s [(o, .inr (8, [.int w0, .ref g1, .ref g2, .ref g3, .ref g4, .int (nI tp), .int w6, .int w7, .int w8, .int w9, .int w10, .int w11, .int w12, .int w13, .int w14, .ref g15, .int w16, .ref g17, .int w18, .int w19, .ref g20, .int w21, .ref g22, .ref g23, .ref g24, .int w25, .int w26, .int w27, .ref g28, .ref g29, .int w30, .ref g31, .ref g32, .ref g33])), (g1, .inl (T 0, 282, .inl f6)), (g15, .inl (T 0, 10, .inl (upd th6 k6 z_26)))] H locs := V _ [0, 0] rfl rfl rfl (by decide +kernel) rfl
              show W p l e _ s m args below meth c H locs _ _ _ (F0 m 59 ls [.int (nI 0)])
              refine lv_if_ne (tgt := 91) hx hb dX8_goes_59 (by decide) (fun c => absurd (show (nI 0) = 0 by decide +kernel) c) (fun _ => ?_)
              refine lv_aload_n hx hb dX8_goes_62 rfl (lv_at hl 2 rfl) ?_
              refine lv_iload hx hb dX8_goes_63 (lv_at hl 0 rfl) ?_
              refine g_callVU (nA := 1) hC V hl.1 (m_isWarm l D T o k6 w0 g1 g2 g3 g4 tp w6 w7 w8 w9 w10 w11 w12 w13 w14 g15 w16 g17 w18 w19 g20 w21 g22 g23 g24 w25 w26 w27 g28 g29 w30 g31 g32 g33 f6 (by first | assumption | omega)) w_1136 w_1138 w_s52 w_9 w_1139 (by decide +kernel) rfl ⟨(Nat.le_of_ble_eq_true rfl), (Nat.le_of_ble_eq_true rfl)⟩ 0 (ci := 8) rfl rfl [0, 1] rfl rfl (Nat.le_of_ble_eq_true rfl) dX8_goes_65 ⟨(Nat.le_of_ble_eq_true rfl), (Nat.le_of_ble_eq_true rfl)⟩ rfl (fun r w1 H locs hQ V => ?_)
              rcases hQ with ⟨rfl, rfl⟩ | ⟨rfl, rfl⟩
              · have V : gW D T A s [(o, .inr (8, [.int w0, .ref g1, .ref g2, .ref g3, .ref g4, .int (nI tp), .int w6, .int w7, .int w8, .int w9, .int w10, .int w11, .int w12, .int w13, .int w14, .ref g15, .int w16, .ref g17, .int w18, .int w19, .ref g20, .int w21, .ref g22, .ref g23, .ref g24, .int w25, .int w26, .int w27, .ref g28, .ref g29, .int w30, .ref g31, .ref g32, .ref g33])), (g1, .inl (T 0, 282, .inl f6)), (g15, .inl (T 0, 10, .inl (upd th6 k6 z_26)))] H locs := V _ [0, 0] rfl rfl rfl (by decide +kernel) rfl
                show W p l e _ s m args below meth c H locs _ _ _ (F0 m 68 ls [.int (nI 1)])
                refine lv_if_ne (tgt := 74) hx hb dX8_goes_68 (by decide) (fun _ => ?_) (fun c => absurd (show (nI 1) = 0 from c) (by decide +kernel))
                refine lv_aload_n hx hb dX8_goes_74 rfl (lv_at hl 2 rfl) ?_
                refine g_get hC V (ci := 8) uwX8 0 rfl rfl 1 (by decide) w_913 rfl rfl dX8_goes_75 ?_
                refine lv_bipush (v := (nI 64)) hx hb dX8_goes_78 (by decide +kernel) ?_
                refine lv_iload hx hb dX8_goes_80 (lv_at hl 0 rfl) ?_
                refine lv_iadd hx hb dX8_goes_82 ?_
                refine g_vi (y := (nI (64 + k6))) (nI_add _ _) ?_
                refine lv_dup2_11 hx hb dX8_goes_83 rfl rfl ?_
                obtain ⟨j_30, hj_30, ej_30⟩ := bd_ex (mi_has hf6.1 (i := k6) (by omega))
                refine g_iald hC V 1 rfl (vp_in_nI (by omega) (by omega)) (v := (nI j_30)) (by rw [nI_clamp (by omega)]; exact ej_30) dX8_goes_84 ?_
                refine lv_iconst (v := (nI 1)) hx hb dX8_goes_85 (by decide +kernel) ?_
                refine lv_iadd hx hb dX8_goes_86 ?_
                refine g_vi (y := (nI (j_30 + 1))) (nI_add _ _) ?_
                have hlt := bd_lt (mi_has hf6.1 (i := k6) (by omega)) (by decide) (mi_need hf6.1 (i := k6) (by omega)) (by decide) (by assumption) ej_30 (by omega)
                obtain ⟨f_31, ef_31⟩ : ∃ x, x = upd f6 (64 + k6) (nI (j_30 + 1)) := ⟨_, rfl⟩
                have hf_31 : MS n fa f_31 := by rw [ef_31]; exact ms_st (by assumption) (by omega) (by omega) (by intros; first | (exfalso; omega) | exact bd_nI (by omega) | exact bd_le ‹bd (nI (j_30 + 1)) _› (by omega) | assumption) (by intros; first | (exfalso; omega) | exact bd_nI (by omega) | exact bd_le ‹bd (nI (j_30 + 1)) _› (by omega) | assumption) (by intros; first | (exfalso; omega) | exact bd_nI (by omega) | exact bd_le ‹bd (nI (j_30 + 1)) _› (by omega) | assumption) (by intros; first | (exfalso; omega) | exact bd_nI (by omega) | exact bd_le ‹bd (nI (j_30 + 1)) _› (by omega) | assumption) (by intros; first | (exfalso; omega) | exact bd_nI (by omega) | exact bd_le ‹bd (nI (j_30 + 1)) _› (by omega) | assumption) (by intros; first | (exfalso; omega) | exact bd_nI (by omega) | exact bd_le ‹bd (nI (j_30 + 1)) _› (by omega) | assumption) (by intros; first | (exfalso; omega) | exact bd_nI (by omega) | exact bd_le ‹bd (nI (j_30 + 1)) _› (by omega) | assumption)
                refine g_iast hC V 1 rfl (vp_in_nI (by omega) (by omega)) (f' := f_31) (by rw [nI_clamp (by omega)]; exact ef_31.symm) (ws' := [(o, .inr (8, [.int w0, .ref g1, .ref g2, .ref g3, .ref g4, .int (nI tp), .int w6, .int w7, .int w8, .int w9, .int w10, .int w11, .int w12, .int w13, .int w14, .ref g15, .int w16, .ref g17, .int w18, .int w19, .ref g20, .int w21, .ref g22, .ref g23, .ref g24, .int w25, .int w26, .int w27, .ref g28, .ref g29, .int w30, .ref g31, .ref g32, .ref g33])), (g1, .inl (T 0, 282, .inl f_31)), (g15, .inl (T 0, 10, .inl (upd th6 k6 z_26)))]) rfl dX8_goes_87 (fun H locs V => ?_)
                refine lv_iinc (v := (x6_5 + 1)) (lv' := [(5, .int (x6_5 + 1)), (6, .int (nI k6)), (0, .ref o), (1, .int pl), (2, .int sk), (3, .int fi), (4, .int mr)]) hx hb dX8_goes_88 hl (k := 1) rfl rfl (by decide) rfl (fun ls hl => ?_)
                refine lv_iinc (v := (nI (k6 + 1))) (lv' := [(6, .int (nI (k6 + 1))), (5, .int (x6_5 + 1)), (0, .ref o), (1, .int pl), (2, .int sk), (3, .int fi), (4, .int mr)]) hx hb dX8_goes_91 hl (k := 1) rfl (nI_1 _) (by decide) rfl (fun ls hl => ?_)
                refine lv_goto (tgt := 6) hx hb dX8_goes_94 (by decide) ?_
                exact ih_6 (k6 + 1) (x6_5 + 1) (upd th6 k6 z_26) f_31 (by omega) (by assumption) (up_one (p := fun _ x => bd x 201) hth6 (by assumption)) (by omega) _ _ _ V (lv_sub hl [0, 1, 2, 3, 4, 5, 6] rfl)
              · have V : gW D T A s [(o, .inr (8, [.int w0, .ref g1, .ref g2, .ref g3, .ref g4, .int (nI tp), .int w6, .int w7, .int w8, .int w9, .int w10, .int w11, .int w12, .int w13, .int w14, .ref g15, .int w16, .ref g17, .int w18, .int w19, .ref g20, .int w21, .ref g22, .ref g23, .ref g24, .int w25, .int w26, .int w27, .ref g28, .ref g29, .int w30, .ref g31, .ref g32, .ref g33])), (g1, .inl (T 0, 282, .inl f6)), (g15, .inl (T 0, 10, .inl (upd th6 k6 z_26)))] H locs := V _ [0, 0] rfl rfl rfl (by decide +kernel) rfl
                show W p l e _ s m args below meth c H locs _ _ _ (F0 m 68 ls [.int (nI 0)])
                refine lv_if_ne (tgt := 74) hx hb dX8_goes_68 (by decide) (fun c => absurd (show (nI 0) = 0 by decide +kernel) c) (fun _ => ?_)
                refine lv_goto (tgt := 91) hx hb dX8_goes_71 (by decide) ?_
                refine lv_iinc (v := (nI (k6 + 1))) (lv' := [(6, .int (nI (k6 + 1))), (5, .int x6_5), (0, .ref o), (1, .int pl), (2, .int sk), (3, .int fi), (4, .int mr)]) hx hb dX8_goes_91 hl (k := 0) rfl (nI_1 _) (by decide) rfl (fun ls hl => ?_)
                refine lv_goto (tgt := 6) hx hb dX8_goes_94 (by decide) ?_
                exact ih_6 (k6 + 1) x6_5 (upd th6 k6 z_26) f6 (by omega) (by assumption) (up_one (p := fun _ x => bd x 201) hth6 (by assumption)) (by omega) _ _ _ V (lv_sub hl [0, 1, 2, 3, 4, 5, 6] rfl)
          · have V : gW D T A s [(o, .inr (8, [.int w0, .ref g1, .ref g2, .ref g3, .ref g4, .int (nI tp), .int w6, .int w7, .int w8, .int w9, .int w10, .int w11, .int w12, .int w13, .int w14, .ref g15, .int w16, .ref g17, .int w18, .int w19, .ref g20, .int w21, .ref g22, .ref g23, .ref g24, .int w25, .int w26, .int w27, .ref g28, .ref g29, .int w30, .ref g31, .ref g32, .ref g33])), (g1, .inl (T 0, 282, .inl f6)), (g15, .inl (T 0, 10, .inl (upd th6 k6 z_26)))] H locs := V _ [] rfl rfl rfl (by decide +kernel) rfl
            show W p l e _ s m args below meth c H locs _ _ _ (F0 m 50 ls [.int (nI 0)])
            refine lv_if_eq (tgt := 91) hx hb dX8_goes_50 (by decide) (fun _ => ?_) (fun c => absurd (show (nI 0) = 0 by decide +kernel) c)
            refine lv_iinc (v := (nI (k6 + 1))) (lv' := [(6, .int (nI (k6 + 1))), (5, .int x6_5), (0, .ref o), (1, .int pl), (2, .int sk), (3, .int fi), (4, .int mr)]) hx hb dX8_goes_91 hl (k := 0) rfl (nI_1 _) (by decide) rfl (fun ls hl => ?_)
            refine lv_goto (tgt := 6) hx hb dX8_goes_94 (by decide) ?_
            exact ih_6 (k6 + 1) x6_5 (upd th6 k6 z_26) f6 (by omega) (by assumption) (up_one (p := fun _ x => bd x 201) hth6 (by assumption)) (by omega) _ _ _ V (lv_sub hl [0, 1, 2, 3, 4, 5, 6] rfl)
  exact L_1 _ 0 (nI 0) fh fa (by omega) (by assumption) (fun i h => absurd h (Nat.not_lt_zero _)) (Nat.lt_succ_self _) _ _ _ V (lv_sub hl [0, 1, 2, 3, 4, 5, 6] rfl)

def q_m_keeps (T : Nat → ClassId) (o : Nat) (w0 : Int32) (g1 : Nat) (g2 : Nat) (g3 : Nat) (g4 : Nat) (tp : Nat) (w6 : Int32) (w7 : Int32) (w8 : Int32) (w9 : Int32) (w10 : Int32) (w11 : Int32) (w12 : Int32) (w13 : Int32) (w14 : Int32) (g15 : Nat) (w16 : Int32) (g17 : Nat) (w18 : Int32) (w19 : Int32) (g20 : Nat) (w21 : Int32) (g22 : Nat) (g23 : Nat) (g24 : Nat) (w25 : Int32) (w26 : Int32) (w27 : Int32) (g28 : Nat) (g29 : Nat) (w30 : Int32) (g31 : Nat) (g32 : Nat) (g33 : Nat) (fa : Nat → Int32) (fk : Nat → Int32) : Option Value → va_W → Prop := fun rr ww => (∃ (gk : Nat → Int32), rr = none ∧ ww = [(o, .inr (8, [.int w0, .ref g1, .ref g2, .ref g3, .ref g4, .int (nI tp), .int w6, .int w7, .int w8, .int w9, .int w10, .int w11, .int w12, .int w13, .int w14, .ref g15, .int w16, .ref g17, .int w18, .int w19, .ref g20, .int w21, .ref g22, .ref g23, .ref g24, .int w25, .int w26, .int w27, .ref g28, .ref g29, .int w30, .ref g31, .ref g32, .ref g33])), (g1, .inl (T 0, 282, .inl fa)), (g17, .inl (T 0, 94, .inl gk))] ∧ (∀ j, j < 94 → gk j = fa j))
set_option maxHeartbeats 4000000 in
set_option maxRecDepth 100000 in
theorem m_keeps (l : Launch) (D : va_G) (T : Nat → ClassId) (o : Nat) (w0 : Int32) (g1 : Nat) (g2 : Nat) (g3 : Nat) (g4 : Nat) (tp : Nat) (w6 : Int32) (w7 : Int32) (w8 : Int32) (w9 : Int32) (w10 : Int32) (w11 : Int32) (w12 : Int32) (w13 : Int32) (w14 : Int32) (g15 : Nat) (w16 : Int32) (g17 : Nat) (w18 : Int32) (w19 : Int32) (g20 : Nat) (w21 : Int32) (g22 : Nat) (g23 : Nat) (g24 : Nat) (w25 : Int32) (w26 : Int32) (w27 : Int32) (g28 : Nat) (g29 : Nat) (w30 : Int32) (g31 : Nat) (g32 : Nat) (g33 : Nat) (fa : Nat → Int32) (fk : Nat → Int32) : Ct l yX8_keeps cX8_keeps 2 none 0 0 0 D T [.ref o] [(o, .inr (8, [.int w0, .ref g1, .ref g2, .ref g3, .ref g4, .int (nI tp), .int w6, .int w7, .int w8, .int w9, .int w10, .int w11, .int w12, .int w13, .int w14, .ref g15, .int w16, .ref g17, .int w18, .int w19, .ref g20, .int w21, .ref g22, .ref g23, .ref g24, .int w25, .int w26, .int w27, .ref g28, .ref g29, .int w30, .ref g31, .ref g32, .ref g33])), (g1, .inl (T 0, 282, .inl fa)), (g17, .inl (T 0, 94, .inl fk))] (q_m_keeps T o w0 g1 g2 g3 g4 tp w6 w7 w8 w9 w10 w11 w12 w13 w14 g15 w16 g17 w18 w19 g20 w21 g22 g23 g24 w25 w26 w27 g28 g29 w30 g31 g32 g33 fa fk) := by
  refine Ct.of (cc := cX8_keeps) (maxL := 2) (ret := none) (by decide) (Nat.le_of_ble_eq_true rfl) ?_
  intro p e s m args below meth c A ls hC hnm V hl
  obtain ⟨hx, hb, hr, hml, hown, hts, hlocks⟩ := id hC
  generalize hH : s.heap = H at V ⊢
  clear hH
  have hl : lv_has ls 2 [(0, .ref o)] := hl
  generalize hlo : ([] : List Loc) = locs at V ⊢
  clear hlo
  refine lv_iconst (v := (nI 0)) hx hb dX8_keeps_0 (by decide +kernel) ?_
  refine lv_istore_n (lv' := [(1, .int (nI 0)), (0, .ref o)]) hx hb dX8_keeps_1 rfl hl (by decide) rfl (fun ls hl => ?_)
  have L_1 : ∀ (fu : Nat) (k : Nat) (f : Nat → Int32), k ≤ 94 → (∀ i, i < k → f i = fa i) → 94 - k < fu → ∀ (H : Heap) (locs : List Loc) (ls : Array Slot), gW D T A s [(o, .inr (8, [.int w0, .ref g1, .ref g2, .ref g3, .ref g4, .int (nI tp), .int w6, .int w7, .int w8, .int w9, .int w10, .int w11, .int w12, .int w13, .int w14, .ref g15, .int w16, .ref g17, .int w18, .int w19, .ref g20, .int w21, .ref g22, .ref g23, .ref g24, .int w25, .int w26, .int w27, .ref g28, .ref g29, .int w30, .ref g31, .ref g32, .ref g33])), (g1, .inl (T 0, 282, .inl fa)), (g17, .inl (T 0, 94, .inl f))] H locs → lv_has ls 2 [(1, .int (nI k)), (0, .ref o)] → W p l e (rmD 0 0 0) s m args below meth c H locs 0 0 (MQ below (gQ D A (q_m_keeps T o w0 g1 g2 g3 g4 tp w6 w7 w8 w9 w10 w11 w12 w13 w14 g15 w16 g17 w18 w19 g20 w21 g22 g23 g24 w25 w26 w27 g28 g29 w30 g31 g32 g33 fa fk)) args s 0 0 A) (F0 m 2 ls []) := by
    intro fu_2
    induction fu_2 with
    | zero => intro k f hk hf hmu; exact absurd hmu (Nat.not_lt_zero _)
    | succ fu_2 ih_2 =>
      intro k f hk hf hmu_2 H locs ls V hl
      refine lv_iload_n hx hb dX8_keeps_2 rfl (lv_at hl 0 rfl) ?_
      refine lv_bipush (v := (nI 94)) hx hb dX8_keeps_3 (by decide +kernel) ?_
      refine lv_icmp_ge (tgt := 26) hx hb dX8_keeps_5 (by decide) (fun c_2 => ?_) (fun c_2 => ?_)
      · skip
        have c_2 := b_le (by omega) (by omega) c_2
        exact g_vret (Qr := (q_m_keeps T o w0 g1 g2 g3 g4 tp w6 w7 w8 w9 w10 w11 w12 w13 w14 g15 w16 g17 w18 w19 g20 w21 g22 g23 g24 w25 w26 w27 g28 g29 w30 g31 g32 g33 fa fk)) hC V ⟨(Nat.le_of_ble_eq_true rfl), (Nat.le_of_ble_eq_true rfl)⟩ ⟨f, rfl, rfl, (fun j h => hf j (by omega))⟩ dX8_keeps_26
      · skip
        have c_2 := b_nle (by omega) (by omega) c_2
        refine lv_aload_n hx hb dX8_keeps_8 rfl (lv_at hl 1 rfl) ?_
        refine g_get hC V (ci := 8) uwX8 0 rfl rfl 17 (by decide) w_929 rfl rfl dX8_keeps_9 ?_
        refine lv_iload_n hx hb dX8_keeps_12 rfl (lv_at hl 0 rfl) ?_
        refine lv_aload_n hx hb dX8_keeps_13 rfl (lv_at hl 1 rfl) ?_
        refine g_get hC V (ci := 8) uwX8 0 rfl rfl 1 (by decide) w_913 rfl rfl dX8_keeps_14 ?_
        refine lv_iload_n hx hb dX8_keeps_17 rfl (lv_at hl 0 rfl) ?_
        refine g_iald hC V 1 rfl (vp_in_nI (by omega) (by omega)) (v := (fa k)) (congrArg _ (nI_clamp (by omega))) dX8_keeps_18 ?_
        refine g_iast hC V 2 rfl (vp_in_nI (by omega) (by omega)) (f' := (upd f k (fa k))) (by rw [nI_clamp (by omega)]) (ws' := [(o, .inr (8, [.int w0, .ref g1, .ref g2, .ref g3, .ref g4, .int (nI tp), .int w6, .int w7, .int w8, .int w9, .int w10, .int w11, .int w12, .int w13, .int w14, .ref g15, .int w16, .ref g17, .int w18, .int w19, .ref g20, .int w21, .ref g22, .ref g23, .ref g24, .int w25, .int w26, .int w27, .ref g28, .ref g29, .int w30, .ref g31, .ref g32, .ref g33])), (g1, .inl (T 0, 282, .inl fa)), (g17, .inl (T 0, 94, .inl (upd f k (fa k))))]) rfl dX8_keeps_19 (fun H locs V => ?_)
        refine lv_iinc (v := (nI (k + 1))) (lv' := [(1, .int (nI (k + 1))), (0, .ref o)]) hx hb dX8_keeps_20 hl (k := 0) rfl (nI_1 _) (by decide) rfl (fun ls hl => ?_)
        refine lv_goto (tgt := 2) hx hb dX8_keeps_23 (by decide) ?_
        exact ih_2 (k + 1) (upd f k (fa k)) (by omega) (up_one (p := fun i y => y = fa i) hf rfl) (by omega) _ _ _ V (lv_sub hl [0, 1] rfl)
  exact L_1 _ 0 fk (by omega) (fun i h => absurd h (Nat.not_lt_zero _)) (Nat.lt_succ_self _) _ _ _ V (lv_sub hl [0, 1] rfl)

def q_m_isAgain (T : Nat → ClassId) (o : Nat) (w0 : Int32) (g1 : Nat) (g2 : Nat) (g3 : Nat) (g4 : Nat) (tp : Nat) (w6 : Int32) (w7 : Int32) (w8 : Int32) (w9 : Int32) (w10 : Int32) (w11 : Int32) (w12 : Int32) (w13 : Int32) (w14 : Int32) (g15 : Nat) (w16 : Int32) (g17 : Nat) (w18 : Int32) (w19 : Int32) (g20 : Nat) (w21 : Int32) (g22 : Nat) (g23 : Nat) (g24 : Nat) (w25 : Int32) (w26 : Int32) (w27 : Int32) (g28 : Nat) (g29 : Nat) (w30 : Int32) (g31 : Nat) (g32 : Nat) (g33 : Nat) (fa : Nat → Int32) (fk : Nat → Int32) : Option Value → va_W → Prop := fun rr ww => (∃ (ga : Nat → Int32), rr = none ∧ ww = [(o, .inr (8, [.int w0, .ref g1, .ref g2, .ref g3, .ref g4, .int (nI tp), .int w6, .int w7, .int w8, .int w9, .int w10, .int w11, .int w12, .int w13, .int w14, .ref g15, .int w16, .ref g17, .int w18, .int w19, .ref g20, .int w21, .ref g22, .ref g23, .ref g24, .int w25, .int w26, .int w27, .ref g28, .ref g29, .int w30, .ref g31, .ref g32, .ref g33])), (g1, .inl (T 0, 282, .inl ga)), (g17, .inl (T 0, 94, .inl fk))] ∧ (∀ j, j < 94 → ga j = fk j) ∧ (∀ j, 94 ≤ j → ga j = fa j))
set_option maxHeartbeats 4000000 in
set_option maxRecDepth 100000 in
theorem m_isAgain (l : Launch) (D : va_G) (T : Nat → ClassId) (o : Nat) (w0 : Int32) (g1 : Nat) (g2 : Nat) (g3 : Nat) (g4 : Nat) (tp : Nat) (w6 : Int32) (w7 : Int32) (w8 : Int32) (w9 : Int32) (w10 : Int32) (w11 : Int32) (w12 : Int32) (w13 : Int32) (w14 : Int32) (g15 : Nat) (w16 : Int32) (g17 : Nat) (w18 : Int32) (w19 : Int32) (g20 : Nat) (w21 : Int32) (g22 : Nat) (g23 : Nat) (g24 : Nat) (w25 : Int32) (w26 : Int32) (w27 : Int32) (g28 : Nat) (g29 : Nat) (w30 : Int32) (g31 : Nat) (g32 : Nat) (g33 : Nat) (fa : Nat → Int32) (fk : Nat → Int32) : Ct l yX8_isAgain cX8_isAgain 2 none 0 0 0 D T [.ref o] [(o, .inr (8, [.int w0, .ref g1, .ref g2, .ref g3, .ref g4, .int (nI tp), .int w6, .int w7, .int w8, .int w9, .int w10, .int w11, .int w12, .int w13, .int w14, .ref g15, .int w16, .ref g17, .int w18, .int w19, .ref g20, .int w21, .ref g22, .ref g23, .ref g24, .int w25, .int w26, .int w27, .ref g28, .ref g29, .int w30, .ref g31, .ref g32, .ref g33])), (g1, .inl (T 0, 282, .inl fa)), (g17, .inl (T 0, 94, .inl fk))] (q_m_isAgain T o w0 g1 g2 g3 g4 tp w6 w7 w8 w9 w10 w11 w12 w13 w14 g15 w16 g17 w18 w19 g20 w21 g22 g23 g24 w25 w26 w27 g28 g29 w30 g31 g32 g33 fa fk) := by
  refine Ct.of (cc := cX8_isAgain) (maxL := 2) (ret := none) (by decide) (Nat.le_of_ble_eq_true rfl) ?_
  intro p e s m args below meth c A ls hC hnm V hl
  obtain ⟨hx, hb, hr, hml, hown, hts, hlocks⟩ := id hC
  generalize hH : s.heap = H at V ⊢
  clear hH
  have hl : lv_has ls 2 [(0, .ref o)] := hl
  generalize hlo : ([] : List Loc) = locs at V ⊢
  clear hlo
  refine lv_iconst (v := (nI 0)) hx hb dX8_isAgain_0 (by decide +kernel) ?_
  refine lv_istore_n (lv' := [(1, .int (nI 0)), (0, .ref o)]) hx hb dX8_isAgain_1 rfl hl (by decide) rfl (fun ls hl => ?_)
  have L_1 : ∀ (fu : Nat) (k : Nat) (f : Nat → Int32), k ≤ 94 → (∀ i, i < k → f i = fk i) → (∀ i, 94 ≤ i → f i = fa i) → 94 - k < fu → ∀ (H : Heap) (locs : List Loc) (ls : Array Slot), gW D T A s [(o, .inr (8, [.int w0, .ref g1, .ref g2, .ref g3, .ref g4, .int (nI tp), .int w6, .int w7, .int w8, .int w9, .int w10, .int w11, .int w12, .int w13, .int w14, .ref g15, .int w16, .ref g17, .int w18, .int w19, .ref g20, .int w21, .ref g22, .ref g23, .ref g24, .int w25, .int w26, .int w27, .ref g28, .ref g29, .int w30, .ref g31, .ref g32, .ref g33])), (g1, .inl (T 0, 282, .inl f)), (g17, .inl (T 0, 94, .inl fk))] H locs → lv_has ls 2 [(1, .int (nI k)), (0, .ref o)] → W p l e (rmD 0 0 0) s m args below meth c H locs 0 0 (MQ below (gQ D A (q_m_isAgain T o w0 g1 g2 g3 g4 tp w6 w7 w8 w9 w10 w11 w12 w13 w14 g15 w16 g17 w18 w19 g20 w21 g22 g23 g24 w25 w26 w27 g28 g29 w30 g31 g32 g33 fa fk)) args s 0 0 A) (F0 m 2 ls []) := by
    intro fu_2
    induction fu_2 with
    | zero => intro k f hk hf hg hmu; exact absurd hmu (Nat.not_lt_zero _)
    | succ fu_2 ih_2 =>
      intro k f hk hf hg hmu_2 H locs ls V hl
      refine lv_iload_n hx hb dX8_isAgain_2 rfl (lv_at hl 0 rfl) ?_
      refine lv_bipush (v := (nI 94)) hx hb dX8_isAgain_3 (by decide +kernel) ?_
      refine lv_icmp_ge (tgt := 26) hx hb dX8_isAgain_5 (by decide) (fun c_2 => ?_) (fun c_2 => ?_)
      · skip
        have c_2 := b_le (by omega) (by omega) c_2
        exact g_vret (Qr := (q_m_isAgain T o w0 g1 g2 g3 g4 tp w6 w7 w8 w9 w10 w11 w12 w13 w14 g15 w16 g17 w18 w19 g20 w21 g22 g23 g24 w25 w26 w27 g28 g29 w30 g31 g32 g33 fa fk)) hC V ⟨(Nat.le_of_ble_eq_true rfl), (Nat.le_of_ble_eq_true rfl)⟩ ⟨f, rfl, rfl, (fun j h => hf j (by omega)), hg⟩ dX8_isAgain_26
      · skip
        have c_2 := b_nle (by omega) (by omega) c_2
        refine lv_aload_n hx hb dX8_isAgain_8 rfl (lv_at hl 1 rfl) ?_
        refine g_get hC V (ci := 8) uwX8 0 rfl rfl 1 (by decide) w_913 rfl rfl dX8_isAgain_9 ?_
        refine lv_iload_n hx hb dX8_isAgain_12 rfl (lv_at hl 0 rfl) ?_
        refine lv_aload_n hx hb dX8_isAgain_13 rfl (lv_at hl 1 rfl) ?_
        refine g_get hC V (ci := 8) uwX8 0 rfl rfl 17 (by decide) w_929 rfl rfl dX8_isAgain_14 ?_
        refine lv_iload_n hx hb dX8_isAgain_17 rfl (lv_at hl 0 rfl) ?_
        refine g_iald hC V 2 rfl (vp_in_nI (by omega) (by omega)) (v := (fk k)) (congrArg _ (nI_clamp (by omega))) dX8_isAgain_18 ?_
        refine g_iast hC V 1 rfl (vp_in_nI (by omega) (by omega)) (f' := (upd f k (fk k))) (by rw [nI_clamp (by omega)]) (ws' := [(o, .inr (8, [.int w0, .ref g1, .ref g2, .ref g3, .ref g4, .int (nI tp), .int w6, .int w7, .int w8, .int w9, .int w10, .int w11, .int w12, .int w13, .int w14, .ref g15, .int w16, .ref g17, .int w18, .int w19, .ref g20, .int w21, .ref g22, .ref g23, .ref g24, .int w25, .int w26, .int w27, .ref g28, .ref g29, .int w30, .ref g31, .ref g32, .ref g33])), (g1, .inl (T 0, 282, .inl (upd f k (fk k)))), (g17, .inl (T 0, 94, .inl fk))]) rfl dX8_isAgain_19 (fun H locs V => ?_)
        refine lv_iinc (v := (nI (k + 1))) (lv' := [(1, .int (nI (k + 1))), (0, .ref o)]) hx hb dX8_isAgain_20 hl (k := 0) rfl (nI_1 _) (by decide) rfl (fun ls hl => ?_)
        refine lv_goto (tgt := 2) hx hb dX8_isAgain_23 (by decide) ?_
        exact ih_2 (k + 1) (upd f k (fk k)) (by omega) (up_one (p := fun i y => y = fk i) hf rfl) (fun i hi => by rw [up_other (by omega)]; exact hg i hi) (by omega) _ _ _ V (lv_sub hl [0, 1] rfl)
  exact L_1 _ 0 fa (by omega) (fun i h => absurd h (Nat.not_lt_zero _)) (fun _ _ => rfl) (Nat.lt_succ_self _) _ _ _ V (lv_sub hl [0, 1] rfl)

def q_m_doneMany (T : Nat → ClassId) (n : Nat) (o : Nat) (w0 : Int32) (g1 : Nat) (g2 : Nat) (g3 : Nat) (g4 : Nat) (tp : Nat) (w6 : Int32) (w7 : Int32) (w8 : Int32) (w9 : Int32) (w10 : Int32) (w11 : Int32) (w12 : Int32) (w13 : Int32) (w14 : Int32) (g15 : Nat) (w16 : Int32) (g17 : Nat) (w18 : Int32) (w19 : Int32) (g20 : Nat) (w21 : Int32) (g22 : Nat) (g23 : Nat) (g24 : Nat) (w25 : Int32) (w26 : Int32) (w27 : Int32) (g28 : Nat) (g29 : Nat) (w30 : Int32) (g31 : Nat) (g32 : Nat) (g33 : Nat) (fa : Nat → Int32) : Option Value → va_W → Prop := fun rr ww => (∃ (z : Int32), rr = some (.int z) ∧ ww = [(o, .inr (8, [.int w0, .ref g1, .ref g2, .ref g3, .ref g4, .int (nI tp), .int w6, .int w7, .int w8, .int w9, .int w10, .int w11, .int w12, .int w13, .int w14, .ref g15, .int w16, .ref g17, .int w18, .int w19, .ref g20, .int w21, .ref g22, .ref g23, .ref g24, .int w25, .int w26, .int w27, .ref g28, .ref g29, .int w30, .ref g31, .ref g32, .ref g33])), (g1, .inl (T 0, 282, .inl fa))])
set_option maxHeartbeats 4000000 in
set_option maxRecDepth 100000 in
theorem m_doneMany (l : Launch) (D : va_G) (T : Nat → ClassId) (n : Nat) (o : Nat) (w0 : Int32) (g1 : Nat) (g2 : Nat) (g3 : Nat) (g4 : Nat) (tp : Nat) (w6 : Int32) (w7 : Int32) (w8 : Int32) (w9 : Int32) (w10 : Int32) (w11 : Int32) (w12 : Int32) (w13 : Int32) (w14 : Int32) (g15 : Nat) (w16 : Int32) (g17 : Nat) (w18 : Int32) (w19 : Int32) (g20 : Nat) (w21 : Int32) (g22 : Nat) (g23 : Nat) (g24 : Nat) (w25 : Int32) (w26 : Int32) (w27 : Int32) (g28 : Nat) (g29 : Nat) (w30 : Int32) (g31 : Nat) (g32 : Nat) (g33 : Nat) (fa : Nat → Int32) (h_a : MI n fa) : Ct l yX8_doneMany cX8_doneMany 3 (some .int) 1 0 0 D T [.ref o] [(o, .inr (8, [.int w0, .ref g1, .ref g2, .ref g3, .ref g4, .int (nI tp), .int w6, .int w7, .int w8, .int w9, .int w10, .int w11, .int w12, .int w13, .int w14, .ref g15, .int w16, .ref g17, .int w18, .int w19, .ref g20, .int w21, .ref g22, .ref g23, .ref g24, .int w25, .int w26, .int w27, .ref g28, .ref g29, .int w30, .ref g31, .ref g32, .ref g33])), (g1, .inl (T 0, 282, .inl fa))] (q_m_doneMany T n o w0 g1 g2 g3 g4 tp w6 w7 w8 w9 w10 w11 w12 w13 w14 g15 w16 g17 w18 w19 g20 w21 g22 g23 g24 w25 w26 w27 g28 g29 w30 g31 g32 g33 fa) := by
  refine Ct.of (cc := cX8_doneMany) (maxL := 3) (ret := (some .int)) (by decide) (Nat.le_of_ble_eq_true rfl) ?_
  intro p e s m args below meth c A ls hC hnm V hl
  obtain ⟨hx, hb, hr, hml, hown, hts, hlocks⟩ := id hC
  generalize hH : s.heap = H at V ⊢
  clear hH
  have hl : lv_has ls 3 [(0, .ref o)] := hl
  generalize hlo : ([] : List Loc) = locs at V ⊢
  clear hlo
  have ms0 := ms_rf h_a
  have hn10 := h_a.1
  refine lv_iconst (v := (nI 0)) hx hb dX8_doneMany_0 (by decide +kernel) ?_
  refine lv_istore_n (lv' := [(1, .int (nI 0)), (0, .ref o)]) hx hb dX8_doneMany_1 rfl hl (by decide) rfl (fun ls hl => ?_)
  refine lv_iconst (v := (nI 0)) hx hb dX8_doneMany_2 (by decide +kernel) ?_
  refine lv_istore_n (lv' := [(2, .int (nI 0)), (1, .int (nI 0)), (0, .ref o)]) hx hb dX8_doneMany_3 rfl hl (by decide) rfl (fun ls hl => ?_)
  have L_1 : ∀ (fu : Nat) (k4 : Nat) (x4_1 : Int32), k4 ≤ n → n - k4 < fu → ∀ (H : Heap) (locs : List Loc) (ls : Array Slot), gW D T A s [(o, .inr (8, [.int w0, .ref g1, .ref g2, .ref g3, .ref g4, .int (nI tp), .int w6, .int w7, .int w8, .int w9, .int w10, .int w11, .int w12, .int w13, .int w14, .ref g15, .int w16, .ref g17, .int w18, .int w19, .ref g20, .int w21, .ref g22, .ref g23, .ref g24, .int w25, .int w26, .int w27, .ref g28, .ref g29, .int w30, .ref g31, .ref g32, .ref g33])), (g1, .inl (T 0, 282, .inl fa))] H locs → lv_has ls 3 [(2, .int (nI k4)), (1, .int x4_1), (0, .ref o)] → W p l e (rmD 1 0 0) s m args below meth c H locs 0 0 (MQ below (gQ D A (q_m_doneMany T n o w0 g1 g2 g3 g4 tp w6 w7 w8 w9 w10 w11 w12 w13 w14 g15 w16 g17 w18 w19 g20 w21 g22 g23 g24 w25 w26 w27 g28 g29 w30 g31 g32 g33 fa)) args s 0 0 A) (F0 m 4 ls []) := by
    intro fu_4
    induction fu_4 with
    | zero => intro k4 x4_1 hk4 hmu; exact absurd hmu (Nat.not_lt_zero _)
    | succ fu_4 ih_4 =>
      intro k4 x4_1 hk4 hmu_4 H locs ls V hl
      refine lv_iload_n hx hb dX8_doneMany_4 rfl (lv_at hl 0 rfl) ?_
      refine lv_aload_n hx hb dX8_doneMany_5 rfl (lv_at hl 2 rfl) ?_
      refine g_get hC V (ci := 8) uwX8 0 rfl rfl 1 (by decide) w_913 rfl rfl dX8_doneMany_6 ?_
      refine lv_iconst (v := (nI 0)) hx hb dX8_doneMany_9 (by decide +kernel) ?_
      refine g_iald hC V 1 rfl (vp_in_nI (by decide) (by decide)) (v := (nI n)) (by rw [nI_clamp (by decide)]; first | rfl | exact h_a.2.1) dX8_doneMany_10 ?_
      refine lv_icmp_ge (tgt := 36) hx hb dX8_doneMany_11 (by decide) (fun c_2 => ?_) (fun c_2 => ?_)
      · skip
        have c_2 := b_le (by omega) (by omega) c_2
        refine lv_iload_n hx hb dX8_doneMany_36 rfl (lv_at hl 1 rfl) ?_
        exact g_iret (Qr := (q_m_doneMany T n o w0 g1 g2 g3 g4 tp w6 w7 w8 w9 w10 w11 w12 w13 w14 g15 w16 g17 w18 w19 g20 w21 g22 g23 g24 w25 w26 w27 g28 g29 w30 g31 g32 g33 fa)) hC V ⟨(Nat.le_of_ble_eq_true rfl), (Nat.le_of_ble_eq_true rfl)⟩ ⟨x4_1, rfl, rfl⟩ dX8_doneMany_37
      · skip
        have c_2 := b_nle (by omega) (by omega) c_2
        refine lv_iload_n hx hb dX8_doneMany_14 rfl (lv_at hl 1 rfl) ?_
        refine lv_aload_n hx hb dX8_doneMany_15 rfl (lv_at hl 2 rfl) ?_
        refine lv_iload_n hx hb dX8_doneMany_16 rfl (lv_at hl 0 rfl) ?_
        refine g_callV (wr := []) (nA := 1) hC V hl.1 (m_isDone l D T o k4 w0 g1 g2 g3 g4 tp w6 w7 w8 w9 w10 w11 w12 w13 w14 g15 w16 g17 w18 w19 g20 w21 g22 g23 g24 w25 w26 w27 g28 g29 w30 g31 g32 g33 fa (by first | assumption | omega)) w_1088 w_1090 w_s47 w_9 w_1091 (by decide +kernel) rfl ⟨(Nat.le_of_ble_eq_true rfl), (Nat.le_of_ble_eq_true rfl)⟩ 0 (ci := 8) rfl rfl [0, 1] [] rfl rfl rfl rfl (by decide) (Nat.le_of_ble_eq_true rfl) dX8_doneMany_17 ⟨(Nat.le_of_ble_eq_true rfl), (Nat.le_of_ble_eq_true rfl)⟩ rfl (fun r w1 H locs hQ V => ?_)
        rcases hQ with ⟨rfl, rfl, f_3⟩ | ⟨rfl, rfl, f_4⟩
        · have V : gW D T A s [(o, .inr (8, [.int w0, .ref g1, .ref g2, .ref g3, .ref g4, .int (nI tp), .int w6, .int w7, .int w8, .int w9, .int w10, .int w11, .int w12, .int w13, .int w14, .ref g15, .int w16, .ref g17, .int w18, .int w19, .ref g20, .int w21, .ref g22, .ref g23, .ref g24, .int w25, .int w26, .int w27, .ref g28, .ref g29, .int w30, .ref g31, .ref g32, .ref g33])), (g1, .inl (T 0, 282, .inl fa))] H locs := V
          show W p l e _ s m args below meth c H locs _ _ _ (F0 m 20 ls [.int (nI 1), .int x4_1])
          refine lv_if_eq (tgt := 27) hx hb dX8_doneMany_20 (by decide) (fun c => absurd (show (nI 1) = 0 from c) (by decide +kernel)) (fun _ => ?_)
          refine lv_iconst (v := (nI 1)) hx hb dX8_doneMany_23 (by decide +kernel) ?_
          refine lv_goto (tgt := 28) hx hb dX8_doneMany_24 (by decide) ?_
          refine lv_iadd hx hb dX8_doneMany_28 ?_
          refine lv_istore_n (lv' := [(1, .int (x4_1 + (nI 1))), (2, .int (nI k4)), (0, .ref o)]) hx hb dX8_doneMany_29 rfl hl (by decide) rfl (fun ls hl => ?_)
          refine lv_iinc (v := (nI (k4 + 1))) (lv' := [(2, .int (nI (k4 + 1))), (1, .int (x4_1 + (nI 1))), (0, .ref o)]) hx hb dX8_doneMany_30 hl (k := 1) rfl (nI_1 _) (by decide) rfl (fun ls hl => ?_)
          refine lv_goto (tgt := 4) hx hb dX8_doneMany_33 (by decide) ?_
          exact ih_4 (k4 + 1) (x4_1 + (nI 1)) (by omega) (by omega) _ _ _ V (lv_sub hl [0, 1, 2] rfl)
        · have V : gW D T A s [(o, .inr (8, [.int w0, .ref g1, .ref g2, .ref g3, .ref g4, .int (nI tp), .int w6, .int w7, .int w8, .int w9, .int w10, .int w11, .int w12, .int w13, .int w14, .ref g15, .int w16, .ref g17, .int w18, .int w19, .ref g20, .int w21, .ref g22, .ref g23, .ref g24, .int w25, .int w26, .int w27, .ref g28, .ref g29, .int w30, .ref g31, .ref g32, .ref g33])), (g1, .inl (T 0, 282, .inl fa))] H locs := V
          show W p l e _ s m args below meth c H locs _ _ _ (F0 m 20 ls [.int (nI 0), .int x4_1])
          refine lv_if_eq (tgt := 27) hx hb dX8_doneMany_20 (by decide) (fun _ => ?_) (fun c => absurd (show (nI 0) = 0 by decide +kernel) c)
          refine lv_iconst (v := (nI 0)) hx hb dX8_doneMany_27 (by decide +kernel) ?_
          refine lv_iadd hx hb dX8_doneMany_28 ?_
          refine lv_istore_n (lv' := [(1, .int (x4_1 + (nI 0))), (2, .int (nI k4)), (0, .ref o)]) hx hb dX8_doneMany_29 rfl hl (by decide) rfl (fun ls hl => ?_)
          refine lv_iinc (v := (nI (k4 + 1))) (lv' := [(2, .int (nI (k4 + 1))), (1, .int (x4_1 + (nI 0))), (0, .ref o)]) hx hb dX8_doneMany_30 hl (k := 1) rfl (nI_1 _) (by decide) rfl (fun ls hl => ?_)
          refine lv_goto (tgt := 4) hx hb dX8_doneMany_33 (by decide) ?_
          exact ih_4 (k4 + 1) (x4_1 + (nI 0)) (by omega) (by omega) _ _ _ V (lv_sub hl [0, 1, 2] rfl)
  exact L_1 _ 0 (nI 0) (by omega) (Nat.lt_succ_self _) _ _ _ V (lv_sub hl [0, 1, 2] rfl)
