/-- a small letter, a digit -/
def smallC (x : Int32) : Prop := ¬ x < nI 97 ∧ ¬ nI 122 < x
def digitC (x : Int32) : Prop := ¬ x < nI 48 ∧ ¬ nI 57 < x
theorem small_m1 : ¬ smallC (-1) := fun h => h.1 (by decide +kernel)
theorem digit_m1 : ¬ digitC (-1) := fun h => h.1 (by decide +kernel)
theorem gone {f : Nat → Int32} {p : Int32 → Prop} {a b : Nat} {x y : Int32} (hx : x = f a) (px : p x) (hy : y = f b) (py : ¬ p y) (h : a ≤ b) : a < b := by
  rcases Nat.lt_or_eq_of_le h with h | h
  · exact h
  · subst h; exact absurd (hx ▸ px) (hy ▸ py)

def q_m_see (T : Nat → ClassId) (o : Nat) (k : Nat) (w0 : Int32) (g1 : Nat) (g2 : Nat) (g3 : Nat) (g4 : Nat) (tp : Nat) (w6 : Int32) (w7 : Int32) (sz : Nat) (w9 : Int32) (w10 : Int32) (w11 : Int32) (w12 : Int32) (w13 : Int32) (w14 : Int32) (g15 : Nat) (w16 : Int32) (g17 : Nat) (w18 : Int32) (w19 : Int32) (g20 : Nat) (w21 : Int32) (g22 : Nat) (g23 : Nat) (g24 : Nat) (w25 : Int32) (w26 : Int32) (w27 : Int32) (g28 : Nat) (g29 : Nat) (w30 : Int32) (g31 : Nat) (g32 : Nat) (g33 : Nat) (ft : Nat → Int32) : Option Value → va_W → Prop := fun rr ww => (rr = some (.int (-1)) ∧ ww = [(o, .inr (8, [.int w0, .ref g1, .ref g2, .ref g3, .ref g4, .int (nI tp), .int w6, .int w7, .int (nI sz), .int w9, .int w10, .int w11, .int w12, .int w13, .int w14, .ref g15, .int w16, .ref g17, .int w18, .int w19, .ref g20, .int w21, .ref g22, .ref g23, .ref g24, .int w25, .int w26, .int w27, .ref g28, .ref g29, .int w30, .ref g31, .ref g32, .ref g33])), (g3, .inl (T 0, 900, .inl ft))] ∧ sz ≤ k) ∨ (∃ (z : Int32), rr = some (.int z) ∧ ww = [(o, .inr (8, [.int w0, .ref g1, .ref g2, .ref g3, .ref g4, .int (nI tp), .int w6, .int w7, .int (nI sz), .int w9, .int w10, .int w11, .int w12, .int w13, .int w14, .ref g15, .int w16, .ref g17, .int w18, .int w19, .ref g20, .int w21, .ref g22, .ref g23, .ref g24, .int w25, .int w26, .int w27, .ref g28, .ref g29, .int w30, .ref g31, .ref g32, .ref g33])), (g3, .inl (T 0, 900, .inl ft))] ∧ k < sz ∧ z = ft k)
set_option maxHeartbeats 4000000 in
set_option maxRecDepth 100000 in
theorem m_see (l : Launch) (D : va_G) (T : Nat → ClassId) (o : Nat) (k : Nat) (w0 : Int32) (g1 : Nat) (g2 : Nat) (g3 : Nat) (g4 : Nat) (tp : Nat) (w6 : Int32) (w7 : Int32) (sz : Nat) (w9 : Int32) (w10 : Int32) (w11 : Int32) (w12 : Int32) (w13 : Int32) (w14 : Int32) (g15 : Nat) (w16 : Int32) (g17 : Nat) (w18 : Int32) (w19 : Int32) (g20 : Nat) (w21 : Int32) (g22 : Nat) (g23 : Nat) (g24 : Nat) (w25 : Int32) (w26 : Int32) (w27 : Int32) (g28 : Nat) (g29 : Nat) (w30 : Int32) (g31 : Nat) (g32 : Nat) (g33 : Nat) (ft : Nat → Int32) (h_sz : sz ≤ 900) (h_k : k ≤ 900) : Ct l yX8_see cX8_see 2 (some .int) 0 0 0 D T [.ref o, .int (nI k)] [(o, .inr (8, [.int w0, .ref g1, .ref g2, .ref g3, .ref g4, .int (nI tp), .int w6, .int w7, .int (nI sz), .int w9, .int w10, .int w11, .int w12, .int w13, .int w14, .ref g15, .int w16, .ref g17, .int w18, .int w19, .ref g20, .int w21, .ref g22, .ref g23, .ref g24, .int w25, .int w26, .int w27, .ref g28, .ref g29, .int w30, .ref g31, .ref g32, .ref g33])), (g3, .inl (T 0, 900, .inl ft))] (q_m_see T o k w0 g1 g2 g3 g4 tp w6 w7 sz w9 w10 w11 w12 w13 w14 g15 w16 g17 w18 w19 g20 w21 g22 g23 g24 w25 w26 w27 g28 g29 w30 g31 g32 g33 ft) := by
  refine Ct.of (cc := cX8_see) (maxL := 2) (ret := (some .int)) (by decide) (Nat.le_of_ble_eq_true rfl) ?_
  intro p e s m args below meth c A ls hC hnm V hl
  obtain ⟨hx, hb, hr, hml, hown, hts, hlocks⟩ := id hC
  generalize hH : s.heap = H at V ⊢
  clear hH
  have hl : lv_has ls 2 [(0, .ref o), (1, .int (nI k))] := hl
  generalize hlo : ([] : List Loc) = locs at V ⊢
  clear hlo
  refine lv_iload_n hx hb dX8_see_0 rfl (lv_at hl 1 rfl) ?_
  refine lv_aload_n hx hb dX8_see_1 rfl (lv_at hl 0 rfl) ?_
  refine g_get hC V (ci := 8) uwX8 0 rfl rfl 8 (by decide) w_920 rfl rfl dX8_see_2 ?_
  refine lv_icmp_ge (tgt := 17) hx hb dX8_see_5 (by decide) (fun c_1 => ?_) (fun c_1 => ?_)
  · skip
    have c_1 := b_le (by omega) (by omega) c_1
    refine lv_iconst (v := (-1)) hx hb dX8_see_17 (by decide +kernel) ?_
    exact g_iret (Qr := (q_m_see T o k w0 g1 g2 g3 g4 tp w6 w7 sz w9 w10 w11 w12 w13 w14 g15 w16 g17 w18 w19 g20 w21 g22 g23 g24 w25 w26 w27 g28 g29 w30 g31 g32 g33 ft)) hC V ⟨(Nat.le_of_ble_eq_true rfl), (Nat.le_of_ble_eq_true rfl)⟩ (.inl ⟨rfl, rfl, (by first | assumption | omega)⟩) dX8_see_18
  · skip
    have c_1 := b_nle (by omega) (by omega) c_1
    refine lv_aload_n hx hb dX8_see_8 rfl (lv_at hl 0 rfl) ?_
    refine g_get hC V (ci := 8) uwX8 0 rfl rfl 3 (by decide) w_915 rfl rfl dX8_see_9 ?_
    refine lv_iload_n hx hb dX8_see_12 rfl (lv_at hl 1 rfl) ?_
    refine g_iald hC V 1 rfl (vp_in_nI (by omega) (by omega)) (v := (ft k)) (congrArg _ (nI_clamp (by omega))) dX8_see_13 ?_
    refine lv_goto (tgt := 18) hx hb dX8_see_14 (by decide) ?_
    exact g_iret (Qr := (q_m_see T o k w0 g1 g2 g3 g4 tp w6 w7 sz w9 w10 w11 w12 w13 w14 g15 w16 g17 w18 w19 g20 w21 g22 g23 g24 w25 w26 w27 g28 g29 w30 g31 g32 g33 ft)) hC V ⟨(Nat.le_of_ble_eq_true rfl), (Nat.le_of_ble_eq_true rfl)⟩ (.inr ⟨(ft k), rfl, rfl, (by omega), rfl⟩) dX8_see_18

def q_m_isSmall (T : Nat → ClassId) (x : Int32) : Option Value → va_W → Prop := fun rr ww => (rr = some (.int (nI 1)) ∧ ww = [] ∧ smallC x) ∨ (rr = some (.int (nI 0)) ∧ ww = [] ∧ ¬ smallC x)
set_option maxHeartbeats 4000000 in
set_option maxRecDepth 100000 in
theorem m_isSmall (l : Launch) (D : va_G) (T : Nat → ClassId) (x : Int32) : Ct l yX8_isSmall cX8_isSmall 1 (some .boolean) 0 0 0 D T [.int x] [] (q_m_isSmall T x) := by
  refine Ct.of (cc := cX8_isSmall) (maxL := 1) (ret := (some .boolean)) (by decide) (Nat.le_of_ble_eq_true rfl) ?_
  intro p e s m args below meth c A ls hC hnm V hl
  obtain ⟨hx, hb, hr, hml, hown, hts, hlocks⟩ := id hC
  generalize hH : s.heap = H at V ⊢
  clear hH
  have hl : lv_has ls 1 [(0, .int x)] := hl
  generalize hlo : ([] : List Loc) = locs at V ⊢
  clear hlo
  refine lv_iload_n hx hb dX8_isSmall_0 rfl (lv_at hl 0 rfl) ?_
  refine lv_bipush (v := (nI 97)) hx hb dX8_isSmall_1 (by decide +kernel) ?_
  refine lv_icmp_lt (tgt := 16) hx hb dX8_isSmall_3 (by decide) (fun c_1 => ?_) (fun c_1 => ?_)
  · skip
    refine lv_iconst (v := (nI 0)) hx hb dX8_isSmall_16 (by decide +kernel) ?_
    exact g_zret (Qr := (q_m_isSmall T x)) hC V ⟨(Nat.le_of_ble_eq_true rfl), (Nat.le_of_ble_eq_true rfl)⟩ (by first | decide +kernel | exact rfl) (.inr ⟨rfl, rfl, (by first | exact ⟨by assumption, by assumption⟩ | exact fun h => h.1 (by assumption) | exact fun h => h.2 (by assumption))⟩) dX8_isSmall_17
  · skip
    refine lv_iload_n hx hb dX8_isSmall_6 rfl (lv_at hl 0 rfl) ?_
    refine lv_bipush (v := (nI 122)) hx hb dX8_isSmall_7 (by decide +kernel) ?_
    refine lv_icmp_gt (tgt := 16) hx hb dX8_isSmall_9 (by decide) (fun c_2 => ?_) (fun c_2 => ?_)
    · skip
      refine lv_iconst (v := (nI 0)) hx hb dX8_isSmall_16 (by decide +kernel) ?_
      exact g_zret (Qr := (q_m_isSmall T x)) hC V ⟨(Nat.le_of_ble_eq_true rfl), (Nat.le_of_ble_eq_true rfl)⟩ (by first | decide +kernel | exact rfl) (.inr ⟨rfl, rfl, (by first | exact ⟨by assumption, by assumption⟩ | exact fun h => h.1 (by assumption) | exact fun h => h.2 (by assumption))⟩) dX8_isSmall_17
    · skip
      refine lv_iconst (v := (nI 1)) hx hb dX8_isSmall_12 (by decide +kernel) ?_
      refine lv_goto (tgt := 17) hx hb dX8_isSmall_13 (by decide) ?_
      exact g_zret (Qr := (q_m_isSmall T x)) hC V ⟨(Nat.le_of_ble_eq_true rfl), (Nat.le_of_ble_eq_true rfl)⟩ (by first | decide +kernel | exact rfl) (.inl ⟨rfl, rfl, (by first | exact ⟨by assumption, by assumption⟩ | exact fun h => h.1 (by assumption) | exact fun h => h.2 (by assumption))⟩) dX8_isSmall_17

def q_m_isDigit (T : Nat → ClassId) (x : Int32) : Option Value → va_W → Prop := fun rr ww => (rr = some (.int (nI 1)) ∧ ww = [] ∧ digitC x) ∨ (rr = some (.int (nI 0)) ∧ ww = [] ∧ ¬ digitC x)
set_option maxHeartbeats 4000000 in
set_option maxRecDepth 100000 in
theorem m_isDigit (l : Launch) (D : va_G) (T : Nat → ClassId) (x : Int32) : Ct l yX8_isDigit cX8_isDigit 1 (some .boolean) 0 0 0 D T [.int x] [] (q_m_isDigit T x) := by
  refine Ct.of (cc := cX8_isDigit) (maxL := 1) (ret := (some .boolean)) (by decide) (Nat.le_of_ble_eq_true rfl) ?_
  intro p e s m args below meth c A ls hC hnm V hl
  obtain ⟨hx, hb, hr, hml, hown, hts, hlocks⟩ := id hC
  generalize hH : s.heap = H at V ⊢
  clear hH
  have hl : lv_has ls 1 [(0, .int x)] := hl
  generalize hlo : ([] : List Loc) = locs at V ⊢
  clear hlo
  refine lv_iload_n hx hb dX8_isDigit_0 rfl (lv_at hl 0 rfl) ?_
  refine lv_bipush (v := (nI 48)) hx hb dX8_isDigit_1 (by decide +kernel) ?_
  refine lv_icmp_lt (tgt := 16) hx hb dX8_isDigit_3 (by decide) (fun c_1 => ?_) (fun c_1 => ?_)
  · skip
    refine lv_iconst (v := (nI 0)) hx hb dX8_isDigit_16 (by decide +kernel) ?_
    exact g_zret (Qr := (q_m_isDigit T x)) hC V ⟨(Nat.le_of_ble_eq_true rfl), (Nat.le_of_ble_eq_true rfl)⟩ (by first | decide +kernel | exact rfl) (.inr ⟨rfl, rfl, (by first | exact ⟨by assumption, by assumption⟩ | exact fun h => h.1 (by assumption) | exact fun h => h.2 (by assumption))⟩) dX8_isDigit_17
  · skip
    refine lv_iload_n hx hb dX8_isDigit_6 rfl (lv_at hl 0 rfl) ?_
    refine lv_bipush (v := (nI 57)) hx hb dX8_isDigit_7 (by decide +kernel) ?_
    refine lv_icmp_gt (tgt := 16) hx hb dX8_isDigit_9 (by decide) (fun c_2 => ?_) (fun c_2 => ?_)
    · skip
      refine lv_iconst (v := (nI 0)) hx hb dX8_isDigit_16 (by decide +kernel) ?_
      exact g_zret (Qr := (q_m_isDigit T x)) hC V ⟨(Nat.le_of_ble_eq_true rfl), (Nat.le_of_ble_eq_true rfl)⟩ (by first | decide +kernel | exact rfl) (.inr ⟨rfl, rfl, (by first | exact ⟨by assumption, by assumption⟩ | exact fun h => h.1 (by assumption) | exact fun h => h.2 (by assumption))⟩) dX8_isDigit_17
    · skip
      refine lv_iconst (v := (nI 1)) hx hb dX8_isDigit_12 (by decide +kernel) ?_
      refine lv_goto (tgt := 17) hx hb dX8_isDigit_13 (by decide) ?_
      exact g_zret (Qr := (q_m_isDigit T x)) hC V ⟨(Nat.le_of_ble_eq_true rfl), (Nat.le_of_ble_eq_true rfl)⟩ (by first | decide +kernel | exact rfl) (.inl ⟨rfl, rfl, (by first | exact ⟨by assumption, by assumption⟩ | exact fun h => h.1 (by assumption) | exact fun h => h.2 (by assumption))⟩) dX8_isDigit_17

def q_m_keyAt (T : Nat → ClassId) (o : Nat) (w0 : Int32) (g1 : Nat) (g2 : Nat) (g3 : Nat) (g4 : Nat) (tp : Nat) (at_ : Nat) (be : Nat) (sz : Nat) (w9 : Int32) (w10 : Int32) (w11 : Int32) (w12 : Int32) (w13 : Int32) (w14 : Int32) (g15 : Nat) (w16 : Int32) (g17 : Nat) (w18 : Int32) (w19 : Int32) (g20 : Nat) (w21 : Int32) (g22 : Nat) (g23 : Nat) (g24 : Nat) (w25 : Int32) (w26 : Int32) (w27 : Int32) (g28 : Nat) (g29 : Nat) (w30 : Int32) (g31 : Nat) (g32 : Nat) (g33 : Nat) (ft : Nat → Int32) : Option Value → va_W → Prop := fun rr ww => (∃ (z : Int32), rr = some (.int z) ∧ ww = [(o, .inr (8, [.int w0, .ref g1, .ref g2, .ref g3, .ref g4, .int (nI tp), .int (nI at_), .int (nI be), .int (nI sz), .int w9, .int w10, .int w11, .int w12, .int w13, .int w14, .ref g15, .int w16, .ref g17, .int w18, .int w19, .ref g20, .int w21, .ref g22, .ref g23, .ref g24, .int w25, .int w26, .int w27, .ref g28, .ref g29, .int w30, .ref g31, .ref g32, .ref g33])), (g3, .inl (T 0, 900, .inl ft))])
set_option maxHeartbeats 4000000 in
set_option maxRecDepth 100000 in
theorem m_keyAt (l : Launch) (D : va_G) (T : Nat → ClassId) (o : Nat) (w0 : Int32) (g1 : Nat) (g2 : Nat) (g3 : Nat) (g4 : Nat) (tp : Nat) (at_ : Nat) (be : Nat) (sz : Nat) (w9 : Int32) (w10 : Int32) (w11 : Int32) (w12 : Int32) (w13 : Int32) (w14 : Int32) (g15 : Nat) (w16 : Int32) (g17 : Nat) (w18 : Int32) (w19 : Int32) (g20 : Nat) (w21 : Int32) (g22 : Nat) (g23 : Nat) (g24 : Nat) (w25 : Int32) (w26 : Int32) (w27 : Int32) (g28 : Nat) (g29 : Nat) (w30 : Int32) (g31 : Nat) (g32 : Nat) (g33 : Nat) (ft : Nat → Int32) (h_sz : sz ≤ 900) (h_ab : at_ ≤ be ∧ be ≤ sz) : Ct l yX8_keyAt cX8_keyAt 4 (some .int) 4 0 0 D T [.ref o] [(o, .inr (8, [.int w0, .ref g1, .ref g2, .ref g3, .ref g4, .int (nI tp), .int (nI at_), .int (nI be), .int (nI sz), .int w9, .int w10, .int w11, .int w12, .int w13, .int w14, .ref g15, .int w16, .ref g17, .int w18, .int w19, .ref g20, .int w21, .ref g22, .ref g23, .ref g24, .int w25, .int w26, .int w27, .ref g28, .ref g29, .int w30, .ref g31, .ref g32, .ref g33])), (g3, .inl (T 0, 900, .inl ft))] (q_m_keyAt T o w0 g1 g2 g3 g4 tp at_ be sz w9 w10 w11 w12 w13 w14 g15 w16 g17 w18 w19 g20 w21 g22 g23 g24 w25 w26 w27 g28 g29 w30 g31 g32 g33 ft) := by
  refine Ct.of (cc := cX8_keyAt) (maxL := 4) (ret := (some .int)) (by decide) (Nat.le_of_ble_eq_true rfl) ?_
  intro p e s m args below meth c A ls hC hnm V hl
  obtain ⟨hx, hb, hr, hml, hown, hts, hlocks⟩ := id hC
  generalize hH : s.heap = H at V ⊢
  clear hH
  have hl : lv_has ls 4 [(0, .ref o)] := hl
  generalize hlo : ([] : List Loc) = locs at V ⊢
  clear hlo
  have hs8 : sLen.getD 8 0 = 44 := rfl
  have h43 : sch 8 43 = nI 32 := by decide +kernel
  refine lv_iconst (v := (nI 0)) hx hb dX8_keyAt_0 (by decide +kernel) ?_
  refine lv_istore_n (lv' := [(1, .int (nI 0)), (0, .ref o)]) hx hb dX8_keyAt_1 rfl hl (by decide) rfl (fun ls hl => ?_)
  refine lv_iconst (v := (nI 1)) hx hb dX8_keyAt_2 (by decide +kernel) ?_
  refine lv_istore_n (lv' := [(2, .int (nI 1)), (1, .int (nI 0)), (0, .ref o)]) hx hb dX8_keyAt_3 rfl hl (by decide) rfl (fun ls hl => ?_)
  have L_1 : ∀ (fu : Nat) (kk : Nat) (x4_1 : Int32), kk ≤ 44 → 44 - kk < fu → ∀ (H : Heap) (locs : List Loc) (ls : Array Slot), gW D T A s [(o, .inr (8, [.int w0, .ref g1, .ref g2, .ref g3, .ref g4, .int (nI tp), .int (nI at_), .int (nI be), .int (nI sz), .int w9, .int w10, .int w11, .int w12, .int w13, .int w14, .ref g15, .int w16, .ref g17, .int w18, .int w19, .ref g20, .int w21, .ref g22, .ref g23, .ref g24, .int w25, .int w26, .int w27, .ref g28, .ref g29, .int w30, .ref g31, .ref g32, .ref g33])), (g3, .inl (T 0, 900, .inl ft))] H locs → lv_has ls 4 [(2, .int (nI kk)), (1, .int x4_1), (0, .ref o)] → W p l e (rmD 4 0 0) s m args below meth c H locs 0 0 (MQ below (gQ D A (q_m_keyAt T o w0 g1 g2 g3 g4 tp at_ be sz w9 w10 w11 w12 w13 w14 g15 w16 g17 w18 w19 g20 w21 g22 g23 g24 w25 w26 w27 g28 g29 w30 g31 g32 g33 ft)) args s 0 0 A) (F0 m 4 ls []) := by
    intro fu_4
    induction fu_4 with
    | zero => intro kk x4_1 hkk hmu; exact absurd hmu (Nat.not_lt_zero _)
    | succ fu_4 ih_4 =>
      intro kk x4_1 hkk hmu_4 H locs ls V hl
      refine lv_iload_n hx hb dX8_keyAt_4 rfl (lv_at hl 0 rfl) ?_
      refine g_ldcS hC V 8 rfl dX8_keyAt_5 ?_
      refine g_callZ (wr := [(o, .inr (8, [.int w0, .ref g1, .ref g2, .ref g3, .ref g4, .int (nI tp), .int (nI at_), .int (nI be), .int (nI sz), .int w9, .int w10, .int w11, .int w12, .int w13, .int w14, .ref g15, .int w16, .ref g17, .int w18, .int w19, .ref g20, .int w21, .ref g22, .ref g23, .ref g24, .int w25, .int w26, .int w27, .ref g28, .ref g29, .int w30, .ref g31, .ref g32, .ref g33])), (g3, .inl (T 0, 900, .inl ft))]) (nA := 0) hC V hl.1 (z_length l D T 8 (by decide)) w_1042 w_327 w_328 w_12 w_329 (by decide +kernel) rfl ⟨(Nat.le_of_ble_eq_true rfl), (Nat.le_of_ble_eq_true rfl)⟩ (si := 8) (by first | assumption | decide) rfl rfl [] [0, 1] rfl rfl rfl rfl (by decide) (Nat.le_of_ble_eq_true rfl) dX8_keyAt_7 ⟨(Nat.le_of_ble_eq_true rfl), (Nat.le_of_ble_eq_true rfl)⟩ rfl (fun r w1 H locs hQ V => ?_)
      obtain ⟨rfl, rfl⟩ := hQ
      have V : gW D T A s [(o, .inr (8, [.int w0, .ref g1, .ref g2, .ref g3, .ref g4, .int (nI tp), .int (nI at_), .int (nI be), .int (nI sz), .int w9, .int w10, .int w11, .int w12, .int w13, .int w14, .ref g15, .int w16, .ref g17, .int w18, .int w19, .ref g20, .int w21, .ref g22, .ref g23, .ref g24, .int w25, .int w26, .int w27, .ref g28, .ref g29, .int w30, .ref g31, .ref g32, .ref g33])), (g3, .inl (T 0, 900, .inl ft))] H locs := V
      show W p l e _ s m args below meth c H locs _ _ _ (F0 m 10 ls [.int (nI (sLen.getD 8 0)), .int (nI kk)])
      refine lv_icmp_ge (tgt := 123) hx hb dX8_keyAt_10 (by decide) (fun c_2 => ?_) (fun c_2 => ?_)
      · skip
        have c_2 := b_le (by omega) (by omega) c_2
        refine lv_bipush (v := (nI 8)) hx hb dX8_keyAt_123 (by decide +kernel) ?_
        exact g_iret (Qr := (q_m_keyAt T o w0 g1 g2 g3 g4 tp at_ be sz w9 w10 w11 w12 w13 w14 g15 w16 g17 w18 w19 g20 w21 g22 g23 g24 w25 w26 w27 g28 g29 w30 g31 g32 g33 ft)) hC V ⟨(Nat.le_of_ble_eq_true rfl), (Nat.le_of_ble_eq_true rfl)⟩ ⟨(nI 8), rfl, rfl⟩ dX8_keyAt_125
      · skip
        have c_2 := b_nle (by omega) (by omega) c_2
        refine lv_iconst (v := (nI 0)) hx hb dX8_keyAt_13 (by decide +kernel) ?_
        refine lv_istore_n (lv' := [(3, .int (nI 0)), (2, .int (nI kk)), (1, .int x4_1), (0, .ref o)]) hx hb dX8_keyAt_14 rfl hl (by decide) rfl (fun ls hl => ?_)
        have L_3 : ∀ (fu : Nat) (ki : Nat), ki ≤ 44 → kk + ki ≤ 43 → 44 - ki < fu → ∀ (H : Heap) (locs : List Loc) (ls : Array Slot), gW D T A s [(o, .inr (8, [.int w0, .ref g1, .ref g2, .ref g3, .ref g4, .int (nI tp), .int (nI at_), .int (nI be), .int (nI sz), .int w9, .int w10, .int w11, .int w12, .int w13, .int w14, .ref g15, .int w16, .ref g17, .int w18, .int w19, .ref g20, .int w21, .ref g22, .ref g23, .ref g24, .int w25, .int w26, .int w27, .ref g28, .ref g29, .int w30, .ref g31, .ref g32, .ref g33])), (g3, .inl (T 0, 900, .inl ft))] H locs → lv_has ls 4 [(3, .int (nI ki)), (2, .int (nI kk)), (1, .int x4_1), (0, .ref o)] → W p l e (rmD 4 0 0) s m args below meth c H locs 0 0 (MQ below (gQ D A (q_m_keyAt T o w0 g1 g2 g3 g4 tp at_ be sz w9 w10 w11 w12 w13 w14 g15 w16 g17 w18 w19 g20 w21 g22 g23 g24 w25 w26 w27 g28 g29 w30 g31 g32 g33 ft)) args s 0 0 A) (F0 m 15 ls []) := by
          intro fu_15
          induction fu_15 with
          | zero => intro ki hki hki hmu; exact absurd hmu (Nat.not_lt_zero _)
          | succ fu_15 ih_15 =>
            intro ki hki hki hmu_15 H locs ls V hl
            refine g_ldcS hC V 8 rfl dX8_keyAt_15 ?_
            refine lv_iload_n hx hb dX8_keyAt_17 rfl (lv_at hl 1 rfl) ?_
            refine lv_iload_n hx hb dX8_keyAt_18 rfl (lv_at hl 0 rfl) ?_
            refine lv_iadd hx hb dX8_keyAt_19 ?_
            refine g_vi (y := (nI (kk + ki))) (nI_add _ _) ?_
            refine g_callZ (wr := [(o, .inr (8, [.int w0, .ref g1, .ref g2, .ref g3, .ref g4, .int (nI tp), .int (nI at_), .int (nI be), .int (nI sz), .int w9, .int w10, .int w11, .int w12, .int w13, .int w14, .ref g15, .int w16, .ref g17, .int w18, .int w19, .ref g20, .int w21, .ref g22, .ref g23, .ref g24, .int w25, .int w26, .int w27, .ref g28, .ref g29, .int w30, .ref g31, .ref g32, .ref g33])), (g3, .inl (T 0, 900, .inl ft))]) (nA := 1) hC V hl.1 (z_charAt l D T 8 (kk + ki) (by decide) (by omega)) w_1043 w_337 w_338 w_12 w_339 (by decide +kernel) rfl ⟨(Nat.le_of_ble_eq_true rfl), (Nat.le_of_ble_eq_true rfl)⟩ (si := 8) (by first | assumption | decide) rfl rfl [] [0, 1] rfl rfl rfl rfl (by decide) (Nat.le_of_ble_eq_true rfl) dX8_keyAt_20 ⟨(Nat.le_of_ble_eq_true rfl), (Nat.le_of_ble_eq_true rfl)⟩ rfl (fun r w1 H locs hQ V => ?_)
            obtain ⟨z_4, rfl, rfl, f_5⟩ := hQ
            have V : gW D T A s [(o, .inr (8, [.int w0, .ref g1, .ref g2, .ref g3, .ref g4, .int (nI tp), .int (nI at_), .int (nI be), .int (nI sz), .int w9, .int w10, .int w11, .int w12, .int w13, .int w14, .ref g15, .int w16, .ref g17, .int w18, .int w19, .ref g20, .int w21, .ref g22, .ref g23, .ref g24, .int w25, .int w26, .int w27, .ref g28, .ref g29, .int w30, .ref g31, .ref g32, .ref g33])), (g3, .inl (T 0, 900, .inl ft))] H locs := V
            show W p l e _ s m args below meth c H locs _ _ _ (F0 m 23 ls [.int z_4])
            refine lv_bipush (v := (nI 32)) hx hb dX8_keyAt_23 (by decide +kernel) ?_
            refine lv_icmp_eq (tgt := 69) hx hb dX8_keyAt_25 (by decide) (fun c_6 => ?_) (fun c_6 => ?_)
            · skip
              refine g_ldcS hC V 8 rfl dX8_keyAt_69 ?_
              refine lv_iload_n hx hb dX8_keyAt_71 rfl (lv_at hl 1 rfl) ?_
              refine lv_iload_n hx hb dX8_keyAt_72 rfl (lv_at hl 0 rfl) ?_
              refine lv_iadd hx hb dX8_keyAt_73 ?_
              refine g_vi (y := (nI (kk + ki))) (nI_add _ _) ?_
              refine g_callZ (wr := [(o, .inr (8, [.int w0, .ref g1, .ref g2, .ref g3, .ref g4, .int (nI tp), .int (nI at_), .int (nI be), .int (nI sz), .int w9, .int w10, .int w11, .int w12, .int w13, .int w14, .ref g15, .int w16, .ref g17, .int w18, .int w19, .ref g20, .int w21, .ref g22, .ref g23, .ref g24, .int w25, .int w26, .int w27, .ref g28, .ref g29, .int w30, .ref g31, .ref g32, .ref g33])), (g3, .inl (T 0, 900, .inl ft))]) (nA := 1) hC V hl.1 (z_charAt l D T 8 (kk + ki) (by decide) (by omega)) w_1043 w_337 w_338 w_12 w_339 (by decide +kernel) rfl ⟨(Nat.le_of_ble_eq_true rfl), (Nat.le_of_ble_eq_true rfl)⟩ (si := 8) (by first | assumption | decide) rfl rfl [] [0, 1] rfl rfl rfl rfl (by decide) (Nat.le_of_ble_eq_true rfl) dX8_keyAt_74 ⟨(Nat.le_of_ble_eq_true rfl), (Nat.le_of_ble_eq_true rfl)⟩ rfl (fun r w1 H locs hQ V => ?_)
              obtain ⟨z_7, rfl, rfl, f_8⟩ := hQ
              have V : gW D T A s [(o, .inr (8, [.int w0, .ref g1, .ref g2, .ref g3, .ref g4, .int (nI tp), .int (nI at_), .int (nI be), .int (nI sz), .int w9, .int w10, .int w11, .int w12, .int w13, .int w14, .ref g15, .int w16, .ref g17, .int w18, .int w19, .ref g20, .int w21, .ref g22, .ref g23, .ref g24, .int w25, .int w26, .int w27, .ref g28, .ref g29, .int w30, .ref g31, .ref g32, .ref g33])), (g3, .inl (T 0, 900, .inl ft))] H locs := V
              show W p l e _ s m args below meth c H locs _ _ _ (F0 m 77 ls [.int z_7])
              refine lv_bipush (v := (nI 32)) hx hb dX8_keyAt_77 (by decide +kernel) ?_
              refine lv_icmp_ne (tgt := 97) hx hb dX8_keyAt_79 (by decide) (fun c_9 => ?_) (fun c_9 => ?_)
              · skip
                have L_10 : ∀ (fu : Nat) (kx : Nat), (kk ≤ kx ∧ kx ≤ 43) → 44 - kx < fu → ∀ (H : Heap) (locs : List Loc) (ls : Array Slot), gW D T A s [(o, .inr (8, [.int w0, .ref g1, .ref g2, .ref g3, .ref g4, .int (nI tp), .int (nI at_), .int (nI be), .int (nI sz), .int w9, .int w10, .int w11, .int w12, .int w13, .int w14, .ref g15, .int w16, .ref g17, .int w18, .int w19, .ref g20, .int w21, .ref g22, .ref g23, .ref g24, .int w25, .int w26, .int w27, .ref g28, .ref g29, .int w30, .ref g31, .ref g32, .ref g33])), (g3, .inl (T 0, 900, .inl ft))] H locs → lv_has ls 4 [(3, .int (nI ki)), (2, .int (nI kx)), (1, .int x4_1), (0, .ref o)] → W p l e (rmD 4 0 0) s m args below meth c H locs 0 0 (MQ below (gQ D A (q_m_keyAt T o w0 g1 g2 g3 g4 tp at_ be sz w9 w10 w11 w12 w13 w14 g15 w16 g17 w18 w19 g20 w21 g22 g23 g24 w25 w26 w27 g28 g29 w30 g31 g32 g33 ft)) args s 0 0 A) (F0 m 97 ls []) := by
                  intro fu_97
                  induction fu_97 with
                  | zero => intro kx hkx hmu; exact absurd hmu (Nat.not_lt_zero _)
                  | succ fu_97 ih_97 =>
                    intro kx hkx hmu_97 H locs ls V hl
                    refine g_ldcS hC V 8 rfl dX8_keyAt_97 ?_
                    refine lv_iload_n hx hb dX8_keyAt_99 rfl (lv_at hl 1 rfl) ?_
                    refine g_callZ (wr := [(o, .inr (8, [.int w0, .ref g1, .ref g2, .ref g3, .ref g4, .int (nI tp), .int (nI at_), .int (nI be), .int (nI sz), .int w9, .int w10, .int w11, .int w12, .int w13, .int w14, .ref g15, .int w16, .ref g17, .int w18, .int w19, .ref g20, .int w21, .ref g22, .ref g23, .ref g24, .int w25, .int w26, .int w27, .ref g28, .ref g29, .int w30, .ref g31, .ref g32, .ref g33])), (g3, .inl (T 0, 900, .inl ft))]) (nA := 1) hC V hl.1 (z_charAt l D T 8 kx (by decide) (by omega)) w_1043 w_337 w_338 w_12 w_339 (by decide +kernel) rfl ⟨(Nat.le_of_ble_eq_true rfl), (Nat.le_of_ble_eq_true rfl)⟩ (si := 8) (by first | assumption | decide) rfl rfl [] [0, 1] rfl rfl rfl rfl (by decide) (Nat.le_of_ble_eq_true rfl) dX8_keyAt_100 ⟨(Nat.le_of_ble_eq_true rfl), (Nat.le_of_ble_eq_true rfl)⟩ rfl (fun r w1 H locs hQ V => ?_)
                    obtain ⟨z_11, rfl, rfl, f_12⟩ := hQ
                    have V : gW D T A s [(o, .inr (8, [.int w0, .ref g1, .ref g2, .ref g3, .ref g4, .int (nI tp), .int (nI at_), .int (nI be), .int (nI sz), .int w9, .int w10, .int w11, .int w12, .int w13, .int w14, .ref g15, .int w16, .ref g17, .int w18, .int w19, .ref g20, .int w21, .ref g22, .ref g23, .ref g24, .int w25, .int w26, .int w27, .ref g28, .ref g29, .int w30, .ref g31, .ref g32, .ref g33])), (g3, .inl (T 0, 900, .inl ft))] H locs := V
                    show W p l e _ s m args below meth c H locs _ _ _ (F0 m 103 ls [.int z_11])
                    refine lv_bipush (v := (nI 32)) hx hb dX8_keyAt_103 (by decide +kernel) ?_
                    refine lv_icmp_eq (tgt := 114) hx hb dX8_keyAt_105 (by decide) (fun c_13 => ?_) (fun c_13 => ?_)
                    · skip
                      refine lv_iinc (v := (nI (kx + 1))) (lv' := [(2, .int (nI (kx + 1))), (3, .int (nI ki)), (1, .int x4_1), (0, .ref o)]) hx hb dX8_keyAt_114 hl (k := 1) rfl (nI_1 _) (by decide) rfl (fun ls hl => ?_)
                      refine lv_iinc (v := (x4_1 + 1)) (lv' := [(1, .int (x4_1 + 1)), (2, .int (nI (kx + 1))), (3, .int (nI ki)), (0, .ref o)]) hx hb dX8_keyAt_117 hl (k := 2) rfl rfl (by decide) rfl (fun ls hl => ?_)
                      refine lv_goto (tgt := 4) hx hb dX8_keyAt_120 (by decide) ?_
                      exact ih_4 (kx + 1) (x4_1 + 1) (by omega) (by omega) _ _ _ V (lv_sub hl [1, 0, 3] rfl)
                    · skip
                      have hn2 : kx ≠ 43 := fun e => c_13 (by rw [f_12, e]; exact h43)
                      refine lv_iinc (v := (nI (kx + 1))) (lv' := [(2, .int (nI (kx + 1))), (3, .int (nI ki)), (1, .int x4_1), (0, .ref o)]) hx hb dX8_keyAt_108 hl (k := 1) rfl (nI_1 _) (by decide) rfl (fun ls hl => ?_)
                      refine lv_goto (tgt := 97) hx hb dX8_keyAt_111 (by decide) ?_
                      exact ih_97 (kx + 1) (by omega) (by omega) _ _ _ V (lv_sub hl [1, 0, 2, 3] rfl)
                exact L_10 _ kk (by omega) (Nat.lt_succ_self _) _ _ _ V (lv_sub hl [0, 1, 2, 3] rfl)
              · skip
                refine lv_aload_n hx hb dX8_keyAt_82 rfl (lv_at hl 3 rfl) ?_
                refine g_get hC V (ci := 8) uwX8 0 rfl rfl 6 (by decide) w_918 rfl rfl dX8_keyAt_83 ?_
                refine lv_iload_n hx hb dX8_keyAt_86 rfl (lv_at hl 0 rfl) ?_
                refine lv_iadd hx hb dX8_keyAt_87 ?_
                refine g_vi (y := (nI (at_ + ki))) (nI_add _ _) ?_
                refine lv_aload_n hx hb dX8_keyAt_88 rfl (lv_at hl 3 rfl) ?_
                refine g_get hC V (ci := 8) uwX8 0 rfl rfl 7 (by decide) w_919 rfl rfl dX8_keyAt_89 ?_
                refine lv_icmp_ne (tgt := 97) hx hb dX8_keyAt_92 (by decide) (fun c_14 => ?_) (fun c_14 => ?_)
                · skip
                  have c_14 := b_ne (by omega) (by omega) c_14
                  have L_15 : ∀ (fu : Nat) (kx : Nat), (kk ≤ kx ∧ kx ≤ 43) → 44 - kx < fu → ∀ (H : Heap) (locs : List Loc) (ls : Array Slot), gW D T A s [(o, .inr (8, [.int w0, .ref g1, .ref g2, .ref g3, .ref g4, .int (nI tp), .int (nI at_), .int (nI be), .int (nI sz), .int w9, .int w10, .int w11, .int w12, .int w13, .int w14, .ref g15, .int w16, .ref g17, .int w18, .int w19, .ref g20, .int w21, .ref g22, .ref g23, .ref g24, .int w25, .int w26, .int w27, .ref g28, .ref g29, .int w30, .ref g31, .ref g32, .ref g33])), (g3, .inl (T 0, 900, .inl ft))] H locs → lv_has ls 4 [(3, .int (nI ki)), (2, .int (nI kx)), (1, .int x4_1), (0, .ref o)] → W p l e (rmD 4 0 0) s m args below meth c H locs 0 0 (MQ below (gQ D A (q_m_keyAt T o w0 g1 g2 g3 g4 tp at_ be sz w9 w10 w11 w12 w13 w14 g15 w16 g17 w18 w19 g20 w21 g22 g23 g24 w25 w26 w27 g28 g29 w30 g31 g32 g33 ft)) args s 0 0 A) (F0 m 97 ls []) := by
                    intro fu_97
                    induction fu_97 with
                    | zero => intro kx hkx hmu; exact absurd hmu (Nat.not_lt_zero _)
                    | succ fu_97 ih_97 =>
                      intro kx hkx hmu_97 H locs ls V hl
                      refine g_ldcS hC V 8 rfl dX8_keyAt_97 ?_
                      refine lv_iload_n hx hb dX8_keyAt_99 rfl (lv_at hl 1 rfl) ?_
                      refine g_callZ (wr := [(o, .inr (8, [.int w0, .ref g1, .ref g2, .ref g3, .ref g4, .int (nI tp), .int (nI at_), .int (nI be), .int (nI sz), .int w9, .int w10, .int w11, .int w12, .int w13, .int w14, .ref g15, .int w16, .ref g17, .int w18, .int w19, .ref g20, .int w21, .ref g22, .ref g23, .ref g24, .int w25, .int w26, .int w27, .ref g28, .ref g29, .int w30, .ref g31, .ref g32, .ref g33])), (g3, .inl (T 0, 900, .inl ft))]) (nA := 1) hC V hl.1 (z_charAt l D T 8 kx (by decide) (by omega)) w_1043 w_337 w_338 w_12 w_339 (by decide +kernel) rfl ⟨(Nat.le_of_ble_eq_true rfl), (Nat.le_of_ble_eq_true rfl)⟩ (si := 8) (by first | assumption | decide) rfl rfl [] [0, 1] rfl rfl rfl rfl (by decide) (Nat.le_of_ble_eq_true rfl) dX8_keyAt_100 ⟨(Nat.le_of_ble_eq_true rfl), (Nat.le_of_ble_eq_true rfl)⟩ rfl (fun r w1 H locs hQ V => ?_)
                      obtain ⟨z_16, rfl, rfl, f_17⟩ := hQ
                      have V : gW D T A s [(o, .inr (8, [.int w0, .ref g1, .ref g2, .ref g3, .ref g4, .int (nI tp), .int (nI at_), .int (nI be), .int (nI sz), .int w9, .int w10, .int w11, .int w12, .int w13, .int w14, .ref g15, .int w16, .ref g17, .int w18, .int w19, .ref g20, .int w21, .ref g22, .ref g23, .ref g24, .int w25, .int w26, .int w27, .ref g28, .ref g29, .int w30, .ref g31, .ref g32, .ref g33])), (g3, .inl (T 0, 900, .inl ft))] H locs := V
                      show W p l e _ s m args below meth c H locs _ _ _ (F0 m 103 ls [.int z_16])
                      refine lv_bipush (v := (nI 32)) hx hb dX8_keyAt_103 (by decide +kernel) ?_
                      refine lv_icmp_eq (tgt := 114) hx hb dX8_keyAt_105 (by decide) (fun c_18 => ?_) (fun c_18 => ?_)
                      · skip
                        refine lv_iinc (v := (nI (kx + 1))) (lv' := [(2, .int (nI (kx + 1))), (3, .int (nI ki)), (1, .int x4_1), (0, .ref o)]) hx hb dX8_keyAt_114 hl (k := 1) rfl (nI_1 _) (by decide) rfl (fun ls hl => ?_)
                        refine lv_iinc (v := (x4_1 + 1)) (lv' := [(1, .int (x4_1 + 1)), (2, .int (nI (kx + 1))), (3, .int (nI ki)), (0, .ref o)]) hx hb dX8_keyAt_117 hl (k := 2) rfl rfl (by decide) rfl (fun ls hl => ?_)
                        refine lv_goto (tgt := 4) hx hb dX8_keyAt_120 (by decide) ?_
                        exact ih_4 (kx + 1) (x4_1 + 1) (by omega) (by omega) _ _ _ V (lv_sub hl [1, 0, 3] rfl)
                      · skip
                        have hn2 : kx ≠ 43 := fun e => c_18 (by rw [f_17, e]; exact h43)
                        refine lv_iinc (v := (nI (kx + 1))) (lv' := [(2, .int (nI (kx + 1))), (3, .int (nI ki)), (1, .int x4_1), (0, .ref o)]) hx hb dX8_keyAt_108 hl (k := 1) rfl (nI_1 _) (by decide) rfl (fun ls hl => ?_)
                        refine lv_goto (tgt := 97) hx hb dX8_keyAt_111 (by decide) ?_
                        exact ih_97 (kx + 1) (by omega) (by omega) _ _ _ V (lv_sub hl [1, 0, 2, 3] rfl)
                  exact L_15 _ kk (by omega) (Nat.lt_succ_self _) _ _ _ V (lv_sub hl [0, 1, 2, 3] rfl)
                · skip
                  have c_14 := b_eq (by omega) (by omega) c_14
                  refine lv_iload_n hx hb dX8_keyAt_95 rfl (lv_at hl 2 rfl) ?_
                  exact g_iret (Qr := (q_m_keyAt T o w0 g1 g2 g3 g4 tp at_ be sz w9 w10 w11 w12 w13 w14 g15 w16 g17 w18 w19 g20 w21 g22 g23 g24 w25 w26 w27 g28 g29 w30 g31 g32 g33 ft)) hC V ⟨(Nat.le_of_ble_eq_true rfl), (Nat.le_of_ble_eq_true rfl)⟩ ⟨x4_1, rfl, rfl⟩ dX8_keyAt_96
            · skip
              have hn1 : kk + ki ≠ 43 := fun e => c_6 (by rw [f_5, e]; exact h43)
              refine lv_aload_n hx hb dX8_keyAt_28 rfl (lv_at hl 3 rfl) ?_
              refine g_get hC V (ci := 8) uwX8 0 rfl rfl 6 (by decide) w_918 rfl rfl dX8_keyAt_29 ?_
              refine lv_iload_n hx hb dX8_keyAt_32 rfl (lv_at hl 0 rfl) ?_
              refine lv_iadd hx hb dX8_keyAt_33 ?_
              refine g_vi (y := (nI (at_ + ki))) (nI_add _ _) ?_
              refine lv_aload_n hx hb dX8_keyAt_34 rfl (lv_at hl 3 rfl) ?_
              refine g_get hC V (ci := 8) uwX8 0 rfl rfl 7 (by decide) w_919 rfl rfl dX8_keyAt_35 ?_
              refine lv_icmp_ge (tgt := 69) hx hb dX8_keyAt_38 (by decide) (fun c_19 => ?_) (fun c_19 => ?_)
              · skip
                have c_19 := b_le (by omega) (by omega) c_19
                refine g_ldcS hC V 8 rfl dX8_keyAt_69 ?_
                refine lv_iload_n hx hb dX8_keyAt_71 rfl (lv_at hl 1 rfl) ?_
                refine lv_iload_n hx hb dX8_keyAt_72 rfl (lv_at hl 0 rfl) ?_
                refine lv_iadd hx hb dX8_keyAt_73 ?_
                refine g_vi (y := (nI (kk + ki))) (nI_add _ _) ?_
                refine g_callZ (wr := [(o, .inr (8, [.int w0, .ref g1, .ref g2, .ref g3, .ref g4, .int (nI tp), .int (nI at_), .int (nI be), .int (nI sz), .int w9, .int w10, .int w11, .int w12, .int w13, .int w14, .ref g15, .int w16, .ref g17, .int w18, .int w19, .ref g20, .int w21, .ref g22, .ref g23, .ref g24, .int w25, .int w26, .int w27, .ref g28, .ref g29, .int w30, .ref g31, .ref g32, .ref g33])), (g3, .inl (T 0, 900, .inl ft))]) (nA := 1) hC V hl.1 (z_charAt l D T 8 (kk + ki) (by decide) (by omega)) w_1043 w_337 w_338 w_12 w_339 (by decide +kernel) rfl ⟨(Nat.le_of_ble_eq_true rfl), (Nat.le_of_ble_eq_true rfl)⟩ (si := 8) (by first | assumption | decide) rfl rfl [] [0, 1] rfl rfl rfl rfl (by decide) (Nat.le_of_ble_eq_true rfl) dX8_keyAt_74 ⟨(Nat.le_of_ble_eq_true rfl), (Nat.le_of_ble_eq_true rfl)⟩ rfl (fun r w1 H locs hQ V => ?_)
                obtain ⟨z_20, rfl, rfl, f_21⟩ := hQ
                have V : gW D T A s [(o, .inr (8, [.int w0, .ref g1, .ref g2, .ref g3, .ref g4, .int (nI tp), .int (nI at_), .int (nI be), .int (nI sz), .int w9, .int w10, .int w11, .int w12, .int w13, .int w14, .ref g15, .int w16, .ref g17, .int w18, .int w19, .ref g20, .int w21, .ref g22, .ref g23, .ref g24, .int w25, .int w26, .int w27, .ref g28, .ref g29, .int w30, .ref g31, .ref g32, .ref g33])), (g3, .inl (T 0, 900, .inl ft))] H locs := V
                show W p l e _ s m args below meth c H locs _ _ _ (F0 m 77 ls [.int z_20])
                refine lv_bipush (v := (nI 32)) hx hb dX8_keyAt_77 (by decide +kernel) ?_
                refine lv_icmp_ne (tgt := 97) hx hb dX8_keyAt_79 (by decide) (fun c_22 => ?_) (fun c_22 => ?_)
                · skip
                  have L_23 : ∀ (fu : Nat) (kx : Nat), (kk ≤ kx ∧ kx ≤ 43) → 44 - kx < fu → ∀ (H : Heap) (locs : List Loc) (ls : Array Slot), gW D T A s [(o, .inr (8, [.int w0, .ref g1, .ref g2, .ref g3, .ref g4, .int (nI tp), .int (nI at_), .int (nI be), .int (nI sz), .int w9, .int w10, .int w11, .int w12, .int w13, .int w14, .ref g15, .int w16, .ref g17, .int w18, .int w19, .ref g20, .int w21, .ref g22, .ref g23, .ref g24, .int w25, .int w26, .int w27, .ref g28, .ref g29, .int w30, .ref g31, .ref g32, .ref g33])), (g3, .inl (T 0, 900, .inl ft))] H locs → lv_has ls 4 [(3, .int (nI ki)), (2, .int (nI kx)), (1, .int x4_1), (0, .ref o)] → W p l e (rmD 4 0 0) s m args below meth c H locs 0 0 (MQ below (gQ D A (q_m_keyAt T o w0 g1 g2 g3 g4 tp at_ be sz w9 w10 w11 w12 w13 w14 g15 w16 g17 w18 w19 g20 w21 g22 g23 g24 w25 w26 w27 g28 g29 w30 g31 g32 g33 ft)) args s 0 0 A) (F0 m 97 ls []) := by
                    intro fu_97
                    induction fu_97 with
                    | zero => intro kx hkx hmu; exact absurd hmu (Nat.not_lt_zero _)
                    | succ fu_97 ih_97 =>
                      intro kx hkx hmu_97 H locs ls V hl
                      refine g_ldcS hC V 8 rfl dX8_keyAt_97 ?_
                      refine lv_iload_n hx hb dX8_keyAt_99 rfl (lv_at hl 1 rfl) ?_
                      refine g_callZ (wr := [(o, .inr (8, [.int w0, .ref g1, .ref g2, .ref g3, .ref g4, .int (nI tp), .int (nI at_), .int (nI be), .int (nI sz), .int w9, .int w10, .int w11, .int w12, .int w13, .int w14, .ref g15, .int w16, .ref g17, .int w18, .int w19, .ref g20, .int w21, .ref g22, .ref g23, .ref g24, .int w25, .int w26, .int w27, .ref g28, .ref g29, .int w30, .ref g31, .ref g32, .ref g33])), (g3, .inl (T 0, 900, .inl ft))]) (nA := 1) hC V hl.1 (z_charAt l D T 8 kx (by decide) (by omega)) w_1043 w_337 w_338 w_12 w_339 (by decide +kernel) rfl ⟨(Nat.le_of_ble_eq_true rfl), (Nat.le_of_ble_eq_true rfl)⟩ (si := 8) (by first | assumption | decide) rfl rfl [] [0, 1] rfl rfl rfl rfl (by decide) (Nat.le_of_ble_eq_true rfl) dX8_keyAt_100 ⟨(Nat.le_of_ble_eq_true rfl), (Nat.le_of_ble_eq_true rfl)⟩ rfl (fun r w1 H locs hQ V => ?_)
                      obtain ⟨z_24, rfl, rfl, f_25⟩ := hQ
                      have V : gW D T A s [(o, .inr (8, [.int w0, .ref g1, .ref g2, .ref g3, .ref g4, .int (nI tp), .int (nI at_), .int (nI be), .int (nI sz), .int w9, .int w10, .int w11, .int w12, .int w13, .int w14, .ref g15, .int w16, .ref g17, .int w18, .int w19, .ref g20, .int w21, .ref g22, .ref g23, .ref g24, .int w25, .int w26, .int w27, .ref g28, .ref g29, .int w30, .ref g31, .ref g32, .ref g33])), (g3, .inl (T 0, 900, .inl ft))] H locs := V
                      show W p l e _ s m args below meth c H locs _ _ _ (F0 m 103 ls [.int z_24])
                      refine lv_bipush (v := (nI 32)) hx hb dX8_keyAt_103 (by decide +kernel) ?_
                      refine lv_icmp_eq (tgt := 114) hx hb dX8_keyAt_105 (by decide) (fun c_26 => ?_) (fun c_26 => ?_)
                      · skip
                        refine lv_iinc (v := (nI (kx + 1))) (lv' := [(2, .int (nI (kx + 1))), (3, .int (nI ki)), (1, .int x4_1), (0, .ref o)]) hx hb dX8_keyAt_114 hl (k := 1) rfl (nI_1 _) (by decide) rfl (fun ls hl => ?_)
                        refine lv_iinc (v := (x4_1 + 1)) (lv' := [(1, .int (x4_1 + 1)), (2, .int (nI (kx + 1))), (3, .int (nI ki)), (0, .ref o)]) hx hb dX8_keyAt_117 hl (k := 2) rfl rfl (by decide) rfl (fun ls hl => ?_)
                        refine lv_goto (tgt := 4) hx hb dX8_keyAt_120 (by decide) ?_
                        exact ih_4 (kx + 1) (x4_1 + 1) (by omega) (by omega) _ _ _ V (lv_sub hl [1, 0, 3] rfl)
                      · skip
                        have hn2 : kx ≠ 43 := fun e => c_26 (by rw [f_25, e]; exact h43)
                        refine lv_iinc (v := (nI (kx + 1))) (lv' := [(2, .int (nI (kx + 1))), (3, .int (nI ki)), (1, .int x4_1), (0, .ref o)]) hx hb dX8_keyAt_108 hl (k := 1) rfl (nI_1 _) (by decide) rfl (fun ls hl => ?_)
                        refine lv_goto (tgt := 97) hx hb dX8_keyAt_111 (by decide) ?_
                        exact ih_97 (kx + 1) (by omega) (by omega) _ _ _ V (lv_sub hl [1, 0, 2, 3] rfl)
                  exact L_23 _ kk (by omega) (Nat.lt_succ_self _) _ _ _ V (lv_sub hl [0, 1, 2, 3] rfl)
                · skip
                  refine lv_aload_n hx hb dX8_keyAt_82 rfl (lv_at hl 3 rfl) ?_
                  refine g_get hC V (ci := 8) uwX8 0 rfl rfl 6 (by decide) w_918 rfl rfl dX8_keyAt_83 ?_
                  refine lv_iload_n hx hb dX8_keyAt_86 rfl (lv_at hl 0 rfl) ?_
                  refine lv_iadd hx hb dX8_keyAt_87 ?_
                  refine g_vi (y := (nI (at_ + ki))) (nI_add _ _) ?_
                  refine lv_aload_n hx hb dX8_keyAt_88 rfl (lv_at hl 3 rfl) ?_
                  refine g_get hC V (ci := 8) uwX8 0 rfl rfl 7 (by decide) w_919 rfl rfl dX8_keyAt_89 ?_
                  refine lv_icmp_ne (tgt := 97) hx hb dX8_keyAt_92 (by decide) (fun c_27 => ?_) (fun c_27 => ?_)
                  · skip
                    have c_27 := b_ne (by omega) (by omega) c_27
                    have L_28 : ∀ (fu : Nat) (kx : Nat), (kk ≤ kx ∧ kx ≤ 43) → 44 - kx < fu → ∀ (H : Heap) (locs : List Loc) (ls : Array Slot), gW D T A s [(o, .inr (8, [.int w0, .ref g1, .ref g2, .ref g3, .ref g4, .int (nI tp), .int (nI at_), .int (nI be), .int (nI sz), .int w9, .int w10, .int w11, .int w12, .int w13, .int w14, .ref g15, .int w16, .ref g17, .int w18, .int w19, .ref g20, .int w21, .ref g22, .ref g23, .ref g24, .int w25, .int w26, .int w27, .ref g28, .ref g29, .int w30, .ref g31, .ref g32, .ref g33])), (g3, .inl (T 0, 900, .inl ft))] H locs → lv_has ls 4 [(3, .int (nI ki)), (2, .int (nI kx)), (1, .int x4_1), (0, .ref o)] → W p l e (rmD 4 0 0) s m args below meth c H locs 0 0 (MQ below (gQ D A (q_m_keyAt T o w0 g1 g2 g3 g4 tp at_ be sz w9 w10 w11 w12 w13 w14 g15 w16 g17 w18 w19 g20 w21 g22 g23 g24 w25 w26 w27 g28 g29 w30 g31 g32 g33 ft)) args s 0 0 A) (F0 m 97 ls []) := by
                      intro fu_97
                      induction fu_97 with
                      | zero => intro kx hkx hmu; exact absurd hmu (Nat.not_lt_zero _)
                      | succ fu_97 ih_97 =>
                        intro kx hkx hmu_97 H locs ls V hl
                        refine g_ldcS hC V 8 rfl dX8_keyAt_97 ?_
                        refine lv_iload_n hx hb dX8_keyAt_99 rfl (lv_at hl 1 rfl) ?_
                        refine g_callZ (wr := [(o, .inr (8, [.int w0, .ref g1, .ref g2, .ref g3, .ref g4, .int (nI tp), .int (nI at_), .int (nI be), .int (nI sz), .int w9, .int w10, .int w11, .int w12, .int w13, .int w14, .ref g15, .int w16, .ref g17, .int w18, .int w19, .ref g20, .int w21, .ref g22, .ref g23, .ref g24, .int w25, .int w26, .int w27, .ref g28, .ref g29, .int w30, .ref g31, .ref g32, .ref g33])), (g3, .inl (T 0, 900, .inl ft))]) (nA := 1) hC V hl.1 (z_charAt l D T 8 kx (by decide) (by omega)) w_1043 w_337 w_338 w_12 w_339 (by decide +kernel) rfl ⟨(Nat.le_of_ble_eq_true rfl), (Nat.le_of_ble_eq_true rfl)⟩ (si := 8) (by first | assumption | decide) rfl rfl [] [0, 1] rfl rfl rfl rfl (by decide) (Nat.le_of_ble_eq_true rfl) dX8_keyAt_100 ⟨(Nat.le_of_ble_eq_true rfl), (Nat.le_of_ble_eq_true rfl)⟩ rfl (fun r w1 H locs hQ V => ?_)
                        obtain ⟨z_29, rfl, rfl, f_30⟩ := hQ
                        have V : gW D T A s [(o, .inr (8, [.int w0, .ref g1, .ref g2, .ref g3, .ref g4, .int (nI tp), .int (nI at_), .int (nI be), .int (nI sz), .int w9, .int w10, .int w11, .int w12, .int w13, .int w14, .ref g15, .int w16, .ref g17, .int w18, .int w19, .ref g20, .int w21, .ref g22, .ref g23, .ref g24, .int w25, .int w26, .int w27, .ref g28, .ref g29, .int w30, .ref g31, .ref g32, .ref g33])), (g3, .inl (T 0, 900, .inl ft))] H locs := V
                        show W p l e _ s m args below meth c H locs _ _ _ (F0 m 103 ls [.int z_29])
                        refine lv_bipush (v := (nI 32)) hx hb dX8_keyAt_103 (by decide +kernel) ?_
                        refine lv_icmp_eq (tgt := 114) hx hb dX8_keyAt_105 (by decide) (fun c_31 => ?_) (fun c_31 => ?_)
                        · skip
                          refine lv_iinc (v := (nI (kx + 1))) (lv' := [(2, .int (nI (kx + 1))), (3, .int (nI ki)), (1, .int x4_1), (0, .ref o)]) hx hb dX8_keyAt_114 hl (k := 1) rfl (nI_1 _) (by decide) rfl (fun ls hl => ?_)
                          refine lv_iinc (v := (x4_1 + 1)) (lv' := [(1, .int (x4_1 + 1)), (2, .int (nI (kx + 1))), (3, .int (nI ki)), (0, .ref o)]) hx hb dX8_keyAt_117 hl (k := 2) rfl rfl (by decide) rfl (fun ls hl => ?_)
                          refine lv_goto (tgt := 4) hx hb dX8_keyAt_120 (by decide) ?_
                          exact ih_4 (kx + 1) (x4_1 + 1) (by omega) (by omega) _ _ _ V (lv_sub hl [1, 0, 3] rfl)
                        · skip
                          have hn2 : kx ≠ 43 := fun e => c_31 (by rw [f_30, e]; exact h43)
                          refine lv_iinc (v := (nI (kx + 1))) (lv' := [(2, .int (nI (kx + 1))), (3, .int (nI ki)), (1, .int x4_1), (0, .ref o)]) hx hb dX8_keyAt_108 hl (k := 1) rfl (nI_1 _) (by decide) rfl (fun ls hl => ?_)
                          refine lv_goto (tgt := 97) hx hb dX8_keyAt_111 (by decide) ?_
                          exact ih_97 (kx + 1) (by omega) (by omega) _ _ _ V (lv_sub hl [1, 0, 2, 3] rfl)
                    exact L_28 _ kk (by omega) (Nat.lt_succ_self _) _ _ _ V (lv_sub hl [0, 1, 2, 3] rfl)
                  · skip
                    have c_27 := b_eq (by omega) (by omega) c_27
                    refine lv_iload_n hx hb dX8_keyAt_95 rfl (lv_at hl 2 rfl) ?_
                    exact g_iret (Qr := (q_m_keyAt T o w0 g1 g2 g3 g4 tp at_ be sz w9 w10 w11 w12 w13 w14 g15 w16 g17 w18 w19 g20 w21 g22 g23 g24 w25 w26 w27 g28 g29 w30 g31 g32 g33 ft)) hC V ⟨(Nat.le_of_ble_eq_true rfl), (Nat.le_of_ble_eq_true rfl)⟩ ⟨x4_1, rfl, rfl⟩ dX8_keyAt_96
              · skip
                have c_19 := b_nle (by omega) (by omega) c_19
                refine lv_aload_n hx hb dX8_keyAt_41 rfl (lv_at hl 3 rfl) ?_
                refine g_get hC V (ci := 8) uwX8 0 rfl rfl 3 (by decide) w_915 rfl rfl dX8_keyAt_42 ?_
                refine lv_aload_n hx hb dX8_keyAt_45 rfl (lv_at hl 3 rfl) ?_
                refine g_get hC V (ci := 8) uwX8 0 rfl rfl 6 (by decide) w_918 rfl rfl dX8_keyAt_46 ?_
                refine lv_iload_n hx hb dX8_keyAt_49 rfl (lv_at hl 0 rfl) ?_
                refine lv_iadd hx hb dX8_keyAt_50 ?_
                refine g_vi (y := (nI (at_ + ki))) (nI_add _ _) ?_
                refine g_iald hC V 1 rfl (vp_in_nI (by omega) (by omega)) (v := (ft (at_ + ki))) (congrArg _ (nI_clamp (by omega))) dX8_keyAt_51 ?_
                refine g_ldcS hC V 8 rfl dX8_keyAt_52 ?_
                refine lv_iload_n hx hb dX8_keyAt_54 rfl (lv_at hl 1 rfl) ?_
                refine lv_iload_n hx hb dX8_keyAt_55 rfl (lv_at hl 0 rfl) ?_
                refine lv_iadd hx hb dX8_keyAt_56 ?_
                refine g_vi (y := (nI (kk + ki))) (nI_add _ _) ?_
                refine g_callZ (wr := [(o, .inr (8, [.int w0, .ref g1, .ref g2, .ref g3, .ref g4, .int (nI tp), .int (nI at_), .int (nI be), .int (nI sz), .int w9, .int w10, .int w11, .int w12, .int w13, .int w14, .ref g15, .int w16, .ref g17, .int w18, .int w19, .ref g20, .int w21, .ref g22, .ref g23, .ref g24, .int w25, .int w26, .int w27, .ref g28, .ref g29, .int w30, .ref g31, .ref g32, .ref g33])), (g3, .inl (T 0, 900, .inl ft))]) (nA := 1) hC V hl.1 (z_charAt l D T 8 (kk + ki) (by decide) (by omega)) w_1043 w_337 w_338 w_12 w_339 (by decide +kernel) rfl ⟨(Nat.le_of_ble_eq_true rfl), (Nat.le_of_ble_eq_true rfl)⟩ (si := 8) (by first | assumption | decide) rfl rfl [] [0, 1] rfl rfl rfl rfl (by decide) (Nat.le_of_ble_eq_true rfl) dX8_keyAt_57 ⟨(Nat.le_of_ble_eq_true rfl), (Nat.le_of_ble_eq_true rfl)⟩ rfl (fun r w1 H locs hQ V => ?_)
                obtain ⟨z_32, rfl, rfl, f_33⟩ := hQ
                have V : gW D T A s [(o, .inr (8, [.int w0, .ref g1, .ref g2, .ref g3, .ref g4, .int (nI tp), .int (nI at_), .int (nI be), .int (nI sz), .int w9, .int w10, .int w11, .int w12, .int w13, .int w14, .ref g15, .int w16, .ref g17, .int w18, .int w19, .ref g20, .int w21, .ref g22, .ref g23, .ref g24, .int w25, .int w26, .int w27, .ref g28, .ref g29, .int w30, .ref g31, .ref g32, .ref g33])), (g3, .inl (T 0, 900, .inl ft))] H locs := V
                show W p l e _ s m args below meth c H locs _ _ _ (F0 m 60 ls [.int z_32, .int (ft (at_ + ki))])
                refine lv_icmp_ne (tgt := 69) hx hb dX8_keyAt_60 (by decide) (fun c_34 => ?_) (fun c_34 => ?_)
                · skip
                  refine g_ldcS hC V 8 rfl dX8_keyAt_69 ?_
                  refine lv_iload_n hx hb dX8_keyAt_71 rfl (lv_at hl 1 rfl) ?_
                  refine lv_iload_n hx hb dX8_keyAt_72 rfl (lv_at hl 0 rfl) ?_
                  refine lv_iadd hx hb dX8_keyAt_73 ?_
                  refine g_vi (y := (nI (kk + ki))) (nI_add _ _) ?_
                  refine g_callZ (wr := [(o, .inr (8, [.int w0, .ref g1, .ref g2, .ref g3, .ref g4, .int (nI tp), .int (nI at_), .int (nI be), .int (nI sz), .int w9, .int w10, .int w11, .int w12, .int w13, .int w14, .ref g15, .int w16, .ref g17, .int w18, .int w19, .ref g20, .int w21, .ref g22, .ref g23, .ref g24, .int w25, .int w26, .int w27, .ref g28, .ref g29, .int w30, .ref g31, .ref g32, .ref g33])), (g3, .inl (T 0, 900, .inl ft))]) (nA := 1) hC V hl.1 (z_charAt l D T 8 (kk + ki) (by decide) (by omega)) w_1043 w_337 w_338 w_12 w_339 (by decide +kernel) rfl ⟨(Nat.le_of_ble_eq_true rfl), (Nat.le_of_ble_eq_true rfl)⟩ (si := 8) (by first | assumption | decide) rfl rfl [] [0, 1] rfl rfl rfl rfl (by decide) (Nat.le_of_ble_eq_true rfl) dX8_keyAt_74 ⟨(Nat.le_of_ble_eq_true rfl), (Nat.le_of_ble_eq_true rfl)⟩ rfl (fun r w1 H locs hQ V => ?_)
                  obtain ⟨z_35, rfl, rfl, f_36⟩ := hQ
                  have V : gW D T A s [(o, .inr (8, [.int w0, .ref g1, .ref g2, .ref g3, .ref g4, .int (nI tp), .int (nI at_), .int (nI be), .int (nI sz), .int w9, .int w10, .int w11, .int w12, .int w13, .int w14, .ref g15, .int w16, .ref g17, .int w18, .int w19, .ref g20, .int w21, .ref g22, .ref g23, .ref g24, .int w25, .int w26, .int w27, .ref g28, .ref g29, .int w30, .ref g31, .ref g32, .ref g33])), (g3, .inl (T 0, 900, .inl ft))] H locs := V
                  show W p l e _ s m args below meth c H locs _ _ _ (F0 m 77 ls [.int z_35])
                  refine lv_bipush (v := (nI 32)) hx hb dX8_keyAt_77 (by decide +kernel) ?_
                  refine lv_icmp_ne (tgt := 97) hx hb dX8_keyAt_79 (by decide) (fun c_37 => ?_) (fun c_37 => ?_)
                  · skip
                    have L_38 : ∀ (fu : Nat) (kx : Nat), (kk ≤ kx ∧ kx ≤ 43) → 44 - kx < fu → ∀ (H : Heap) (locs : List Loc) (ls : Array Slot), gW D T A s [(o, .inr (8, [.int w0, .ref g1, .ref g2, .ref g3, .ref g4, .int (nI tp), .int (nI at_), .int (nI be), .int (nI sz), .int w9, .int w10, .int w11, .int w12, .int w13, .int w14, .ref g15, .int w16, .ref g17, .int w18, .int w19, .ref g20, .int w21, .ref g22, .ref g23, .ref g24, .int w25, .int w26, .int w27, .ref g28, .ref g29, .int w30, .ref g31, .ref g32, .ref g33])), (g3, .inl (T 0, 900, .inl ft))] H locs → lv_has ls 4 [(3, .int (nI ki)), (2, .int (nI kx)), (1, .int x4_1), (0, .ref o)] → W p l e (rmD 4 0 0) s m args below meth c H locs 0 0 (MQ below (gQ D A (q_m_keyAt T o w0 g1 g2 g3 g4 tp at_ be sz w9 w10 w11 w12 w13 w14 g15 w16 g17 w18 w19 g20 w21 g22 g23 g24 w25 w26 w27 g28 g29 w30 g31 g32 g33 ft)) args s 0 0 A) (F0 m 97 ls []) := by
                      intro fu_97
                      induction fu_97 with
                      | zero => intro kx hkx hmu; exact absurd hmu (Nat.not_lt_zero _)
                      | succ fu_97 ih_97 =>
                        intro kx hkx hmu_97 H locs ls V hl
                        refine g_ldcS hC V 8 rfl dX8_keyAt_97 ?_
                        refine lv_iload_n hx hb dX8_keyAt_99 rfl (lv_at hl 1 rfl) ?_
                        refine g_callZ (wr := [(o, .inr (8, [.int w0, .ref g1, .ref g2, .ref g3, .ref g4, .int (nI tp), .int (nI at_), .int (nI be), .int (nI sz), .int w9, .int w10, .int w11, .int w12, .int w13, .int w14, .ref g15, .int w16, .ref g17, .int w18, .int w19, .ref g20, .int w21, .ref g22, .ref g23, .ref g24, .int w25, .int w26, .int w27, .ref g28, .ref g29, .int w30, .ref g31, .ref g32, .ref g33])), (g3, .inl (T 0, 900, .inl ft))]) (nA := 1) hC V hl.1 (z_charAt l D T 8 kx (by decide) (by omega)) w_1043 w_337 w_338 w_12 w_339 (by decide +kernel) rfl ⟨(Nat.le_of_ble_eq_true rfl), (Nat.le_of_ble_eq_true rfl)⟩ (si := 8) (by first | assumption | decide) rfl rfl [] [0, 1] rfl rfl rfl rfl (by decide) (Nat.le_of_ble_eq_true rfl) dX8_keyAt_100 ⟨(Nat.le_of_ble_eq_true rfl), (Nat.le_of_ble_eq_true rfl)⟩ rfl (fun r w1 H locs hQ V => ?_)
                        obtain ⟨z_39, rfl, rfl, f_40⟩ := hQ
                        have V : gW D T A s [(o, .inr (8, [.int w0, .ref g1, .ref g2, .ref g3, .ref g4, .int (nI tp), .int (nI at_), .int (nI be), .int (nI sz), .int w9, .int w10, .int w11, .int w12, .int w13, .int w14, .ref g15, .int w16, .ref g17, .int w18, .int w19, .ref g20, .int w21, .ref g22, .ref g23, .ref g24, .int w25, .int w26, .int w27, .ref g28, .ref g29, .int w30, .ref g31, .ref g32, .ref g33])), (g3, .inl (T 0, 900, .inl ft))] H locs := V
                        show W p l e _ s m args below meth c H locs _ _ _ (F0 m 103 ls [.int z_39])
                        refine lv_bipush (v := (nI 32)) hx hb dX8_keyAt_103 (by decide +kernel) ?_
                        refine lv_icmp_eq (tgt := 114) hx hb dX8_keyAt_105 (by decide) (fun c_41 => ?_) (fun c_41 => ?_)
                        · skip
                          refine lv_iinc (v := (nI (kx + 1))) (lv' := [(2, .int (nI (kx + 1))), (3, .int (nI ki)), (1, .int x4_1), (0, .ref o)]) hx hb dX8_keyAt_114 hl (k := 1) rfl (nI_1 _) (by decide) rfl (fun ls hl => ?_)
                          refine lv_iinc (v := (x4_1 + 1)) (lv' := [(1, .int (x4_1 + 1)), (2, .int (nI (kx + 1))), (3, .int (nI ki)), (0, .ref o)]) hx hb dX8_keyAt_117 hl (k := 2) rfl rfl (by decide) rfl (fun ls hl => ?_)
                          refine lv_goto (tgt := 4) hx hb dX8_keyAt_120 (by decide) ?_
                          exact ih_4 (kx + 1) (x4_1 + 1) (by omega) (by omega) _ _ _ V (lv_sub hl [1, 0, 3] rfl)
                        · skip
                          have hn2 : kx ≠ 43 := fun e => c_41 (by rw [f_40, e]; exact h43)
                          refine lv_iinc (v := (nI (kx + 1))) (lv' := [(2, .int (nI (kx + 1))), (3, .int (nI ki)), (1, .int x4_1), (0, .ref o)]) hx hb dX8_keyAt_108 hl (k := 1) rfl (nI_1 _) (by decide) rfl (fun ls hl => ?_)
                          refine lv_goto (tgt := 97) hx hb dX8_keyAt_111 (by decide) ?_
                          exact ih_97 (kx + 1) (by omega) (by omega) _ _ _ V (lv_sub hl [1, 0, 2, 3] rfl)
                    exact L_38 _ kk (by omega) (Nat.lt_succ_self _) _ _ _ V (lv_sub hl [0, 1, 2, 3] rfl)
                  · skip
                    refine lv_aload_n hx hb dX8_keyAt_82 rfl (lv_at hl 3 rfl) ?_
                    refine g_get hC V (ci := 8) uwX8 0 rfl rfl 6 (by decide) w_918 rfl rfl dX8_keyAt_83 ?_
                    refine lv_iload_n hx hb dX8_keyAt_86 rfl (lv_at hl 0 rfl) ?_
                    refine lv_iadd hx hb dX8_keyAt_87 ?_
                    refine g_vi (y := (nI (at_ + ki))) (nI_add _ _) ?_
                    refine lv_aload_n hx hb dX8_keyAt_88 rfl (lv_at hl 3 rfl) ?_
                    refine g_get hC V (ci := 8) uwX8 0 rfl rfl 7 (by decide) w_919 rfl rfl dX8_keyAt_89 ?_
                    refine lv_icmp_ne (tgt := 97) hx hb dX8_keyAt_92 (by decide) (fun c_42 => ?_) (fun c_42 => ?_)
                    · skip
                      have c_42 := b_ne (by omega) (by omega) c_42
                      have L_43 : ∀ (fu : Nat) (kx : Nat), (kk ≤ kx ∧ kx ≤ 43) → 44 - kx < fu → ∀ (H : Heap) (locs : List Loc) (ls : Array Slot), gW D T A s [(o, .inr (8, [.int w0, .ref g1, .ref g2, .ref g3, .ref g4, .int (nI tp), .int (nI at_), .int (nI be), .int (nI sz), .int w9, .int w10, .int w11, .int w12, .int w13, .int w14, .ref g15, .int w16, .ref g17, .int w18, .int w19, .ref g20, .int w21, .ref g22, .ref g23, .ref g24, .int w25, .int w26, .int w27, .ref g28, .ref g29, .int w30, .ref g31, .ref g32, .ref g33])), (g3, .inl (T 0, 900, .inl ft))] H locs → lv_has ls 4 [(3, .int (nI ki)), (2, .int (nI kx)), (1, .int x4_1), (0, .ref o)] → W p l e (rmD 4 0 0) s m args below meth c H locs 0 0 (MQ below (gQ D A (q_m_keyAt T o w0 g1 g2 g3 g4 tp at_ be sz w9 w10 w11 w12 w13 w14 g15 w16 g17 w18 w19 g20 w21 g22 g23 g24 w25 w26 w27 g28 g29 w30 g31 g32 g33 ft)) args s 0 0 A) (F0 m 97 ls []) := by
                        intro fu_97
                        induction fu_97 with
                        | zero => intro kx hkx hmu; exact absurd hmu (Nat.not_lt_zero _)
                        | succ fu_97 ih_97 =>
                          intro kx hkx hmu_97 H locs ls V hl
                          refine g_ldcS hC V 8 rfl dX8_keyAt_97 ?_
                          refine lv_iload_n hx hb dX8_keyAt_99 rfl (lv_at hl 1 rfl) ?_
                          refine g_callZ (wr := [(o, .inr (8, [.int w0, .ref g1, .ref g2, .ref g3, .ref g4, .int (nI tp), .int (nI at_), .int (nI be), .int (nI sz), .int w9, .int w10, .int w11, .int w12, .int w13, .int w14, .ref g15, .int w16, .ref g17, .int w18, .int w19, .ref g20, .int w21, .ref g22, .ref g23, .ref g24, .int w25, .int w26, .int w27, .ref g28, .ref g29, .int w30, .ref g31, .ref g32, .ref g33])), (g3, .inl (T 0, 900, .inl ft))]) (nA := 1) hC V hl.1 (z_charAt l D T 8 kx (by decide) (by omega)) w_1043 w_337 w_338 w_12 w_339 (by decide +kernel) rfl ⟨(Nat.le_of_ble_eq_true rfl), (Nat.le_of_ble_eq_true rfl)⟩ (si := 8) (by first | assumption | decide) rfl rfl [] [0, 1] rfl rfl rfl rfl (by decide) (Nat.le_of_ble_eq_true rfl) dX8_keyAt_100 ⟨(Nat.le_of_ble_eq_true rfl), (Nat.le_of_ble_eq_true rfl)⟩ rfl (fun r w1 H locs hQ V => ?_)
                          obtain ⟨z_44, rfl, rfl, f_45⟩ := hQ
                          have V : gW D T A s [(o, .inr (8, [.int w0, .ref g1, .ref g2, .ref g3, .ref g4, .int (nI tp), .int (nI at_), .int (nI be), .int (nI sz), .int w9, .int w10, .int w11, .int w12, .int w13, .int w14, .ref g15, .int w16, .ref g17, .int w18, .int w19, .ref g20, .int w21, .ref g22, .ref g23, .ref g24, .int w25, .int w26, .int w27, .ref g28, .ref g29, .int w30, .ref g31, .ref g32, .ref g33])), (g3, .inl (T 0, 900, .inl ft))] H locs := V
                          show W p l e _ s m args below meth c H locs _ _ _ (F0 m 103 ls [.int z_44])
                          refine lv_bipush (v := (nI 32)) hx hb dX8_keyAt_103 (by decide +kernel) ?_
                          refine lv_icmp_eq (tgt := 114) hx hb dX8_keyAt_105 (by decide) (fun c_46 => ?_) (fun c_46 => ?_)
                          · skip
                            refine lv_iinc (v := (nI (kx + 1))) (lv' := [(2, .int (nI (kx + 1))), (3, .int (nI ki)), (1, .int x4_1), (0, .ref o)]) hx hb dX8_keyAt_114 hl (k := 1) rfl (nI_1 _) (by decide) rfl (fun ls hl => ?_)
                            refine lv_iinc (v := (x4_1 + 1)) (lv' := [(1, .int (x4_1 + 1)), (2, .int (nI (kx + 1))), (3, .int (nI ki)), (0, .ref o)]) hx hb dX8_keyAt_117 hl (k := 2) rfl rfl (by decide) rfl (fun ls hl => ?_)
                            refine lv_goto (tgt := 4) hx hb dX8_keyAt_120 (by decide) ?_
                            exact ih_4 (kx + 1) (x4_1 + 1) (by omega) (by omega) _ _ _ V (lv_sub hl [1, 0, 3] rfl)
                          · skip
                            have hn2 : kx ≠ 43 := fun e => c_46 (by rw [f_45, e]; exact h43)
                            refine lv_iinc (v := (nI (kx + 1))) (lv' := [(2, .int (nI (kx + 1))), (3, .int (nI ki)), (1, .int x4_1), (0, .ref o)]) hx hb dX8_keyAt_108 hl (k := 1) rfl (nI_1 _) (by decide) rfl (fun ls hl => ?_)
                            refine lv_goto (tgt := 97) hx hb dX8_keyAt_111 (by decide) ?_
                            exact ih_97 (kx + 1) (by omega) (by omega) _ _ _ V (lv_sub hl [1, 0, 2, 3] rfl)
                      exact L_43 _ kk (by omega) (Nat.lt_succ_self _) _ _ _ V (lv_sub hl [0, 1, 2, 3] rfl)
                    · skip
                      have c_42 := b_eq (by omega) (by omega) c_42
                      refine lv_iload_n hx hb dX8_keyAt_95 rfl (lv_at hl 2 rfl) ?_
                      exact g_iret (Qr := (q_m_keyAt T o w0 g1 g2 g3 g4 tp at_ be sz w9 w10 w11 w12 w13 w14 g15 w16 g17 w18 w19 g20 w21 g22 g23 g24 w25 w26 w27 g28 g29 w30 g31 g32 g33 ft)) hC V ⟨(Nat.le_of_ble_eq_true rfl), (Nat.le_of_ble_eq_true rfl)⟩ ⟨x4_1, rfl, rfl⟩ dX8_keyAt_96
                · skip
                  refine lv_iinc (v := (nI (ki + 1))) (lv' := [(3, .int (nI (ki + 1))), (2, .int (nI kk)), (1, .int x4_1), (0, .ref o)]) hx hb dX8_keyAt_63 hl (k := 0) rfl (nI_1 _) (by decide) rfl (fun ls hl => ?_)
                  refine lv_goto (tgt := 15) hx hb dX8_keyAt_66 (by decide) ?_
                  exact ih_15 (ki + 1) (by omega) (by omega) (by omega) _ _ _ V (lv_sub hl [0, 1, 2, 3] rfl)
        exact L_3 _ 0 (by omega) (by omega) (Nat.lt_succ_self _) _ _ _ V (lv_sub hl [0, 1, 2, 3] rfl)
  exact L_1 _ 1 (nI 0) (by omega) (Nat.lt_succ_self _) _ _ _ V (lv_sub hl [0, 1, 2] rfl)

def q_m_next (T : Nat → ClassId) (o : Nat) (w0 : Int32) (g1 : Nat) (g2 : Nat) (g3 : Nat) (g4 : Nat) (tp : Nat) (w6 : Int32) (be : Nat) (sz : Nat) (w9 : Int32) (w10 : Int32) (w11 : Int32) (w12 : Int32) (w13 : Int32) (w14 : Int32) (g15 : Nat) (w16 : Int32) (g17 : Nat) (w18 : Int32) (w19 : Int32) (g20 : Nat) (w21 : Int32) (g22 : Nat) (g23 : Nat) (g24 : Nat) (w25 : Int32) (w26 : Int32) (w27 : Int32) (g28 : Nat) (g29 : Nat) (w30 : Int32) (g31 : Nat) (g32 : Nat) (g33 : Nat) (ft : Nat → Int32) : Option Value → va_W → Prop := fun rr ww => (∃ (a2 : Nat) (b2 : Nat) (k2 : Int32) (n2 : Int32), rr = none ∧ ww = [(o, .inr (8, [.int w0, .ref g1, .ref g2, .ref g3, .ref g4, .int (nI tp), .int (nI a2), .int (nI b2), .int (nI sz), .int k2, .int n2, .int w11, .int w12, .int w13, .int w14, .ref g15, .int w16, .ref g17, .int w18, .int w19, .ref g20, .int w21, .ref g22, .ref g23, .ref g24, .int w25, .int w26, .int w27, .ref g28, .ref g29, .int w30, .ref g31, .ref g32, .ref g33])), (g3, .inl (T 0, 900, .inl ft))] ∧ (a2 ≤ b2 ∧ b2 ≤ sz) ∧ be ≤ b2 ∧ (k2 = nI 11 ∨ be < b2))
set_option maxHeartbeats 4000000 in
set_option maxRecDepth 100000 in
theorem m_next (l : Launch) (D : va_G) (T : Nat → ClassId) (o : Nat) (w0 : Int32) (g1 : Nat) (g2 : Nat) (g3 : Nat) (g4 : Nat) (tp : Nat) (w6 : Int32) (be : Nat) (sz : Nat) (w9 : Int32) (w10 : Int32) (w11 : Int32) (w12 : Int32) (w13 : Int32) (w14 : Int32) (g15 : Nat) (w16 : Int32) (g17 : Nat) (w18 : Int32) (w19 : Int32) (g20 : Nat) (w21 : Int32) (g22 : Nat) (g23 : Nat) (g24 : Nat) (w25 : Int32) (w26 : Int32) (w27 : Int32) (g28 : Nat) (g29 : Nat) (w30 : Int32) (g31 : Nat) (g32 : Nat) (g33 : Nat) (ft : Nat → Int32) (h_sz : sz ≤ 900) (h_b : be ≤ sz) : Ct l yX8_next cX8_next 1 none 5 0 0 D T [.ref o] [(o, .inr (8, [.int w0, .ref g1, .ref g2, .ref g3, .ref g4, .int (nI tp), .int w6, .int (nI be), .int (nI sz), .int w9, .int w10, .int w11, .int w12, .int w13, .int w14, .ref g15, .int w16, .ref g17, .int w18, .int w19, .ref g20, .int w21, .ref g22, .ref g23, .ref g24, .int w25, .int w26, .int w27, .ref g28, .ref g29, .int w30, .ref g31, .ref g32, .ref g33])), (g3, .inl (T 0, 900, .inl ft))] (q_m_next T o w0 g1 g2 g3 g4 tp w6 be sz w9 w10 w11 w12 w13 w14 g15 w16 g17 w18 w19 g20 w21 g22 g23 g24 w25 w26 w27 g28 g29 w30 g31 g32 g33 ft) := by
  refine Ct.of (cc := cX8_next) (maxL := 1) (ret := none) (by decide) (Nat.le_of_ble_eq_true rfl) ?_
  intro p e s m args below meth c A ls hC hnm V hl
  obtain ⟨hx, hb, hr, hml, hown, hts, hlocks⟩ := id hC
  generalize hH : s.heap = H at V ⊢
  clear hH
  have hl : lv_has ls 1 [(0, .ref o)] := hl
  generalize hlo : ([] : List Loc) = locs at V ⊢
  clear hlo
  refine lv_aload_n hx hb dX8_next_0 rfl (lv_at hl 0 rfl) ?_
  refine lv_aload_n hx hb dX8_next_1 rfl (lv_at hl 0 rfl) ?_
  refine g_get hC V (ci := 8) uwX8 0 rfl rfl 7 (by decide) w_919 rfl rfl dX8_next_2 ?_
  refine g_put hC V (ci := 8) uwX8 tyX8 tyX8_ok nmX8 0 rfl rfl 6 (by decide) w_918 rfl rfl rfl rfl (Nat.le_of_ble_eq_true rfl) (ws' := [(o, .inr (8, [.int w0, .ref g1, .ref g2, .ref g3, .ref g4, .int (nI tp), .int (nI be), .int (nI be), .int (nI sz), .int w9, .int w10, .int w11, .int w12, .int w13, .int w14, .ref g15, .int w16, .ref g17, .int w18, .int w19, .ref g20, .int w21, .ref g22, .ref g23, .ref g24, .int w25, .int w26, .int w27, .ref g28, .ref g29, .int w30, .ref g31, .ref g32, .ref g33])), (g3, .inl (T 0, 900, .inl ft))]) rfl dX8_next_5 (fun H locs V => ?_)
  have J_47 : ∀ (aq : Nat), (be ≤ aq ∧ aq ≤ sz) → ∀ (H : Heap) (locs : List Loc) (ls : Array Slot), gW D T A s [(o, .inr (8, [.int w0, .ref g1, .ref g2, .ref g3, .ref g4, .int (nI tp), .int (nI aq), .int (nI be), .int (nI sz), .int w9, .int w10, .int w11, .int w12, .int w13, .int w14, .ref g15, .int w16, .ref g17, .int w18, .int w19, .ref g20, .int w21, .ref g22, .ref g23, .ref g24, .int w25, .int w26, .int w27, .ref g28, .ref g29, .int w30, .ref g31, .ref g32, .ref g33])), (g3, .inl (T 0, 900, .inl ft))] H locs → lv_has ls 1 [(0, .ref o)] → W p l e (rmD 5 0 0) s m args below meth c H locs 0 0 (MQ below (gQ D A (q_m_next T o w0 g1 g2 g3 g4 tp w6 be sz w9 w10 w11 w12 w13 w14 g15 w16 g17 w18 w19 g20 w21 g22 g23 g24 w25 w26 w27 g28 g29 w30 g31 g32 g33 ft)) args s 0 0 A) (F0 m 47 ls []) := by
    intro aq haq H locs ls V hl
    refine lv_aload_n hx hb dX8_next_47 rfl (lv_at hl 0 rfl) ?_
    refine lv_aload_n hx hb dX8_next_48 rfl (lv_at hl 0 rfl) ?_
    refine g_get hC V (ci := 8) uwX8 0 rfl rfl 6 (by decide) w_918 rfl rfl dX8_next_49 ?_
    refine g_put hC V (ci := 8) uwX8 tyX8 tyX8_ok nmX8 0 rfl rfl 7 (by decide) w_919 rfl rfl rfl rfl (Nat.le_of_ble_eq_true rfl) (ws' := [(o, .inr (8, [.int w0, .ref g1, .ref g2, .ref g3, .ref g4, .int (nI tp), .int (nI aq), .int (nI aq), .int (nI sz), .int w9, .int w10, .int w11, .int w12, .int w13, .int w14, .ref g15, .int w16, .ref g17, .int w18, .int w19, .ref g20, .int w21, .ref g22, .ref g23, .ref g24, .int w25, .int w26, .int w27, .ref g28, .ref g29, .int w30, .ref g31, .ref g32, .ref g33])), (g3, .inl (T 0, 900, .inl ft))]) rfl dX8_next_52 (fun H locs V => ?_)
    refine lv_aload_n hx hb dX8_next_55 rfl (lv_at hl 0 rfl) ?_
    refine g_get hC V (ci := 8) uwX8 0 rfl rfl 6 (by decide) w_918 rfl rfl dX8_next_56 ?_
    refine lv_aload_n hx hb dX8_next_59 rfl (lv_at hl 0 rfl) ?_
    refine g_get hC V (ci := 8) uwX8 0 rfl rfl 8 (by decide) w_920 rfl rfl dX8_next_60 ?_
    refine lv_icmp_lt (tgt := 75) hx hb dX8_next_63 (by decide) (fun c_1 => ?_) (fun c_1 => ?_)
    · skip
      have c_1 := b_lt (by omega) (by omega) c_1
      refine lv_aload_n hx hb dX8_next_75 rfl (lv_at hl 0 rfl) ?_
      refine lv_aload_n hx hb dX8_next_76 rfl (lv_at hl 0 rfl) ?_
      refine g_get hC V (ci := 8) uwX8 0 rfl rfl 6 (by decide) w_918 rfl rfl dX8_next_77 ?_
      refine g_callV (wr := []) (nA := 1) hC V hl.1 (m_see l D T o aq w0 g1 g2 g3 g4 tp (nI aq) (nI aq) sz w9 w10 w11 w12 w13 w14 g15 w16 g17 w18 w19 g20 w21 g22 g23 g24 w25 w26 w27 g28 g29 w30 g31 g32 g33 ft (by first | assumption | omega) (by first | assumption | omega)) w_1030 w_1032 w_s37 w_9 w_1033 (by decide +kernel) rfl ⟨(Nat.le_of_ble_eq_true rfl), (Nat.le_of_ble_eq_true rfl)⟩ 0 (ci := 8) rfl rfl [0, 1] [] rfl rfl rfl rfl (by decide) (Nat.le_of_ble_eq_true rfl) dX8_next_80 ⟨(Nat.le_of_ble_eq_true rfl), (Nat.le_of_ble_eq_true rfl)⟩ rfl (fun r w1 H locs hQ V => ?_)
      rcases hQ with ⟨rfl, rfl, f_2⟩ | ⟨z_3, rfl, rfl, f_4, f_5⟩
      · have V : gW D T A s [(o, .inr (8, [.int w0, .ref g1, .ref g2, .ref g3, .ref g4, .int (nI tp), .int (nI aq), .int (nI aq), .int (nI sz), .int w9, .int w10, .int w11, .int w12, .int w13, .int w14, .ref g15, .int w16, .ref g17, .int w18, .int w19, .ref g20, .int w21, .ref g22, .ref g23, .ref g24, .int w25, .int w26, .int w27, .ref g28, .ref g29, .int w30, .ref g31, .ref g32, .ref g33])), (g3, .inl (T 0, 900, .inl ft))] H locs := V
        show W p l e _ s m args below meth c H locs _ _ _ (F0 m 83 ls [.int (-1)])
        refine g_callS (wr := [(o, .inr (8, [.int w0, .ref g1, .ref g2, .ref g3, .ref g4, .int (nI tp), .int (nI aq), .int (nI aq), .int (nI sz), .int w9, .int w10, .int w11, .int w12, .int w13, .int w14, .ref g15, .int w16, .ref g17, .int w18, .int w19, .ref g20, .int w21, .ref g22, .ref g23, .ref g24, .int w25, .int w26, .int w27, .ref g28, .ref g29, .int w30, .ref g31, .ref g32, .ref g33])), (g3, .inl (T 0, 900, .inl ft))]) (nA := 1) hC V hl.1 (m_isSmall l D T (-1)) w_1034 w_1035 w_9 w_1036 (by decide +kernel) rfl ⟨(Nat.le_of_ble_eq_true rfl), (Nat.le_of_ble_eq_true rfl)⟩ [] [0, 1] rfl rfl rfl rfl (by decide) (Nat.le_of_ble_eq_true rfl) dX8_next_83 ⟨(Nat.le_of_ble_eq_true rfl), (Nat.le_of_ble_eq_true rfl)⟩ rfl (fun r w1 H locs hQ V => ?_)
        rcases hQ with ⟨rfl, rfl, f_6⟩ | ⟨rfl, rfl, f_7⟩
        · have V : gW D T A s [(o, .inr (8, [.int w0, .ref g1, .ref g2, .ref g3, .ref g4, .int (nI tp), .int (nI aq), .int (nI aq), .int (nI sz), .int w9, .int w10, .int w11, .int w12, .int w13, .int w14, .ref g15, .int w16, .ref g17, .int w18, .int w19, .ref g20, .int w21, .ref g22, .ref g23, .ref g24, .int w25, .int w26, .int w27, .ref g28, .ref g29, .int w30, .ref g31, .ref g32, .ref g33])), (g3, .inl (T 0, 900, .inl ft))] H locs := V
          show W p l e _ s m args below meth c H locs _ _ _ (F0 m 86 ls [.int (nI 1)])
          exact absurd f_6 small_m1
        · have V : gW D T A s [(o, .inr (8, [.int w0, .ref g1, .ref g2, .ref g3, .ref g4, .int (nI tp), .int (nI aq), .int (nI aq), .int (nI sz), .int w9, .int w10, .int w11, .int w12, .int w13, .int w14, .ref g15, .int w16, .ref g17, .int w18, .int w19, .ref g20, .int w21, .ref g22, .ref g23, .ref g24, .int w25, .int w26, .int w27, .ref g28, .ref g29, .int w30, .ref g31, .ref g32, .ref g33])), (g3, .inl (T 0, 900, .inl ft))] H locs := V
          show W p l e _ s m args below meth c H locs _ _ _ (F0 m 86 ls [.int (nI 0)])
          refine lv_if_eq (tgt := 127) hx hb dX8_next_86 (by decide) (fun _ => ?_) (fun c => absurd (show (nI 0) = 0 by decide +kernel) c)
          refine lv_aload_n hx hb dX8_next_127 rfl (lv_at hl 0 rfl) ?_
          refine lv_aload_n hx hb dX8_next_128 rfl (lv_at hl 0 rfl) ?_
          refine g_get hC V (ci := 8) uwX8 0 rfl rfl 6 (by decide) w_918 rfl rfl dX8_next_129 ?_
          refine g_callV (wr := []) (nA := 1) hC V hl.1 (m_see l D T o aq w0 g1 g2 g3 g4 tp (nI aq) (nI aq) sz w9 w10 w11 w12 w13 w14 g15 w16 g17 w18 w19 g20 w21 g22 g23 g24 w25 w26 w27 g28 g29 w30 g31 g32 g33 ft (by first | assumption | omega) (by first | assumption | omega)) w_1030 w_1032 w_s37 w_9 w_1033 (by decide +kernel) rfl ⟨(Nat.le_of_ble_eq_true rfl), (Nat.le_of_ble_eq_true rfl)⟩ 0 (ci := 8) rfl rfl [0, 1] [] rfl rfl rfl rfl (by decide) (Nat.le_of_ble_eq_true rfl) dX8_next_132 ⟨(Nat.le_of_ble_eq_true rfl), (Nat.le_of_ble_eq_true rfl)⟩ rfl (fun r w1 H locs hQ V => ?_)
          rcases hQ with ⟨rfl, rfl, f_8⟩ | ⟨z_9, rfl, rfl, f_10, f_11⟩
          · have V : gW D T A s [(o, .inr (8, [.int w0, .ref g1, .ref g2, .ref g3, .ref g4, .int (nI tp), .int (nI aq), .int (nI aq), .int (nI sz), .int w9, .int w10, .int w11, .int w12, .int w13, .int w14, .ref g15, .int w16, .ref g17, .int w18, .int w19, .ref g20, .int w21, .ref g22, .ref g23, .ref g24, .int w25, .int w26, .int w27, .ref g28, .ref g29, .int w30, .ref g31, .ref g32, .ref g33])), (g3, .inl (T 0, 900, .inl ft))] H locs := V
            show W p l e _ s m args below meth c H locs _ _ _ (F0 m 135 ls [.int (-1)])
            refine g_callS (wr := [(o, .inr (8, [.int w0, .ref g1, .ref g2, .ref g3, .ref g4, .int (nI tp), .int (nI aq), .int (nI aq), .int (nI sz), .int w9, .int w10, .int w11, .int w12, .int w13, .int w14, .ref g15, .int w16, .ref g17, .int w18, .int w19, .ref g20, .int w21, .ref g22, .ref g23, .ref g24, .int w25, .int w26, .int w27, .ref g28, .ref g29, .int w30, .ref g31, .ref g32, .ref g33])), (g3, .inl (T 0, 900, .inl ft))]) (nA := 1) hC V hl.1 (m_isDigit l D T (-1)) w_1044 w_1045 w_9 w_1046 (by decide +kernel) rfl ⟨(Nat.le_of_ble_eq_true rfl), (Nat.le_of_ble_eq_true rfl)⟩ [] [0, 1] rfl rfl rfl rfl (by decide) (Nat.le_of_ble_eq_true rfl) dX8_next_135 ⟨(Nat.le_of_ble_eq_true rfl), (Nat.le_of_ble_eq_true rfl)⟩ rfl (fun r w1 H locs hQ V => ?_)
            rcases hQ with ⟨rfl, rfl, f_12⟩ | ⟨rfl, rfl, f_13⟩
            · have V : gW D T A s [(o, .inr (8, [.int w0, .ref g1, .ref g2, .ref g3, .ref g4, .int (nI tp), .int (nI aq), .int (nI aq), .int (nI sz), .int w9, .int w10, .int w11, .int w12, .int w13, .int w14, .ref g15, .int w16, .ref g17, .int w18, .int w19, .ref g20, .int w21, .ref g22, .ref g23, .ref g24, .int w25, .int w26, .int w27, .ref g28, .ref g29, .int w30, .ref g31, .ref g32, .ref g33])), (g3, .inl (T 0, 900, .inl ft))] H locs := V
              show W p l e _ s m args below meth c H locs _ _ _ (F0 m 138 ls [.int (nI 1)])
              exact absurd f_12 digit_m1
            · have V : gW D T A s [(o, .inr (8, [.int w0, .ref g1, .ref g2, .ref g3, .ref g4, .int (nI tp), .int (nI aq), .int (nI aq), .int (nI sz), .int w9, .int w10, .int w11, .int w12, .int w13, .int w14, .ref g15, .int w16, .ref g17, .int w18, .int w19, .ref g20, .int w21, .ref g22, .ref g23, .ref g24, .int w25, .int w26, .int w27, .ref g28, .ref g29, .int w30, .ref g31, .ref g32, .ref g33])), (g3, .inl (T 0, 900, .inl ft))] H locs := V
              show W p l e _ s m args below meth c H locs _ _ _ (F0 m 138 ls [.int (nI 0)])
              refine lv_if_eq (tgt := 236) hx hb dX8_next_138 (by decide) (fun _ => ?_) (fun c => absurd (show (nI 0) = 0 by decide +kernel) c)
              refine lv_aload_n hx hb dX8_next_236 rfl (lv_at hl 0 rfl) ?_
              refine lv_dup hx hb dX8_next_237 rfl ?_
              refine g_get hC V (ci := 8) uwX8 0 rfl rfl 7 (by decide) w_919 rfl rfl dX8_next_238 ?_
              refine lv_iconst (v := (nI 1)) hx hb dX8_next_241 (by decide +kernel) ?_
              refine lv_iadd hx hb dX8_next_242 ?_
              refine g_vi (y := (nI (aq + 1))) (nI_add _ _) ?_
              refine g_put hC V (ci := 8) uwX8 tyX8 tyX8_ok nmX8 0 rfl rfl 7 (by decide) w_919 rfl rfl rfl rfl (Nat.le_of_ble_eq_true rfl) (ws' := [(o, .inr (8, [.int w0, .ref g1, .ref g2, .ref g3, .ref g4, .int (nI tp), .int (nI aq), .int (nI (aq + 1)), .int (nI sz), .int w9, .int w10, .int w11, .int w12, .int w13, .int w14, .ref g15, .int w16, .ref g17, .int w18, .int w19, .ref g20, .int w21, .ref g22, .ref g23, .ref g24, .int w25, .int w26, .int w27, .ref g28, .ref g29, .int w30, .ref g31, .ref g32, .ref g33])), (g3, .inl (T 0, 900, .inl ft))]) rfl dX8_next_243 (fun H locs V => ?_)
              refine lv_aload_n hx hb dX8_next_246 rfl (lv_at hl 0 rfl) ?_
              refine lv_aload_n hx hb dX8_next_247 rfl (lv_at hl 0 rfl) ?_
              refine lv_aload_n hx hb dX8_next_248 rfl (lv_at hl 0 rfl) ?_
              refine g_get hC V (ci := 8) uwX8 0 rfl rfl 6 (by decide) w_918 rfl rfl dX8_next_249 ?_
              refine g_callV (wr := []) (nA := 1) hC V hl.1 (m_see l D T o aq w0 g1 g2 g3 g4 tp (nI aq) (nI (aq + 1)) sz w9 w10 w11 w12 w13 w14 g15 w16 g17 w18 w19 g20 w21 g22 g23 g24 w25 w26 w27 g28 g29 w30 g31 g32 g33 ft (by first | assumption | omega) (by first | assumption | omega)) w_1030 w_1032 w_s37 w_9 w_1033 (by decide +kernel) rfl ⟨(Nat.le_of_ble_eq_true rfl), (Nat.le_of_ble_eq_true rfl)⟩ 0 (ci := 8) rfl rfl [0, 1] [] rfl rfl rfl rfl (by decide) (Nat.le_of_ble_eq_true rfl) dX8_next_252 ⟨(Nat.le_of_ble_eq_true rfl), (Nat.le_of_ble_eq_true rfl)⟩ rfl (fun r w1 H locs hQ V => ?_)
              rcases hQ with ⟨rfl, rfl, f_14⟩ | ⟨z_15, rfl, rfl, f_16, f_17⟩
              · have V : gW D T A s [(o, .inr (8, [.int w0, .ref g1, .ref g2, .ref g3, .ref g4, .int (nI tp), .int (nI aq), .int (nI (aq + 1)), .int (nI sz), .int w9, .int w10, .int w11, .int w12, .int w13, .int w14, .ref g15, .int w16, .ref g17, .int w18, .int w19, .ref g20, .int w21, .ref g22, .ref g23, .ref g24, .int w25, .int w26, .int w27, .ref g28, .ref g29, .int w30, .ref g31, .ref g32, .ref g33])), (g3, .inl (T 0, 900, .inl ft))] H locs := V
                show W p l e _ s m args below meth c H locs _ _ _ (F0 m 255 ls [.int (-1), .ref o])
                refine lv_bipush (v := (nI 59)) hx hb dX8_next_255 (by decide +kernel) ?_
                refine lv_icmp_ne (tgt := 265) hx hb dX8_next_257 (by decide) (fun _ => ?_) (fun c => absurd (show (-1 : Int32) = (nI 59) from c) (by decide +kernel))
                refine lv_bipush (v := (nI 12)) hx hb dX8_next_265 (by decide +kernel) ?_
                refine g_put hC V (ci := 8) uwX8 tyX8 tyX8_ok nmX8 0 rfl rfl 9 (by decide) w_921 rfl rfl rfl rfl (Nat.le_of_ble_eq_true rfl) (ws' := [(o, .inr (8, [.int w0, .ref g1, .ref g2, .ref g3, .ref g4, .int (nI tp), .int (nI aq), .int (nI (aq + 1)), .int (nI sz), .int (nI 12), .int w10, .int w11, .int w12, .int w13, .int w14, .ref g15, .int w16, .ref g17, .int w18, .int w19, .ref g20, .int w21, .ref g22, .ref g23, .ref g24, .int w25, .int w26, .int w27, .ref g28, .ref g29, .int w30, .ref g31, .ref g32, .ref g33])), (g3, .inl (T 0, 900, .inl ft))]) rfl dX8_next_267 (fun H locs V => ?_)
                exact g_vret (Qr := (q_m_next T o w0 g1 g2 g3 g4 tp w6 be sz w9 w10 w11 w12 w13 w14 g15 w16 g17 w18 w19 g20 w21 g22 g23 g24 w25 w26 w27 g28 g29 w30 g31 g32 g33 ft)) hC V ⟨(Nat.le_of_ble_eq_true rfl), (Nat.le_of_ble_eq_true rfl)⟩ ⟨aq, (aq + 1), (nI 12), w10, rfl, rfl, (by first | assumption | omega | exact Or.inl rfl | exact Or.inr (by omega)), (by first | assumption | omega | exact Or.inl rfl | exact Or.inr (by omega)), (by first | assumption | omega | exact Or.inl rfl | exact Or.inr (by omega))⟩ dX8_next_270
              · have V : gW D T A s [(o, .inr (8, [.int w0, .ref g1, .ref g2, .ref g3, .ref g4, .int (nI tp), .int (nI aq), .int (nI (aq + 1)), .int (nI sz), .int w9, .int w10, .int w11, .int w12, .int w13, .int w14, .ref g15, .int w16, .ref g17, .int w18, .int w19, .ref g20, .int w21, .ref g22, .ref g23, .ref g24, .int w25, .int w26, .int w27, .ref g28, .ref g29, .int w30, .ref g31, .ref g32, .ref g33])), (g3, .inl (T 0, 900, .inl ft))] H locs := V
                show W p l e _ s m args below meth c H locs _ _ _ (F0 m 255 ls [.int z_15, .ref o])
                refine lv_bipush (v := (nI 59)) hx hb dX8_next_255 (by decide +kernel) ?_
                refine lv_icmp_ne (tgt := 265) hx hb dX8_next_257 (by decide) (fun c_18 => ?_) (fun c_18 => ?_)
                · skip
                  refine lv_bipush (v := (nI 12)) hx hb dX8_next_265 (by decide +kernel) ?_
                  refine g_put hC V (ci := 8) uwX8 tyX8 tyX8_ok nmX8 0 rfl rfl 9 (by decide) w_921 rfl rfl rfl rfl (Nat.le_of_ble_eq_true rfl) (ws' := [(o, .inr (8, [.int w0, .ref g1, .ref g2, .ref g3, .ref g4, .int (nI tp), .int (nI aq), .int (nI (aq + 1)), .int (nI sz), .int (nI 12), .int w10, .int w11, .int w12, .int w13, .int w14, .ref g15, .int w16, .ref g17, .int w18, .int w19, .ref g20, .int w21, .ref g22, .ref g23, .ref g24, .int w25, .int w26, .int w27, .ref g28, .ref g29, .int w30, .ref g31, .ref g32, .ref g33])), (g3, .inl (T 0, 900, .inl ft))]) rfl dX8_next_267 (fun H locs V => ?_)
                  exact g_vret (Qr := (q_m_next T o w0 g1 g2 g3 g4 tp w6 be sz w9 w10 w11 w12 w13 w14 g15 w16 g17 w18 w19 g20 w21 g22 g23 g24 w25 w26 w27 g28 g29 w30 g31 g32 g33 ft)) hC V ⟨(Nat.le_of_ble_eq_true rfl), (Nat.le_of_ble_eq_true rfl)⟩ ⟨aq, (aq + 1), (nI 12), w10, rfl, rfl, (by first | assumption | omega | exact Or.inl rfl | exact Or.inr (by omega)), (by first | assumption | omega | exact Or.inl rfl | exact Or.inr (by omega)), (by first | assumption | omega | exact Or.inl rfl | exact Or.inr (by omega))⟩ dX8_next_270
                · skip
                  refine lv_bipush (v := (nI 10)) hx hb dX8_next_260 (by decide +kernel) ?_
                  refine lv_goto (tgt := 267) hx hb dX8_next_262 (by decide) ?_
                  refine g_put hC V (ci := 8) uwX8 tyX8 tyX8_ok nmX8 0 rfl rfl 9 (by decide) w_921 rfl rfl rfl rfl (Nat.le_of_ble_eq_true rfl) (ws' := [(o, .inr (8, [.int w0, .ref g1, .ref g2, .ref g3, .ref g4, .int (nI tp), .int (nI aq), .int (nI (aq + 1)), .int (nI sz), .int (nI 10), .int w10, .int w11, .int w12, .int w13, .int w14, .ref g15, .int w16, .ref g17, .int w18, .int w19, .ref g20, .int w21, .ref g22, .ref g23, .ref g24, .int w25, .int w26, .int w27, .ref g28, .ref g29, .int w30, .ref g31, .ref g32, .ref g33])), (g3, .inl (T 0, 900, .inl ft))]) rfl dX8_next_267 (fun H locs V => ?_)
                  exact g_vret (Qr := (q_m_next T o w0 g1 g2 g3 g4 tp w6 be sz w9 w10 w11 w12 w13 w14 g15 w16 g17 w18 w19 g20 w21 g22 g23 g24 w25 w26 w27 g28 g29 w30 g31 g32 g33 ft)) hC V ⟨(Nat.le_of_ble_eq_true rfl), (Nat.le_of_ble_eq_true rfl)⟩ ⟨aq, (aq + 1), (nI 10), w10, rfl, rfl, (by first | assumption | omega | exact Or.inl rfl | exact Or.inr (by omega)), (by first | assumption | omega | exact Or.inl rfl | exact Or.inr (by omega)), (by first | assumption | omega | exact Or.inl rfl | exact Or.inr (by omega))⟩ dX8_next_270
          · have V : gW D T A s [(o, .inr (8, [.int w0, .ref g1, .ref g2, .ref g3, .ref g4, .int (nI tp), .int (nI aq), .int (nI aq), .int (nI sz), .int w9, .int w10, .int w11, .int w12, .int w13, .int w14, .ref g15, .int w16, .ref g17, .int w18, .int w19, .ref g20, .int w21, .ref g22, .ref g23, .ref g24, .int w25, .int w26, .int w27, .ref g28, .ref g29, .int w30, .ref g31, .ref g32, .ref g33])), (g3, .inl (T 0, 900, .inl ft))] H locs := V
            show W p l e _ s m args below meth c H locs _ _ _ (F0 m 135 ls [.int z_9])
            refine g_callS (wr := [(o, .inr (8, [.int w0, .ref g1, .ref g2, .ref g3, .ref g4, .int (nI tp), .int (nI aq), .int (nI aq), .int (nI sz), .int w9, .int w10, .int w11, .int w12, .int w13, .int w14, .ref g15, .int w16, .ref g17, .int w18, .int w19, .ref g20, .int w21, .ref g22, .ref g23, .ref g24, .int w25, .int w26, .int w27, .ref g28, .ref g29, .int w30, .ref g31, .ref g32, .ref g33])), (g3, .inl (T 0, 900, .inl ft))]) (nA := 1) hC V hl.1 (m_isDigit l D T z_9) w_1044 w_1045 w_9 w_1046 (by decide +kernel) rfl ⟨(Nat.le_of_ble_eq_true rfl), (Nat.le_of_ble_eq_true rfl)⟩ [] [0, 1] rfl rfl rfl rfl (by decide) (Nat.le_of_ble_eq_true rfl) dX8_next_135 ⟨(Nat.le_of_ble_eq_true rfl), (Nat.le_of_ble_eq_true rfl)⟩ rfl (fun r w1 H locs hQ V => ?_)
            rcases hQ with ⟨rfl, rfl, f_19⟩ | ⟨rfl, rfl, f_20⟩
            · have V : gW D T A s [(o, .inr (8, [.int w0, .ref g1, .ref g2, .ref g3, .ref g4, .int (nI tp), .int (nI aq), .int (nI aq), .int (nI sz), .int w9, .int w10, .int w11, .int w12, .int w13, .int w14, .ref g15, .int w16, .ref g17, .int w18, .int w19, .ref g20, .int w21, .ref g22, .ref g23, .ref g24, .int w25, .int w26, .int w27, .ref g28, .ref g29, .int w30, .ref g31, .ref g32, .ref g33])), (g3, .inl (T 0, 900, .inl ft))] H locs := V
              show W p l e _ s m args below meth c H locs _ _ _ (F0 m 138 ls [.int (nI 1)])
              refine lv_if_eq (tgt := 236) hx hb dX8_next_138 (by decide) (fun c => absurd (show (nI 1) = 0 from c) (by decide +kernel)) (fun _ => ?_)
              refine lv_aload_n hx hb dX8_next_141 rfl (lv_at hl 0 rfl) ?_
              refine lv_iconst (v := (nI 0)) hx hb dX8_next_142 (by decide +kernel) ?_
              refine g_put hC V (ci := 8) uwX8 tyX8 tyX8_ok nmX8 0 rfl rfl 10 (by decide) w_922 rfl rfl rfl rfl (Nat.le_of_ble_eq_true rfl) (ws' := [(o, .inr (8, [.int w0, .ref g1, .ref g2, .ref g3, .ref g4, .int (nI tp), .int (nI aq), .int (nI aq), .int (nI sz), .int w9, .int (nI 0), .int w11, .int w12, .int w13, .int w14, .ref g15, .int w16, .ref g17, .int w18, .int w19, .ref g20, .int w21, .ref g22, .ref g23, .ref g24, .int w25, .int w26, .int w27, .ref g28, .ref g29, .int w30, .ref g31, .ref g32, .ref g33])), (g3, .inl (T 0, 900, .inl ft))]) rfl dX8_next_143 (fun H locs V => ?_)
              have L_21 : ∀ (fu : Nat) (bq : Nat) (nq : Int32), (aq ≤ bq ∧ bq ≤ sz) → sz - bq < fu → ∀ (H : Heap) (locs : List Loc) (ls : Array Slot), gW D T A s [(o, .inr (8, [.int w0, .ref g1, .ref g2, .ref g3, .ref g4, .int (nI tp), .int (nI aq), .int (nI bq), .int (nI sz), .int w9, .int nq, .int w11, .int w12, .int w13, .int w14, .ref g15, .int w16, .ref g17, .int w18, .int w19, .ref g20, .int w21, .ref g22, .ref g23, .ref g24, .int w25, .int w26, .int w27, .ref g28, .ref g29, .int w30, .ref g31, .ref g32, .ref g33])), (g3, .inl (T 0, 900, .inl ft))] H locs → lv_has ls 1 [(0, .ref o)] → W p l e (rmD 5 0 0) s m args below meth c H locs 0 0 (MQ below (gQ D A (q_m_next T o w0 g1 g2 g3 g4 tp w6 be sz w9 w10 w11 w12 w13 w14 g15 w16 g17 w18 w19 g20 w21 g22 g23 g24 w25 w26 w27 g28 g29 w30 g31 g32 g33 ft)) args s 0 0 A) (F0 m 146 ls []) := by
                intro fu_146
                induction fu_146 with
                | zero => intro bq nq hbq hmu; exact absurd hmu (Nat.not_lt_zero _)
                | succ fu_146 ih_146 =>
                  intro bq nq hbq hmu_146 H locs ls V hl
                  refine lv_aload_n hx hb dX8_next_146 rfl (lv_at hl 0 rfl) ?_
                  refine lv_aload_n hx hb dX8_next_147 rfl (lv_at hl 0 rfl) ?_
                  refine g_get hC V (ci := 8) uwX8 0 rfl rfl 7 (by decide) w_919 rfl rfl dX8_next_148 ?_
                  refine g_callV (wr := []) (nA := 1) hC V hl.1 (m_see l D T o bq w0 g1 g2 g3 g4 tp (nI aq) (nI bq) sz w9 nq w11 w12 w13 w14 g15 w16 g17 w18 w19 g20 w21 g22 g23 g24 w25 w26 w27 g28 g29 w30 g31 g32 g33 ft (by first | assumption | omega) (by first | assumption | omega)) w_1030 w_1032 w_s37 w_9 w_1033 (by decide +kernel) rfl ⟨(Nat.le_of_ble_eq_true rfl), (Nat.le_of_ble_eq_true rfl)⟩ 0 (ci := 8) rfl rfl [0, 1] [] rfl rfl rfl rfl (by decide) (Nat.le_of_ble_eq_true rfl) dX8_next_151 ⟨(Nat.le_of_ble_eq_true rfl), (Nat.le_of_ble_eq_true rfl)⟩ rfl (fun r w1 H locs hQ V => ?_)
                  rcases hQ with ⟨rfl, rfl, f_22⟩ | ⟨z_23, rfl, rfl, f_24, f_25⟩
                  · have V : gW D T A s [(o, .inr (8, [.int w0, .ref g1, .ref g2, .ref g3, .ref g4, .int (nI tp), .int (nI aq), .int (nI bq), .int (nI sz), .int w9, .int nq, .int w11, .int w12, .int w13, .int w14, .ref g15, .int w16, .ref g17, .int w18, .int w19, .ref g20, .int w21, .ref g22, .ref g23, .ref g24, .int w25, .int w26, .int w27, .ref g28, .ref g29, .int w30, .ref g31, .ref g32, .ref g33])), (g3, .inl (T 0, 900, .inl ft))] H locs := V
                    show W p l e _ s m args below meth c H locs _ _ _ (F0 m 154 ls [.int (-1)])
                    refine g_callS (wr := [(o, .inr (8, [.int w0, .ref g1, .ref g2, .ref g3, .ref g4, .int (nI tp), .int (nI aq), .int (nI bq), .int (nI sz), .int w9, .int nq, .int w11, .int w12, .int w13, .int w14, .ref g15, .int w16, .ref g17, .int w18, .int w19, .ref g20, .int w21, .ref g22, .ref g23, .ref g24, .int w25, .int w26, .int w27, .ref g28, .ref g29, .int w30, .ref g31, .ref g32, .ref g33])), (g3, .inl (T 0, 900, .inl ft))]) (nA := 1) hC V hl.1 (m_isDigit l D T (-1)) w_1044 w_1045 w_9 w_1046 (by decide +kernel) rfl ⟨(Nat.le_of_ble_eq_true rfl), (Nat.le_of_ble_eq_true rfl)⟩ [] [0, 1] rfl rfl rfl rfl (by decide) (Nat.le_of_ble_eq_true rfl) dX8_next_154 ⟨(Nat.le_of_ble_eq_true rfl), (Nat.le_of_ble_eq_true rfl)⟩ rfl (fun r w1 H locs hQ V => ?_)
                    rcases hQ with ⟨rfl, rfl, f_26⟩ | ⟨rfl, rfl, f_27⟩
                    · have V : gW D T A s [(o, .inr (8, [.int w0, .ref g1, .ref g2, .ref g3, .ref g4, .int (nI tp), .int (nI aq), .int (nI bq), .int (nI sz), .int w9, .int nq, .int w11, .int w12, .int w13, .int w14, .ref g15, .int w16, .ref g17, .int w18, .int w19, .ref g20, .int w21, .ref g22, .ref g23, .ref g24, .int w25, .int w26, .int w27, .ref g28, .ref g29, .int w30, .ref g31, .ref g32, .ref g33])), (g3, .inl (T 0, 900, .inl ft))] H locs := V
                      show W p l e _ s m args below meth c H locs _ _ _ (F0 m 157 ls [.int (nI 1)])
                      exact absurd f_26 digit_m1
                    · have V : gW D T A s [(o, .inr (8, [.int w0, .ref g1, .ref g2, .ref g3, .ref g4, .int (nI tp), .int (nI aq), .int (nI bq), .int (nI sz), .int w9, .int nq, .int w11, .int w12, .int w13, .int w14, .ref g15, .int w16, .ref g17, .int w18, .int w19, .ref g20, .int w21, .ref g22, .ref g23, .ref g24, .int w25, .int w26, .int w27, .ref g28, .ref g29, .int w30, .ref g31, .ref g32, .ref g33])), (g3, .inl (T 0, 900, .inl ft))] H locs := V
                      show W p l e _ s m args below meth c H locs _ _ _ (F0 m 157 ls [.int (nI 0)])
                      have hbn : aq < bq := by omega
                      refine lv_if_eq (tgt := 209) hx hb dX8_next_157 (by decide) (fun _ => ?_) (fun c => absurd (show (nI 0) = 0 by decide +kernel) c)
                      refine lv_aload_n hx hb dX8_next_209 rfl (lv_at hl 0 rfl) ?_
                      refine lv_aload_n hx hb dX8_next_210 rfl (lv_at hl 0 rfl) ?_
                      refine g_get hC V (ci := 8) uwX8 0 rfl rfl 7 (by decide) w_919 rfl rfl dX8_next_211 ?_
                      refine lv_aload_n hx hb dX8_next_214 rfl (lv_at hl 0 rfl) ?_
                      refine g_get hC V (ci := 8) uwX8 0 rfl rfl 6 (by decide) w_918 rfl rfl dX8_next_215 ?_
                      refine lv_isub hx hb dX8_next_218 ?_
                      refine lv_iconst (v := (nI 3)) hx hb dX8_next_219 (by decide +kernel) ?_
                      refine lv_icmp_le (tgt := 228) hx hb dX8_next_220 (by decide) (fun c_28 => ?_) (fun c_28 => ?_)
                      · skip
                        refine lv_bipush (v := (nI 9)) hx hb dX8_next_228 (by decide +kernel) ?_
                        refine g_put hC V (ci := 8) uwX8 tyX8 tyX8_ok nmX8 0 rfl rfl 9 (by decide) w_921 rfl rfl rfl rfl (Nat.le_of_ble_eq_true rfl) (ws' := [(o, .inr (8, [.int w0, .ref g1, .ref g2, .ref g3, .ref g4, .int (nI tp), .int (nI aq), .int (nI bq), .int (nI sz), .int (nI 9), .int nq, .int w11, .int w12, .int w13, .int w14, .ref g15, .int w16, .ref g17, .int w18, .int w19, .ref g20, .int w21, .ref g22, .ref g23, .ref g24, .int w25, .int w26, .int w27, .ref g28, .ref g29, .int w30, .ref g31, .ref g32, .ref g33])), (g3, .inl (T 0, 900, .inl ft))]) rfl dX8_next_230 (fun H locs V => ?_)
                        refine lv_goto (tgt := 270) hx hb dX8_next_233 (by decide) ?_
                        exact g_vret (Qr := (q_m_next T o w0 g1 g2 g3 g4 tp w6 be sz w9 w10 w11 w12 w13 w14 g15 w16 g17 w18 w19 g20 w21 g22 g23 g24 w25 w26 w27 g28 g29 w30 g31 g32 g33 ft)) hC V ⟨(Nat.le_of_ble_eq_true rfl), (Nat.le_of_ble_eq_true rfl)⟩ ⟨aq, bq, (nI 9), nq, rfl, rfl, (by first | assumption | omega | exact Or.inl rfl | exact Or.inr (by omega)), (by first | assumption | omega | exact Or.inl rfl | exact Or.inr (by omega)), (by first | assumption | omega | exact Or.inl rfl | exact Or.inr (by omega))⟩ dX8_next_270
                      · skip
                        refine lv_bipush (v := (nI 12)) hx hb dX8_next_223 (by decide +kernel) ?_
                        refine lv_goto (tgt := 230) hx hb dX8_next_225 (by decide) ?_
                        refine g_put hC V (ci := 8) uwX8 tyX8 tyX8_ok nmX8 0 rfl rfl 9 (by decide) w_921 rfl rfl rfl rfl (Nat.le_of_ble_eq_true rfl) (ws' := [(o, .inr (8, [.int w0, .ref g1, .ref g2, .ref g3, .ref g4, .int (nI tp), .int (nI aq), .int (nI bq), .int (nI sz), .int (nI 12), .int nq, .int w11, .int w12, .int w13, .int w14, .ref g15, .int w16, .ref g17, .int w18, .int w19, .ref g20, .int w21, .ref g22, .ref g23, .ref g24, .int w25, .int w26, .int w27, .ref g28, .ref g29, .int w30, .ref g31, .ref g32, .ref g33])), (g3, .inl (T 0, 900, .inl ft))]) rfl dX8_next_230 (fun H locs V => ?_)
                        refine lv_goto (tgt := 270) hx hb dX8_next_233 (by decide) ?_
                        exact g_vret (Qr := (q_m_next T o w0 g1 g2 g3 g4 tp w6 be sz w9 w10 w11 w12 w13 w14 g15 w16 g17 w18 w19 g20 w21 g22 g23 g24 w25 w26 w27 g28 g29 w30 g31 g32 g33 ft)) hC V ⟨(Nat.le_of_ble_eq_true rfl), (Nat.le_of_ble_eq_true rfl)⟩ ⟨aq, bq, (nI 12), nq, rfl, rfl, (by first | assumption | omega | exact Or.inl rfl | exact Or.inr (by omega)), (by first | assumption | omega | exact Or.inl rfl | exact Or.inr (by omega)), (by first | assumption | omega | exact Or.inl rfl | exact Or.inr (by omega))⟩ dX8_next_270
                  · have V : gW D T A s [(o, .inr (8, [.int w0, .ref g1, .ref g2, .ref g3, .ref g4, .int (nI tp), .int (nI aq), .int (nI bq), .int (nI sz), .int w9, .int nq, .int w11, .int w12, .int w13, .int w14, .ref g15, .int w16, .ref g17, .int w18, .int w19, .ref g20, .int w21, .ref g22, .ref g23, .ref g24, .int w25, .int w26, .int w27, .ref g28, .ref g29, .int w30, .ref g31, .ref g32, .ref g33])), (g3, .inl (T 0, 900, .inl ft))] H locs := V
                    show W p l e _ s m args below meth c H locs _ _ _ (F0 m 154 ls [.int z_23])
                    refine g_callS (wr := [(o, .inr (8, [.int w0, .ref g1, .ref g2, .ref g3, .ref g4, .int (nI tp), .int (nI aq), .int (nI bq), .int (nI sz), .int w9, .int nq, .int w11, .int w12, .int w13, .int w14, .ref g15, .int w16, .ref g17, .int w18, .int w19, .ref g20, .int w21, .ref g22, .ref g23, .ref g24, .int w25, .int w26, .int w27, .ref g28, .ref g29, .int w30, .ref g31, .ref g32, .ref g33])), (g3, .inl (T 0, 900, .inl ft))]) (nA := 1) hC V hl.1 (m_isDigit l D T z_23) w_1044 w_1045 w_9 w_1046 (by decide +kernel) rfl ⟨(Nat.le_of_ble_eq_true rfl), (Nat.le_of_ble_eq_true rfl)⟩ [] [0, 1] rfl rfl rfl rfl (by decide) (Nat.le_of_ble_eq_true rfl) dX8_next_154 ⟨(Nat.le_of_ble_eq_true rfl), (Nat.le_of_ble_eq_true rfl)⟩ rfl (fun r w1 H locs hQ V => ?_)
                    rcases hQ with ⟨rfl, rfl, f_29⟩ | ⟨rfl, rfl, f_30⟩
                    · have V : gW D T A s [(o, .inr (8, [.int w0, .ref g1, .ref g2, .ref g3, .ref g4, .int (nI tp), .int (nI aq), .int (nI bq), .int (nI sz), .int w9, .int nq, .int w11, .int w12, .int w13, .int w14, .ref g15, .int w16, .ref g17, .int w18, .int w19, .ref g20, .int w21, .ref g22, .ref g23, .ref g24, .int w25, .int w26, .int w27, .ref g28, .ref g29, .int w30, .ref g31, .ref g32, .ref g33])), (g3, .inl (T 0, 900, .inl ft))] H locs := V
                      show W p l e _ s m args below meth c H locs _ _ _ (F0 m 157 ls [.int (nI 1)])
                      refine lv_if_eq (tgt := 209) hx hb dX8_next_157 (by decide) (fun c => absurd (show (nI 1) = 0 from c) (by decide +kernel)) (fun _ => ?_)
                      refine lv_aload_n hx hb dX8_next_160 rfl (lv_at hl 0 rfl) ?_
                      refine g_get hC V (ci := 8) uwX8 0 rfl rfl 7 (by decide) w_919 rfl rfl dX8_next_161 ?_
                      refine lv_aload_n hx hb dX8_next_164 rfl (lv_at hl 0 rfl) ?_
                      refine g_get hC V (ci := 8) uwX8 0 rfl rfl 6 (by decide) w_918 rfl rfl dX8_next_165 ?_
                      refine lv_isub hx hb dX8_next_168 ?_
                      refine lv_iconst (v := (nI 3)) hx hb dX8_next_169 (by decide +kernel) ?_
                      refine lv_icmp_ge (tgt := 196) hx hb dX8_next_170 (by decide) (fun c_31 => ?_) (fun c_31 => ?_)
                      · skip
                        refine lv_aload_n hx hb dX8_next_196 rfl (lv_at hl 0 rfl) ?_
                        refine lv_dup hx hb dX8_next_197 rfl ?_
                        refine g_get hC V (ci := 8) uwX8 0 rfl rfl 7 (by decide) w_919 rfl rfl dX8_next_198 ?_
                        refine lv_iconst (v := (nI 1)) hx hb dX8_next_201 (by decide +kernel) ?_
                        refine lv_iadd hx hb dX8_next_202 ?_
                        refine g_vi (y := (nI (bq + 1))) (nI_add _ _) ?_
                        refine g_put hC V (ci := 8) uwX8 tyX8 tyX8_ok nmX8 0 rfl rfl 7 (by decide) w_919 rfl rfl rfl rfl (Nat.le_of_ble_eq_true rfl) (ws' := [(o, .inr (8, [.int w0, .ref g1, .ref g2, .ref g3, .ref g4, .int (nI tp), .int (nI aq), .int (nI (bq + 1)), .int (nI sz), .int w9, .int nq, .int w11, .int w12, .int w13, .int w14, .ref g15, .int w16, .ref g17, .int w18, .int w19, .ref g20, .int w21, .ref g22, .ref g23, .ref g24, .int w25, .int w26, .int w27, .ref g28, .ref g29, .int w30, .ref g31, .ref g32, .ref g33])), (g3, .inl (T 0, 900, .inl ft))]) rfl dX8_next_203 (fun H locs V => ?_)
                        refine lv_goto (tgt := 146) hx hb dX8_next_206 (by decide) ?_
                        exact ih_146 (bq + 1) nq (by omega) (by omega) _ _ _ V (lv_sub hl [0] rfl)
                      · skip
                        refine lv_aload_n hx hb dX8_next_173 rfl (lv_at hl 0 rfl) ?_
                        refine lv_bipush (v := (nI 10)) hx hb dX8_next_174 (by decide +kernel) ?_
                        refine lv_aload_n hx hb dX8_next_176 rfl (lv_at hl 0 rfl) ?_
                        refine g_get hC V (ci := 8) uwX8 0 rfl rfl 10 (by decide) w_922 rfl rfl dX8_next_177 ?_
                        refine lv_imul hx hb dX8_next_180 ?_
                        refine lv_aload_n hx hb dX8_next_181 rfl (lv_at hl 0 rfl) ?_
                        refine lv_aload_n hx hb dX8_next_182 rfl (lv_at hl 0 rfl) ?_
                        refine g_get hC V (ci := 8) uwX8 0 rfl rfl 7 (by decide) w_919 rfl rfl dX8_next_183 ?_
                        refine g_callV (wr := []) (nA := 1) hC V hl.1 (m_see l D T o bq w0 g1 g2 g3 g4 tp (nI aq) (nI bq) sz w9 nq w11 w12 w13 w14 g15 w16 g17 w18 w19 g20 w21 g22 g23 g24 w25 w26 w27 g28 g29 w30 g31 g32 g33 ft (by first | assumption | omega) (by first | assumption | omega)) w_1030 w_1032 w_s37 w_9 w_1033 (by decide +kernel) rfl ⟨(Nat.le_of_ble_eq_true rfl), (Nat.le_of_ble_eq_true rfl)⟩ 0 (ci := 8) rfl rfl [0, 1] [] rfl rfl rfl rfl (by decide) (Nat.le_of_ble_eq_true rfl) dX8_next_186 ⟨(Nat.le_of_ble_eq_true rfl), (Nat.le_of_ble_eq_true rfl)⟩ rfl (fun r w1 H locs hQ V => ?_)
                        rcases hQ with ⟨rfl, rfl, f_32⟩ | ⟨z_33, rfl, rfl, f_34, f_35⟩
                        · have V : gW D T A s [(o, .inr (8, [.int w0, .ref g1, .ref g2, .ref g3, .ref g4, .int (nI tp), .int (nI aq), .int (nI bq), .int (nI sz), .int w9, .int nq, .int w11, .int w12, .int w13, .int w14, .ref g15, .int w16, .ref g17, .int w18, .int w19, .ref g20, .int w21, .ref g22, .ref g23, .ref g24, .int w25, .int w26, .int w27, .ref g28, .ref g29, .int w30, .ref g31, .ref g32, .ref g33])), (g3, .inl (T 0, 900, .inl ft))] H locs := V
                          show W p l e _ s m args below meth c H locs _ _ _ (F0 m 189 ls [.int (-1), .int ((nI 10) * nq), .ref o])
                          refine lv_iadd hx hb dX8_next_189 ?_
                          refine lv_bipush (v := (nI 48)) hx hb dX8_next_190 (by decide +kernel) ?_
                          refine lv_isub hx hb dX8_next_192 ?_
                          refine g_put hC V (ci := 8) uwX8 tyX8 tyX8_ok nmX8 0 rfl rfl 10 (by decide) w_922 rfl rfl rfl rfl (Nat.le_of_ble_eq_true rfl) (ws' := [(o, .inr (8, [.int w0, .ref g1, .ref g2, .ref g3, .ref g4, .int (nI tp), .int (nI aq), .int (nI bq), .int (nI sz), .int w9, .int ((((nI 10) * nq) + (-1)) - (nI 48)), .int w11, .int w12, .int w13, .int w14, .ref g15, .int w16, .ref g17, .int w18, .int w19, .ref g20, .int w21, .ref g22, .ref g23, .ref g24, .int w25, .int w26, .int w27, .ref g28, .ref g29, .int w30, .ref g31, .ref g32, .ref g33])), (g3, .inl (T 0, 900, .inl ft))]) rfl dX8_next_193 (fun H locs V => ?_)
                          refine lv_aload_n hx hb dX8_next_196 rfl (lv_at hl 0 rfl) ?_
                          refine lv_dup hx hb dX8_next_197 rfl ?_
                          refine g_get hC V (ci := 8) uwX8 0 rfl rfl 7 (by decide) w_919 rfl rfl dX8_next_198 ?_
                          refine lv_iconst (v := (nI 1)) hx hb dX8_next_201 (by decide +kernel) ?_
                          refine lv_iadd hx hb dX8_next_202 ?_
                          refine g_vi (y := (nI (bq + 1))) (nI_add _ _) ?_
                          refine g_put hC V (ci := 8) uwX8 tyX8 tyX8_ok nmX8 0 rfl rfl 7 (by decide) w_919 rfl rfl rfl rfl (Nat.le_of_ble_eq_true rfl) (ws' := [(o, .inr (8, [.int w0, .ref g1, .ref g2, .ref g3, .ref g4, .int (nI tp), .int (nI aq), .int (nI (bq + 1)), .int (nI sz), .int w9, .int ((((nI 10) * nq) + (-1)) - (nI 48)), .int w11, .int w12, .int w13, .int w14, .ref g15, .int w16, .ref g17, .int w18, .int w19, .ref g20, .int w21, .ref g22, .ref g23, .ref g24, .int w25, .int w26, .int w27, .ref g28, .ref g29, .int w30, .ref g31, .ref g32, .ref g33])), (g3, .inl (T 0, 900, .inl ft))]) rfl dX8_next_203 (fun H locs V => ?_)
                          refine lv_goto (tgt := 146) hx hb dX8_next_206 (by decide) ?_
                          exact ih_146 (bq + 1) ((((nI 10) * nq) + (-1)) - (nI 48)) (by omega) (by omega) _ _ _ V (lv_sub hl [0] rfl)
                        · have V : gW D T A s [(o, .inr (8, [.int w0, .ref g1, .ref g2, .ref g3, .ref g4, .int (nI tp), .int (nI aq), .int (nI bq), .int (nI sz), .int w9, .int nq, .int w11, .int w12, .int w13, .int w14, .ref g15, .int w16, .ref g17, .int w18, .int w19, .ref g20, .int w21, .ref g22, .ref g23, .ref g24, .int w25, .int w26, .int w27, .ref g28, .ref g29, .int w30, .ref g31, .ref g32, .ref g33])), (g3, .inl (T 0, 900, .inl ft))] H locs := V
                          show W p l e _ s m args below meth c H locs _ _ _ (F0 m 189 ls [.int z_33, .int ((nI 10) * nq), .ref o])
                          refine lv_iadd hx hb dX8_next_189 ?_
                          refine lv_bipush (v := (nI 48)) hx hb dX8_next_190 (by decide +kernel) ?_
                          refine lv_isub hx hb dX8_next_192 ?_
                          refine g_put hC V (ci := 8) uwX8 tyX8 tyX8_ok nmX8 0 rfl rfl 10 (by decide) w_922 rfl rfl rfl rfl (Nat.le_of_ble_eq_true rfl) (ws' := [(o, .inr (8, [.int w0, .ref g1, .ref g2, .ref g3, .ref g4, .int (nI tp), .int (nI aq), .int (nI bq), .int (nI sz), .int w9, .int ((((nI 10) * nq) + z_33) - (nI 48)), .int w11, .int w12, .int w13, .int w14, .ref g15, .int w16, .ref g17, .int w18, .int w19, .ref g20, .int w21, .ref g22, .ref g23, .ref g24, .int w25, .int w26, .int w27, .ref g28, .ref g29, .int w30, .ref g31, .ref g32, .ref g33])), (g3, .inl (T 0, 900, .inl ft))]) rfl dX8_next_193 (fun H locs V => ?_)
                          refine lv_aload_n hx hb dX8_next_196 rfl (lv_at hl 0 rfl) ?_
                          refine lv_dup hx hb dX8_next_197 rfl ?_
                          refine g_get hC V (ci := 8) uwX8 0 rfl rfl 7 (by decide) w_919 rfl rfl dX8_next_198 ?_
                          refine lv_iconst (v := (nI 1)) hx hb dX8_next_201 (by decide +kernel) ?_
                          refine lv_iadd hx hb dX8_next_202 ?_
                          refine g_vi (y := (nI (bq + 1))) (nI_add _ _) ?_
                          refine g_put hC V (ci := 8) uwX8 tyX8 tyX8_ok nmX8 0 rfl rfl 7 (by decide) w_919 rfl rfl rfl rfl (Nat.le_of_ble_eq_true rfl) (ws' := [(o, .inr (8, [.int w0, .ref g1, .ref g2, .ref g3, .ref g4, .int (nI tp), .int (nI aq), .int (nI (bq + 1)), .int (nI sz), .int w9, .int ((((nI 10) * nq) + z_33) - (nI 48)), .int w11, .int w12, .int w13, .int w14, .ref g15, .int w16, .ref g17, .int w18, .int w19, .ref g20, .int w21, .ref g22, .ref g23, .ref g24, .int w25, .int w26, .int w27, .ref g28, .ref g29, .int w30, .ref g31, .ref g32, .ref g33])), (g3, .inl (T 0, 900, .inl ft))]) rfl dX8_next_203 (fun H locs V => ?_)
                          refine lv_goto (tgt := 146) hx hb dX8_next_206 (by decide) ?_
                          exact ih_146 (bq + 1) ((((nI 10) * nq) + z_33) - (nI 48)) (by omega) (by omega) _ _ _ V (lv_sub hl [0] rfl)
                    · have V : gW D T A s [(o, .inr (8, [.int w0, .ref g1, .ref g2, .ref g3, .ref g4, .int (nI tp), .int (nI aq), .int (nI bq), .int (nI sz), .int w9, .int nq, .int w11, .int w12, .int w13, .int w14, .ref g15, .int w16, .ref g17, .int w18, .int w19, .ref g20, .int w21, .ref g22, .ref g23, .ref g24, .int w25, .int w26, .int w27, .ref g28, .ref g29, .int w30, .ref g31, .ref g32, .ref g33])), (g3, .inl (T 0, 900, .inl ft))] H locs := V
                      show W p l e _ s m args below meth c H locs _ _ _ (F0 m 157 ls [.int (nI 0)])
                      have hbn : aq < bq := gone f_11 f_19 f_25 f_30 hbq.1
                      refine lv_if_eq (tgt := 209) hx hb dX8_next_157 (by decide) (fun _ => ?_) (fun c => absurd (show (nI 0) = 0 by decide +kernel) c)
                      refine lv_aload_n hx hb dX8_next_209 rfl (lv_at hl 0 rfl) ?_
                      refine lv_aload_n hx hb dX8_next_210 rfl (lv_at hl 0 rfl) ?_
                      refine g_get hC V (ci := 8) uwX8 0 rfl rfl 7 (by decide) w_919 rfl rfl dX8_next_211 ?_
                      refine lv_aload_n hx hb dX8_next_214 rfl (lv_at hl 0 rfl) ?_
                      refine g_get hC V (ci := 8) uwX8 0 rfl rfl 6 (by decide) w_918 rfl rfl dX8_next_215 ?_
                      refine lv_isub hx hb dX8_next_218 ?_
                      refine lv_iconst (v := (nI 3)) hx hb dX8_next_219 (by decide +kernel) ?_
                      refine lv_icmp_le (tgt := 228) hx hb dX8_next_220 (by decide) (fun c_36 => ?_) (fun c_36 => ?_)
                      · skip
                        refine lv_bipush (v := (nI 9)) hx hb dX8_next_228 (by decide +kernel) ?_
                        refine g_put hC V (ci := 8) uwX8 tyX8 tyX8_ok nmX8 0 rfl rfl 9 (by decide) w_921 rfl rfl rfl rfl (Nat.le_of_ble_eq_true rfl) (ws' := [(o, .inr (8, [.int w0, .ref g1, .ref g2, .ref g3, .ref g4, .int (nI tp), .int (nI aq), .int (nI bq), .int (nI sz), .int (nI 9), .int nq, .int w11, .int w12, .int w13, .int w14, .ref g15, .int w16, .ref g17, .int w18, .int w19, .ref g20, .int w21, .ref g22, .ref g23, .ref g24, .int w25, .int w26, .int w27, .ref g28, .ref g29, .int w30, .ref g31, .ref g32, .ref g33])), (g3, .inl (T 0, 900, .inl ft))]) rfl dX8_next_230 (fun H locs V => ?_)
                        refine lv_goto (tgt := 270) hx hb dX8_next_233 (by decide) ?_
                        exact g_vret (Qr := (q_m_next T o w0 g1 g2 g3 g4 tp w6 be sz w9 w10 w11 w12 w13 w14 g15 w16 g17 w18 w19 g20 w21 g22 g23 g24 w25 w26 w27 g28 g29 w30 g31 g32 g33 ft)) hC V ⟨(Nat.le_of_ble_eq_true rfl), (Nat.le_of_ble_eq_true rfl)⟩ ⟨aq, bq, (nI 9), nq, rfl, rfl, (by first | assumption | omega | exact Or.inl rfl | exact Or.inr (by omega)), (by first | assumption | omega | exact Or.inl rfl | exact Or.inr (by omega)), (by first | assumption | omega | exact Or.inl rfl | exact Or.inr (by omega))⟩ dX8_next_270
                      · skip
                        refine lv_bipush (v := (nI 12)) hx hb dX8_next_223 (by decide +kernel) ?_
                        refine lv_goto (tgt := 230) hx hb dX8_next_225 (by decide) ?_
                        refine g_put hC V (ci := 8) uwX8 tyX8 tyX8_ok nmX8 0 rfl rfl 9 (by decide) w_921 rfl rfl rfl rfl (Nat.le_of_ble_eq_true rfl) (ws' := [(o, .inr (8, [.int w0, .ref g1, .ref g2, .ref g3, .ref g4, .int (nI tp), .int (nI aq), .int (nI bq), .int (nI sz), .int (nI 12), .int nq, .int w11, .int w12, .int w13, .int w14, .ref g15, .int w16, .ref g17, .int w18, .int w19, .ref g20, .int w21, .ref g22, .ref g23, .ref g24, .int w25, .int w26, .int w27, .ref g28, .ref g29, .int w30, .ref g31, .ref g32, .ref g33])), (g3, .inl (T 0, 900, .inl ft))]) rfl dX8_next_230 (fun H locs V => ?_)
                        refine lv_goto (tgt := 270) hx hb dX8_next_233 (by decide) ?_
                        exact g_vret (Qr := (q_m_next T o w0 g1 g2 g3 g4 tp w6 be sz w9 w10 w11 w12 w13 w14 g15 w16 g17 w18 w19 g20 w21 g22 g23 g24 w25 w26 w27 g28 g29 w30 g31 g32 g33 ft)) hC V ⟨(Nat.le_of_ble_eq_true rfl), (Nat.le_of_ble_eq_true rfl)⟩ ⟨aq, bq, (nI 12), nq, rfl, rfl, (by first | assumption | omega | exact Or.inl rfl | exact Or.inr (by omega)), (by first | assumption | omega | exact Or.inl rfl | exact Or.inr (by omega)), (by first | assumption | omega | exact Or.inl rfl | exact Or.inr (by omega))⟩ dX8_next_270
              exact L_21 _ aq (nI 0) (by omega) (Nat.lt_succ_self _) _ _ _ V (lv_sub hl [0] rfl)
            · have V : gW D T A s [(o, .inr (8, [.int w0, .ref g1, .ref g2, .ref g3, .ref g4, .int (nI tp), .int (nI aq), .int (nI aq), .int (nI sz), .int w9, .int w10, .int w11, .int w12, .int w13, .int w14, .ref g15, .int w16, .ref g17, .int w18, .int w19, .ref g20, .int w21, .ref g22, .ref g23, .ref g24, .int w25, .int w26, .int w27, .ref g28, .ref g29, .int w30, .ref g31, .ref g32, .ref g33])), (g3, .inl (T 0, 900, .inl ft))] H locs := V
              show W p l e _ s m args below meth c H locs _ _ _ (F0 m 138 ls [.int (nI 0)])
              refine lv_if_eq (tgt := 236) hx hb dX8_next_138 (by decide) (fun _ => ?_) (fun c => absurd (show (nI 0) = 0 by decide +kernel) c)
              refine lv_aload_n hx hb dX8_next_236 rfl (lv_at hl 0 rfl) ?_
              refine lv_dup hx hb dX8_next_237 rfl ?_
              refine g_get hC V (ci := 8) uwX8 0 rfl rfl 7 (by decide) w_919 rfl rfl dX8_next_238 ?_
              refine lv_iconst (v := (nI 1)) hx hb dX8_next_241 (by decide +kernel) ?_
              refine lv_iadd hx hb dX8_next_242 ?_
              refine g_vi (y := (nI (aq + 1))) (nI_add _ _) ?_
              refine g_put hC V (ci := 8) uwX8 tyX8 tyX8_ok nmX8 0 rfl rfl 7 (by decide) w_919 rfl rfl rfl rfl (Nat.le_of_ble_eq_true rfl) (ws' := [(o, .inr (8, [.int w0, .ref g1, .ref g2, .ref g3, .ref g4, .int (nI tp), .int (nI aq), .int (nI (aq + 1)), .int (nI sz), .int w9, .int w10, .int w11, .int w12, .int w13, .int w14, .ref g15, .int w16, .ref g17, .int w18, .int w19, .ref g20, .int w21, .ref g22, .ref g23, .ref g24, .int w25, .int w26, .int w27, .ref g28, .ref g29, .int w30, .ref g31, .ref g32, .ref g33])), (g3, .inl (T 0, 900, .inl ft))]) rfl dX8_next_243 (fun H locs V => ?_)
              refine lv_aload_n hx hb dX8_next_246 rfl (lv_at hl 0 rfl) ?_
              refine lv_aload_n hx hb dX8_next_247 rfl (lv_at hl 0 rfl) ?_
              refine lv_aload_n hx hb dX8_next_248 rfl (lv_at hl 0 rfl) ?_
              refine g_get hC V (ci := 8) uwX8 0 rfl rfl 6 (by decide) w_918 rfl rfl dX8_next_249 ?_
              refine g_callV (wr := []) (nA := 1) hC V hl.1 (m_see l D T o aq w0 g1 g2 g3 g4 tp (nI aq) (nI (aq + 1)) sz w9 w10 w11 w12 w13 w14 g15 w16 g17 w18 w19 g20 w21 g22 g23 g24 w25 w26 w27 g28 g29 w30 g31 g32 g33 ft (by first | assumption | omega) (by first | assumption | omega)) w_1030 w_1032 w_s37 w_9 w_1033 (by decide +kernel) rfl ⟨(Nat.le_of_ble_eq_true rfl), (Nat.le_of_ble_eq_true rfl)⟩ 0 (ci := 8) rfl rfl [0, 1] [] rfl rfl rfl rfl (by decide) (Nat.le_of_ble_eq_true rfl) dX8_next_252 ⟨(Nat.le_of_ble_eq_true rfl), (Nat.le_of_ble_eq_true rfl)⟩ rfl (fun r w1 H locs hQ V => ?_)
              rcases hQ with ⟨rfl, rfl, f_37⟩ | ⟨z_38, rfl, rfl, f_39, f_40⟩
              · have V : gW D T A s [(o, .inr (8, [.int w0, .ref g1, .ref g2, .ref g3, .ref g4, .int (nI tp), .int (nI aq), .int (nI (aq + 1)), .int (nI sz), .int w9, .int w10, .int w11, .int w12, .int w13, .int w14, .ref g15, .int w16, .ref g17, .int w18, .int w19, .ref g20, .int w21, .ref g22, .ref g23, .ref g24, .int w25, .int w26, .int w27, .ref g28, .ref g29, .int w30, .ref g31, .ref g32, .ref g33])), (g3, .inl (T 0, 900, .inl ft))] H locs := V
                show W p l e _ s m args below meth c H locs _ _ _ (F0 m 255 ls [.int (-1), .ref o])
                refine lv_bipush (v := (nI 59)) hx hb dX8_next_255 (by decide +kernel) ?_
                refine lv_icmp_ne (tgt := 265) hx hb dX8_next_257 (by decide) (fun _ => ?_) (fun c => absurd (show (-1 : Int32) = (nI 59) from c) (by decide +kernel))
                refine lv_bipush (v := (nI 12)) hx hb dX8_next_265 (by decide +kernel) ?_
                refine g_put hC V (ci := 8) uwX8 tyX8 tyX8_ok nmX8 0 rfl rfl 9 (by decide) w_921 rfl rfl rfl rfl (Nat.le_of_ble_eq_true rfl) (ws' := [(o, .inr (8, [.int w0, .ref g1, .ref g2, .ref g3, .ref g4, .int (nI tp), .int (nI aq), .int (nI (aq + 1)), .int (nI sz), .int (nI 12), .int w10, .int w11, .int w12, .int w13, .int w14, .ref g15, .int w16, .ref g17, .int w18, .int w19, .ref g20, .int w21, .ref g22, .ref g23, .ref g24, .int w25, .int w26, .int w27, .ref g28, .ref g29, .int w30, .ref g31, .ref g32, .ref g33])), (g3, .inl (T 0, 900, .inl ft))]) rfl dX8_next_267 (fun H locs V => ?_)
                exact g_vret (Qr := (q_m_next T o w0 g1 g2 g3 g4 tp w6 be sz w9 w10 w11 w12 w13 w14 g15 w16 g17 w18 w19 g20 w21 g22 g23 g24 w25 w26 w27 g28 g29 w30 g31 g32 g33 ft)) hC V ⟨(Nat.le_of_ble_eq_true rfl), (Nat.le_of_ble_eq_true rfl)⟩ ⟨aq, (aq + 1), (nI 12), w10, rfl, rfl, (by first | assumption | omega | exact Or.inl rfl | exact Or.inr (by omega)), (by first | assumption | omega | exact Or.inl rfl | exact Or.inr (by omega)), (by first | assumption | omega | exact Or.inl rfl | exact Or.inr (by omega))⟩ dX8_next_270
              · have V : gW D T A s [(o, .inr (8, [.int w0, .ref g1, .ref g2, .ref g3, .ref g4, .int (nI tp), .int (nI aq), .int (nI (aq + 1)), .int (nI sz), .int w9, .int w10, .int w11, .int w12, .int w13, .int w14, .ref g15, .int w16, .ref g17, .int w18, .int w19, .ref g20, .int w21, .ref g22, .ref g23, .ref g24, .int w25, .int w26, .int w27, .ref g28, .ref g29, .int w30, .ref g31, .ref g32, .ref g33])), (g3, .inl (T 0, 900, .inl ft))] H locs := V
                show W p l e _ s m args below meth c H locs _ _ _ (F0 m 255 ls [.int z_38, .ref o])
                refine lv_bipush (v := (nI 59)) hx hb dX8_next_255 (by decide +kernel) ?_
                refine lv_icmp_ne (tgt := 265) hx hb dX8_next_257 (by decide) (fun c_41 => ?_) (fun c_41 => ?_)
                · skip
                  refine lv_bipush (v := (nI 12)) hx hb dX8_next_265 (by decide +kernel) ?_
                  refine g_put hC V (ci := 8) uwX8 tyX8 tyX8_ok nmX8 0 rfl rfl 9 (by decide) w_921 rfl rfl rfl rfl (Nat.le_of_ble_eq_true rfl) (ws' := [(o, .inr (8, [.int w0, .ref g1, .ref g2, .ref g3, .ref g4, .int (nI tp), .int (nI aq), .int (nI (aq + 1)), .int (nI sz), .int (nI 12), .int w10, .int w11, .int w12, .int w13, .int w14, .ref g15, .int w16, .ref g17, .int w18, .int w19, .ref g20, .int w21, .ref g22, .ref g23, .ref g24, .int w25, .int w26, .int w27, .ref g28, .ref g29, .int w30, .ref g31, .ref g32, .ref g33])), (g3, .inl (T 0, 900, .inl ft))]) rfl dX8_next_267 (fun H locs V => ?_)
                  exact g_vret (Qr := (q_m_next T o w0 g1 g2 g3 g4 tp w6 be sz w9 w10 w11 w12 w13 w14 g15 w16 g17 w18 w19 g20 w21 g22 g23 g24 w25 w26 w27 g28 g29 w30 g31 g32 g33 ft)) hC V ⟨(Nat.le_of_ble_eq_true rfl), (Nat.le_of_ble_eq_true rfl)⟩ ⟨aq, (aq + 1), (nI 12), w10, rfl, rfl, (by first | assumption | omega | exact Or.inl rfl | exact Or.inr (by omega)), (by first | assumption | omega | exact Or.inl rfl | exact Or.inr (by omega)), (by first | assumption | omega | exact Or.inl rfl | exact Or.inr (by omega))⟩ dX8_next_270
                · skip
                  refine lv_bipush (v := (nI 10)) hx hb dX8_next_260 (by decide +kernel) ?_
                  refine lv_goto (tgt := 267) hx hb dX8_next_262 (by decide) ?_
                  refine g_put hC V (ci := 8) uwX8 tyX8 tyX8_ok nmX8 0 rfl rfl 9 (by decide) w_921 rfl rfl rfl rfl (Nat.le_of_ble_eq_true rfl) (ws' := [(o, .inr (8, [.int w0, .ref g1, .ref g2, .ref g3, .ref g4, .int (nI tp), .int (nI aq), .int (nI (aq + 1)), .int (nI sz), .int (nI 10), .int w10, .int w11, .int w12, .int w13, .int w14, .ref g15, .int w16, .ref g17, .int w18, .int w19, .ref g20, .int w21, .ref g22, .ref g23, .ref g24, .int w25, .int w26, .int w27, .ref g28, .ref g29, .int w30, .ref g31, .ref g32, .ref g33])), (g3, .inl (T 0, 900, .inl ft))]) rfl dX8_next_267 (fun H locs V => ?_)
                  exact g_vret (Qr := (q_m_next T o w0 g1 g2 g3 g4 tp w6 be sz w9 w10 w11 w12 w13 w14 g15 w16 g17 w18 w19 g20 w21 g22 g23 g24 w25 w26 w27 g28 g29 w30 g31 g32 g33 ft)) hC V ⟨(Nat.le_of_ble_eq_true rfl), (Nat.le_of_ble_eq_true rfl)⟩ ⟨aq, (aq + 1), (nI 10), w10, rfl, rfl, (by first | assumption | omega | exact Or.inl rfl | exact Or.inr (by omega)), (by first | assumption | omega | exact Or.inl rfl | exact Or.inr (by omega)), (by first | assumption | omega | exact Or.inl rfl | exact Or.inr (by omega))⟩ dX8_next_270
      · have V : gW D T A s [(o, .inr (8, [.int w0, .ref g1, .ref g2, .ref g3, .ref g4, .int (nI tp), .int (nI aq), .int (nI aq), .int (nI sz), .int w9, .int w10, .int w11, .int w12, .int w13, .int w14, .ref g15, .int w16, .ref g17, .int w18, .int w19, .ref g20, .int w21, .ref g22, .ref g23, .ref g24, .int w25, .int w26, .int w27, .ref g28, .ref g29, .int w30, .ref g31, .ref g32, .ref g33])), (g3, .inl (T 0, 900, .inl ft))] H locs := V
        show W p l e _ s m args below meth c H locs _ _ _ (F0 m 83 ls [.int z_3])
        refine g_callS (wr := [(o, .inr (8, [.int w0, .ref g1, .ref g2, .ref g3, .ref g4, .int (nI tp), .int (nI aq), .int (nI aq), .int (nI sz), .int w9, .int w10, .int w11, .int w12, .int w13, .int w14, .ref g15, .int w16, .ref g17, .int w18, .int w19, .ref g20, .int w21, .ref g22, .ref g23, .ref g24, .int w25, .int w26, .int w27, .ref g28, .ref g29, .int w30, .ref g31, .ref g32, .ref g33])), (g3, .inl (T 0, 900, .inl ft))]) (nA := 1) hC V hl.1 (m_isSmall l D T z_3) w_1034 w_1035 w_9 w_1036 (by decide +kernel) rfl ⟨(Nat.le_of_ble_eq_true rfl), (Nat.le_of_ble_eq_true rfl)⟩ [] [0, 1] rfl rfl rfl rfl (by decide) (Nat.le_of_ble_eq_true rfl) dX8_next_83 ⟨(Nat.le_of_ble_eq_true rfl), (Nat.le_of_ble_eq_true rfl)⟩ rfl (fun r w1 H locs hQ V => ?_)
        rcases hQ with ⟨rfl, rfl, f_42⟩ | ⟨rfl, rfl, f_43⟩
        · have V : gW D T A s [(o, .inr (8, [.int w0, .ref g1, .ref g2, .ref g3, .ref g4, .int (nI tp), .int (nI aq), .int (nI aq), .int (nI sz), .int w9, .int w10, .int w11, .int w12, .int w13, .int w14, .ref g15, .int w16, .ref g17, .int w18, .int w19, .ref g20, .int w21, .ref g22, .ref g23, .ref g24, .int w25, .int w26, .int w27, .ref g28, .ref g29, .int w30, .ref g31, .ref g32, .ref g33])), (g3, .inl (T 0, 900, .inl ft))] H locs := V
          show W p l e _ s m args below meth c H locs _ _ _ (F0 m 86 ls [.int (nI 1)])
          refine lv_if_eq (tgt := 127) hx hb dX8_next_86 (by decide) (fun c => absurd (show (nI 1) = 0 from c) (by decide +kernel)) (fun _ => ?_)
          have L_44 : ∀ (fu : Nat) (bq : Nat), (aq ≤ bq ∧ bq ≤ sz) → sz - bq < fu → ∀ (H : Heap) (locs : List Loc) (ls : Array Slot), gW D T A s [(o, .inr (8, [.int w0, .ref g1, .ref g2, .ref g3, .ref g4, .int (nI tp), .int (nI aq), .int (nI bq), .int (nI sz), .int w9, .int w10, .int w11, .int w12, .int w13, .int w14, .ref g15, .int w16, .ref g17, .int w18, .int w19, .ref g20, .int w21, .ref g22, .ref g23, .ref g24, .int w25, .int w26, .int w27, .ref g28, .ref g29, .int w30, .ref g31, .ref g32, .ref g33])), (g3, .inl (T 0, 900, .inl ft))] H locs → lv_has ls 1 [(0, .ref o)] → W p l e (rmD 5 0 0) s m args below meth c H locs 0 0 (MQ below (gQ D A (q_m_next T o w0 g1 g2 g3 g4 tp w6 be sz w9 w10 w11 w12 w13 w14 g15 w16 g17 w18 w19 g20 w21 g22 g23 g24 w25 w26 w27 g28 g29 w30 g31 g32 g33 ft)) args s 0 0 A) (F0 m 89 ls []) := by
            intro fu_89
            induction fu_89 with
            | zero => intro bq hbq hmu; exact absurd hmu (Nat.not_lt_zero _)
            | succ fu_89 ih_89 =>
              intro bq hbq hmu_89 H locs ls V hl
              refine lv_aload_n hx hb dX8_next_89 rfl (lv_at hl 0 rfl) ?_
              refine lv_aload_n hx hb dX8_next_90 rfl (lv_at hl 0 rfl) ?_
              refine g_get hC V (ci := 8) uwX8 0 rfl rfl 7 (by decide) w_919 rfl rfl dX8_next_91 ?_
              refine g_callV (wr := []) (nA := 1) hC V hl.1 (m_see l D T o bq w0 g1 g2 g3 g4 tp (nI aq) (nI bq) sz w9 w10 w11 w12 w13 w14 g15 w16 g17 w18 w19 g20 w21 g22 g23 g24 w25 w26 w27 g28 g29 w30 g31 g32 g33 ft (by first | assumption | omega) (by first | assumption | omega)) w_1030 w_1032 w_s37 w_9 w_1033 (by decide +kernel) rfl ⟨(Nat.le_of_ble_eq_true rfl), (Nat.le_of_ble_eq_true rfl)⟩ 0 (ci := 8) rfl rfl [0, 1] [] rfl rfl rfl rfl (by decide) (Nat.le_of_ble_eq_true rfl) dX8_next_94 ⟨(Nat.le_of_ble_eq_true rfl), (Nat.le_of_ble_eq_true rfl)⟩ rfl (fun r w1 H locs hQ V => ?_)
              rcases hQ with ⟨rfl, rfl, f_45⟩ | ⟨z_46, rfl, rfl, f_47, f_48⟩
              · have V : gW D T A s [(o, .inr (8, [.int w0, .ref g1, .ref g2, .ref g3, .ref g4, .int (nI tp), .int (nI aq), .int (nI bq), .int (nI sz), .int w9, .int w10, .int w11, .int w12, .int w13, .int w14, .ref g15, .int w16, .ref g17, .int w18, .int w19, .ref g20, .int w21, .ref g22, .ref g23, .ref g24, .int w25, .int w26, .int w27, .ref g28, .ref g29, .int w30, .ref g31, .ref g32, .ref g33])), (g3, .inl (T 0, 900, .inl ft))] H locs := V
                show W p l e _ s m args below meth c H locs _ _ _ (F0 m 97 ls [.int (-1)])
                refine g_callS (wr := [(o, .inr (8, [.int w0, .ref g1, .ref g2, .ref g3, .ref g4, .int (nI tp), .int (nI aq), .int (nI bq), .int (nI sz), .int w9, .int w10, .int w11, .int w12, .int w13, .int w14, .ref g15, .int w16, .ref g17, .int w18, .int w19, .ref g20, .int w21, .ref g22, .ref g23, .ref g24, .int w25, .int w26, .int w27, .ref g28, .ref g29, .int w30, .ref g31, .ref g32, .ref g33])), (g3, .inl (T 0, 900, .inl ft))]) (nA := 1) hC V hl.1 (m_isSmall l D T (-1)) w_1034 w_1035 w_9 w_1036 (by decide +kernel) rfl ⟨(Nat.le_of_ble_eq_true rfl), (Nat.le_of_ble_eq_true rfl)⟩ [] [0, 1] rfl rfl rfl rfl (by decide) (Nat.le_of_ble_eq_true rfl) dX8_next_97 ⟨(Nat.le_of_ble_eq_true rfl), (Nat.le_of_ble_eq_true rfl)⟩ rfl (fun r w1 H locs hQ V => ?_)
                rcases hQ with ⟨rfl, rfl, f_49⟩ | ⟨rfl, rfl, f_50⟩
                · have V : gW D T A s [(o, .inr (8, [.int w0, .ref g1, .ref g2, .ref g3, .ref g4, .int (nI tp), .int (nI aq), .int (nI bq), .int (nI sz), .int w9, .int w10, .int w11, .int w12, .int w13, .int w14, .ref g15, .int w16, .ref g17, .int w18, .int w19, .ref g20, .int w21, .ref g22, .ref g23, .ref g24, .int w25, .int w26, .int w27, .ref g28, .ref g29, .int w30, .ref g31, .ref g32, .ref g33])), (g3, .inl (T 0, 900, .inl ft))] H locs := V
                  show W p l e _ s m args below meth c H locs _ _ _ (F0 m 100 ls [.int (nI 1)])
                  exact absurd f_49 small_m1
                · have V : gW D T A s [(o, .inr (8, [.int w0, .ref g1, .ref g2, .ref g3, .ref g4, .int (nI tp), .int (nI aq), .int (nI bq), .int (nI sz), .int w9, .int w10, .int w11, .int w12, .int w13, .int w14, .ref g15, .int w16, .ref g17, .int w18, .int w19, .ref g20, .int w21, .ref g22, .ref g23, .ref g24, .int w25, .int w26, .int w27, .ref g28, .ref g29, .int w30, .ref g31, .ref g32, .ref g33])), (g3, .inl (T 0, 900, .inl ft))] H locs := V
                  show W p l e _ s m args below meth c H locs _ _ _ (F0 m 100 ls [.int (nI 0)])
                  have hbn : aq < bq := by omega
                  refine lv_if_eq (tgt := 116) hx hb dX8_next_100 (by decide) (fun _ => ?_) (fun c => absurd (show (nI 0) = 0 by decide +kernel) c)
                  refine lv_aload_n hx hb dX8_next_116 rfl (lv_at hl 0 rfl) ?_
                  refine lv_aload_n hx hb dX8_next_117 rfl (lv_at hl 0 rfl) ?_
                  refine g_callV (wr := []) (nA := 0) hC V hl.1 (m_keyAt l D T o w0 g1 g2 g3 g4 tp aq bq sz w9 w10 w11 w12 w13 w14 g15 w16 g17 w18 w19 g20 w21 g22 g23 g24 w25 w26 w27 g28 g29 w30 g31 g32 g33 ft (by first | assumption | omega) (by first | assumption | omega)) w_1037 w_1039 w_s38 w_9 w_1040 (by decide +kernel) rfl ⟨(Nat.le_of_ble_eq_true rfl), (Nat.le_of_ble_eq_true rfl)⟩ 0 (ci := 8) rfl rfl [0, 1] [] rfl rfl rfl rfl (by decide) (Nat.le_of_ble_eq_true rfl) dX8_next_118 ⟨(Nat.le_of_ble_eq_true rfl), (Nat.le_of_ble_eq_true rfl)⟩ rfl (fun r w1 H locs hQ V => ?_)
                  obtain ⟨z_51, rfl, rfl⟩ := hQ
                  have V : gW D T A s [(o, .inr (8, [.int w0, .ref g1, .ref g2, .ref g3, .ref g4, .int (nI tp), .int (nI aq), .int (nI bq), .int (nI sz), .int w9, .int w10, .int w11, .int w12, .int w13, .int w14, .ref g15, .int w16, .ref g17, .int w18, .int w19, .ref g20, .int w21, .ref g22, .ref g23, .ref g24, .int w25, .int w26, .int w27, .ref g28, .ref g29, .int w30, .ref g31, .ref g32, .ref g33])), (g3, .inl (T 0, 900, .inl ft))] H locs := V
                  show W p l e _ s m args below meth c H locs _ _ _ (F0 m 121 ls [.int z_51, .ref o])
                  refine g_put hC V (ci := 8) uwX8 tyX8 tyX8_ok nmX8 0 rfl rfl 9 (by decide) w_921 rfl rfl rfl rfl (Nat.le_of_ble_eq_true rfl) (ws' := [(o, .inr (8, [.int w0, .ref g1, .ref g2, .ref g3, .ref g4, .int (nI tp), .int (nI aq), .int (nI bq), .int (nI sz), .int z_51, .int w10, .int w11, .int w12, .int w13, .int w14, .ref g15, .int w16, .ref g17, .int w18, .int w19, .ref g20, .int w21, .ref g22, .ref g23, .ref g24, .int w25, .int w26, .int w27, .ref g28, .ref g29, .int w30, .ref g31, .ref g32, .ref g33])), (g3, .inl (T 0, 900, .inl ft))]) rfl dX8_next_121 (fun H locs V => ?_)
                  refine lv_goto (tgt := 270) hx hb dX8_next_124 (by decide) ?_
                  exact g_vret (Qr := (q_m_next T o w0 g1 g2 g3 g4 tp w6 be sz w9 w10 w11 w12 w13 w14 g15 w16 g17 w18 w19 g20 w21 g22 g23 g24 w25 w26 w27 g28 g29 w30 g31 g32 g33 ft)) hC V ⟨(Nat.le_of_ble_eq_true rfl), (Nat.le_of_ble_eq_true rfl)⟩ ⟨aq, bq, z_51, w10, rfl, rfl, (by first | assumption | omega | exact Or.inl rfl | exact Or.inr (by omega)), (by first | assumption | omega | exact Or.inl rfl | exact Or.inr (by omega)), (by first | assumption | omega | exact Or.inl rfl | exact Or.inr (by omega))⟩ dX8_next_270
              · have V : gW D T A s [(o, .inr (8, [.int w0, .ref g1, .ref g2, .ref g3, .ref g4, .int (nI tp), .int (nI aq), .int (nI bq), .int (nI sz), .int w9, .int w10, .int w11, .int w12, .int w13, .int w14, .ref g15, .int w16, .ref g17, .int w18, .int w19, .ref g20, .int w21, .ref g22, .ref g23, .ref g24, .int w25, .int w26, .int w27, .ref g28, .ref g29, .int w30, .ref g31, .ref g32, .ref g33])), (g3, .inl (T 0, 900, .inl ft))] H locs := V
                show W p l e _ s m args below meth c H locs _ _ _ (F0 m 97 ls [.int z_46])
                refine g_callS (wr := [(o, .inr (8, [.int w0, .ref g1, .ref g2, .ref g3, .ref g4, .int (nI tp), .int (nI aq), .int (nI bq), .int (nI sz), .int w9, .int w10, .int w11, .int w12, .int w13, .int w14, .ref g15, .int w16, .ref g17, .int w18, .int w19, .ref g20, .int w21, .ref g22, .ref g23, .ref g24, .int w25, .int w26, .int w27, .ref g28, .ref g29, .int w30, .ref g31, .ref g32, .ref g33])), (g3, .inl (T 0, 900, .inl ft))]) (nA := 1) hC V hl.1 (m_isSmall l D T z_46) w_1034 w_1035 w_9 w_1036 (by decide +kernel) rfl ⟨(Nat.le_of_ble_eq_true rfl), (Nat.le_of_ble_eq_true rfl)⟩ [] [0, 1] rfl rfl rfl rfl (by decide) (Nat.le_of_ble_eq_true rfl) dX8_next_97 ⟨(Nat.le_of_ble_eq_true rfl), (Nat.le_of_ble_eq_true rfl)⟩ rfl (fun r w1 H locs hQ V => ?_)
                rcases hQ with ⟨rfl, rfl, f_52⟩ | ⟨rfl, rfl, f_53⟩
                · have V : gW D T A s [(o, .inr (8, [.int w0, .ref g1, .ref g2, .ref g3, .ref g4, .int (nI tp), .int (nI aq), .int (nI bq), .int (nI sz), .int w9, .int w10, .int w11, .int w12, .int w13, .int w14, .ref g15, .int w16, .ref g17, .int w18, .int w19, .ref g20, .int w21, .ref g22, .ref g23, .ref g24, .int w25, .int w26, .int w27, .ref g28, .ref g29, .int w30, .ref g31, .ref g32, .ref g33])), (g3, .inl (T 0, 900, .inl ft))] H locs := V
                  show W p l e _ s m args below meth c H locs _ _ _ (F0 m 100 ls [.int (nI 1)])
                  refine lv_if_eq (tgt := 116) hx hb dX8_next_100 (by decide) (fun c => absurd (show (nI 1) = 0 from c) (by decide +kernel)) (fun _ => ?_)
                  refine lv_aload_n hx hb dX8_next_103 rfl (lv_at hl 0 rfl) ?_
                  refine lv_dup hx hb dX8_next_104 rfl ?_
                  refine g_get hC V (ci := 8) uwX8 0 rfl rfl 7 (by decide) w_919 rfl rfl dX8_next_105 ?_
                  refine lv_iconst (v := (nI 1)) hx hb dX8_next_108 (by decide +kernel) ?_
                  refine lv_iadd hx hb dX8_next_109 ?_
                  refine g_vi (y := (nI (bq + 1))) (nI_add _ _) ?_
                  refine g_put hC V (ci := 8) uwX8 tyX8 tyX8_ok nmX8 0 rfl rfl 7 (by decide) w_919 rfl rfl rfl rfl (Nat.le_of_ble_eq_true rfl) (ws' := [(o, .inr (8, [.int w0, .ref g1, .ref g2, .ref g3, .ref g4, .int (nI tp), .int (nI aq), .int (nI (bq + 1)), .int (nI sz), .int w9, .int w10, .int w11, .int w12, .int w13, .int w14, .ref g15, .int w16, .ref g17, .int w18, .int w19, .ref g20, .int w21, .ref g22, .ref g23, .ref g24, .int w25, .int w26, .int w27, .ref g28, .ref g29, .int w30, .ref g31, .ref g32, .ref g33])), (g3, .inl (T 0, 900, .inl ft))]) rfl dX8_next_110 (fun H locs V => ?_)
                  refine lv_goto (tgt := 89) hx hb dX8_next_113 (by decide) ?_
                  exact ih_89 (bq + 1) (by omega) (by omega) _ _ _ V (lv_sub hl [0] rfl)
                · have V : gW D T A s [(o, .inr (8, [.int w0, .ref g1, .ref g2, .ref g3, .ref g4, .int (nI tp), .int (nI aq), .int (nI bq), .int (nI sz), .int w9, .int w10, .int w11, .int w12, .int w13, .int w14, .ref g15, .int w16, .ref g17, .int w18, .int w19, .ref g20, .int w21, .ref g22, .ref g23, .ref g24, .int w25, .int w26, .int w27, .ref g28, .ref g29, .int w30, .ref g31, .ref g32, .ref g33])), (g3, .inl (T 0, 900, .inl ft))] H locs := V
                  show W p l e _ s m args below meth c H locs _ _ _ (F0 m 100 ls [.int (nI 0)])
                  have hbn : aq < bq := gone f_5 f_42 f_48 f_53 hbq.1
                  refine lv_if_eq (tgt := 116) hx hb dX8_next_100 (by decide) (fun _ => ?_) (fun c => absurd (show (nI 0) = 0 by decide +kernel) c)
                  refine lv_aload_n hx hb dX8_next_116 rfl (lv_at hl 0 rfl) ?_
                  refine lv_aload_n hx hb dX8_next_117 rfl (lv_at hl 0 rfl) ?_
                  refine g_callV (wr := []) (nA := 0) hC V hl.1 (m_keyAt l D T o w0 g1 g2 g3 g4 tp aq bq sz w9 w10 w11 w12 w13 w14 g15 w16 g17 w18 w19 g20 w21 g22 g23 g24 w25 w26 w27 g28 g29 w30 g31 g32 g33 ft (by first | assumption | omega) (by first | assumption | omega)) w_1037 w_1039 w_s38 w_9 w_1040 (by decide +kernel) rfl ⟨(Nat.le_of_ble_eq_true rfl), (Nat.le_of_ble_eq_true rfl)⟩ 0 (ci := 8) rfl rfl [0, 1] [] rfl rfl rfl rfl (by decide) (Nat.le_of_ble_eq_true rfl) dX8_next_118 ⟨(Nat.le_of_ble_eq_true rfl), (Nat.le_of_ble_eq_true rfl)⟩ rfl (fun r w1 H locs hQ V => ?_)
                  obtain ⟨z_54, rfl, rfl⟩ := hQ
                  have V : gW D T A s [(o, .inr (8, [.int w0, .ref g1, .ref g2, .ref g3, .ref g4, .int (nI tp), .int (nI aq), .int (nI bq), .int (nI sz), .int w9, .int w10, .int w11, .int w12, .int w13, .int w14, .ref g15, .int w16, .ref g17, .int w18, .int w19, .ref g20, .int w21, .ref g22, .ref g23, .ref g24, .int w25, .int w26, .int w27, .ref g28, .ref g29, .int w30, .ref g31, .ref g32, .ref g33])), (g3, .inl (T 0, 900, .inl ft))] H locs := V
                  show W p l e _ s m args below meth c H locs _ _ _ (F0 m 121 ls [.int z_54, .ref o])
                  refine g_put hC V (ci := 8) uwX8 tyX8 tyX8_ok nmX8 0 rfl rfl 9 (by decide) w_921 rfl rfl rfl rfl (Nat.le_of_ble_eq_true rfl) (ws' := [(o, .inr (8, [.int w0, .ref g1, .ref g2, .ref g3, .ref g4, .int (nI tp), .int (nI aq), .int (nI bq), .int (nI sz), .int z_54, .int w10, .int w11, .int w12, .int w13, .int w14, .ref g15, .int w16, .ref g17, .int w18, .int w19, .ref g20, .int w21, .ref g22, .ref g23, .ref g24, .int w25, .int w26, .int w27, .ref g28, .ref g29, .int w30, .ref g31, .ref g32, .ref g33])), (g3, .inl (T 0, 900, .inl ft))]) rfl dX8_next_121 (fun H locs V => ?_)
                  refine lv_goto (tgt := 270) hx hb dX8_next_124 (by decide) ?_
                  exact g_vret (Qr := (q_m_next T o w0 g1 g2 g3 g4 tp w6 be sz w9 w10 w11 w12 w13 w14 g15 w16 g17 w18 w19 g20 w21 g22 g23 g24 w25 w26 w27 g28 g29 w30 g31 g32 g33 ft)) hC V ⟨(Nat.le_of_ble_eq_true rfl), (Nat.le_of_ble_eq_true rfl)⟩ ⟨aq, bq, z_54, w10, rfl, rfl, (by first | assumption | omega | exact Or.inl rfl | exact Or.inr (by omega)), (by first | assumption | omega | exact Or.inl rfl | exact Or.inr (by omega)), (by first | assumption | omega | exact Or.inl rfl | exact Or.inr (by omega))⟩ dX8_next_270
          exact L_44 _ aq (by omega) (Nat.lt_succ_self _) _ _ _ V (lv_sub hl [0] rfl)
        · have V : gW D T A s [(o, .inr (8, [.int w0, .ref g1, .ref g2, .ref g3, .ref g4, .int (nI tp), .int (nI aq), .int (nI aq), .int (nI sz), .int w9, .int w10, .int w11, .int w12, .int w13, .int w14, .ref g15, .int w16, .ref g17, .int w18, .int w19, .ref g20, .int w21, .ref g22, .ref g23, .ref g24, .int w25, .int w26, .int w27, .ref g28, .ref g29, .int w30, .ref g31, .ref g32, .ref g33])), (g3, .inl (T 0, 900, .inl ft))] H locs := V
          show W p l e _ s m args below meth c H locs _ _ _ (F0 m 86 ls [.int (nI 0)])
          refine lv_if_eq (tgt := 127) hx hb dX8_next_86 (by decide) (fun _ => ?_) (fun c => absurd (show (nI 0) = 0 by decide +kernel) c)
          refine lv_aload_n hx hb dX8_next_127 rfl (lv_at hl 0 rfl) ?_
          refine lv_aload_n hx hb dX8_next_128 rfl (lv_at hl 0 rfl) ?_
          refine g_get hC V (ci := 8) uwX8 0 rfl rfl 6 (by decide) w_918 rfl rfl dX8_next_129 ?_
          refine g_callV (wr := []) (nA := 1) hC V hl.1 (m_see l D T o aq w0 g1 g2 g3 g4 tp (nI aq) (nI aq) sz w9 w10 w11 w12 w13 w14 g15 w16 g17 w18 w19 g20 w21 g22 g23 g24 w25 w26 w27 g28 g29 w30 g31 g32 g33 ft (by first | assumption | omega) (by first | assumption | omega)) w_1030 w_1032 w_s37 w_9 w_1033 (by decide +kernel) rfl ⟨(Nat.le_of_ble_eq_true rfl), (Nat.le_of_ble_eq_true rfl)⟩ 0 (ci := 8) rfl rfl [0, 1] [] rfl rfl rfl rfl (by decide) (Nat.le_of_ble_eq_true rfl) dX8_next_132 ⟨(Nat.le_of_ble_eq_true rfl), (Nat.le_of_ble_eq_true rfl)⟩ rfl (fun r w1 H locs hQ V => ?_)
          rcases hQ with ⟨rfl, rfl, f_55⟩ | ⟨z_56, rfl, rfl, f_57, f_58⟩
          · have V : gW D T A s [(o, .inr (8, [.int w0, .ref g1, .ref g2, .ref g3, .ref g4, .int (nI tp), .int (nI aq), .int (nI aq), .int (nI sz), .int w9, .int w10, .int w11, .int w12, .int w13, .int w14, .ref g15, .int w16, .ref g17, .int w18, .int w19, .ref g20, .int w21, .ref g22, .ref g23, .ref g24, .int w25, .int w26, .int w27, .ref g28, .ref g29, .int w30, .ref g31, .ref g32, .ref g33])), (g3, .inl (T 0, 900, .inl ft))] H locs := V
            show W p l e _ s m args below meth c H locs _ _ _ (F0 m 135 ls [.int (-1)])
            refine g_callS (wr := [(o, .inr (8, [.int w0, .ref g1, .ref g2, .ref g3, .ref g4, .int (nI tp), .int (nI aq), .int (nI aq), .int (nI sz), .int w9, .int w10, .int w11, .int w12, .int w13, .int w14, .ref g15, .int w16, .ref g17, .int w18, .int w19, .ref g20, .int w21, .ref g22, .ref g23, .ref g24, .int w25, .int w26, .int w27, .ref g28, .ref g29, .int w30, .ref g31, .ref g32, .ref g33])), (g3, .inl (T 0, 900, .inl ft))]) (nA := 1) hC V hl.1 (m_isDigit l D T (-1)) w_1044 w_1045 w_9 w_1046 (by decide +kernel) rfl ⟨(Nat.le_of_ble_eq_true rfl), (Nat.le_of_ble_eq_true rfl)⟩ [] [0, 1] rfl rfl rfl rfl (by decide) (Nat.le_of_ble_eq_true rfl) dX8_next_135 ⟨(Nat.le_of_ble_eq_true rfl), (Nat.le_of_ble_eq_true rfl)⟩ rfl (fun r w1 H locs hQ V => ?_)
            rcases hQ with ⟨rfl, rfl, f_59⟩ | ⟨rfl, rfl, f_60⟩
            · have V : gW D T A s [(o, .inr (8, [.int w0, .ref g1, .ref g2, .ref g3, .ref g4, .int (nI tp), .int (nI aq), .int (nI aq), .int (nI sz), .int w9, .int w10, .int w11, .int w12, .int w13, .int w14, .ref g15, .int w16, .ref g17, .int w18, .int w19, .ref g20, .int w21, .ref g22, .ref g23, .ref g24, .int w25, .int w26, .int w27, .ref g28, .ref g29, .int w30, .ref g31, .ref g32, .ref g33])), (g3, .inl (T 0, 900, .inl ft))] H locs := V
              show W p l e _ s m args below meth c H locs _ _ _ (F0 m 138 ls [.int (nI 1)])
              exact absurd f_59 digit_m1
            · have V : gW D T A s [(o, .inr (8, [.int w0, .ref g1, .ref g2, .ref g3, .ref g4, .int (nI tp), .int (nI aq), .int (nI aq), .int (nI sz), .int w9, .int w10, .int w11, .int w12, .int w13, .int w14, .ref g15, .int w16, .ref g17, .int w18, .int w19, .ref g20, .int w21, .ref g22, .ref g23, .ref g24, .int w25, .int w26, .int w27, .ref g28, .ref g29, .int w30, .ref g31, .ref g32, .ref g33])), (g3, .inl (T 0, 900, .inl ft))] H locs := V
              show W p l e _ s m args below meth c H locs _ _ _ (F0 m 138 ls [.int (nI 0)])
              refine lv_if_eq (tgt := 236) hx hb dX8_next_138 (by decide) (fun _ => ?_) (fun c => absurd (show (nI 0) = 0 by decide +kernel) c)
              refine lv_aload_n hx hb dX8_next_236 rfl (lv_at hl 0 rfl) ?_
              refine lv_dup hx hb dX8_next_237 rfl ?_
              refine g_get hC V (ci := 8) uwX8 0 rfl rfl 7 (by decide) w_919 rfl rfl dX8_next_238 ?_
              refine lv_iconst (v := (nI 1)) hx hb dX8_next_241 (by decide +kernel) ?_
              refine lv_iadd hx hb dX8_next_242 ?_
              refine g_vi (y := (nI (aq + 1))) (nI_add _ _) ?_
              refine g_put hC V (ci := 8) uwX8 tyX8 tyX8_ok nmX8 0 rfl rfl 7 (by decide) w_919 rfl rfl rfl rfl (Nat.le_of_ble_eq_true rfl) (ws' := [(o, .inr (8, [.int w0, .ref g1, .ref g2, .ref g3, .ref g4, .int (nI tp), .int (nI aq), .int (nI (aq + 1)), .int (nI sz), .int w9, .int w10, .int w11, .int w12, .int w13, .int w14, .ref g15, .int w16, .ref g17, .int w18, .int w19, .ref g20, .int w21, .ref g22, .ref g23, .ref g24, .int w25, .int w26, .int w27, .ref g28, .ref g29, .int w30, .ref g31, .ref g32, .ref g33])), (g3, .inl (T 0, 900, .inl ft))]) rfl dX8_next_243 (fun H locs V => ?_)
              refine lv_aload_n hx hb dX8_next_246 rfl (lv_at hl 0 rfl) ?_
              refine lv_aload_n hx hb dX8_next_247 rfl (lv_at hl 0 rfl) ?_
              refine lv_aload_n hx hb dX8_next_248 rfl (lv_at hl 0 rfl) ?_
              refine g_get hC V (ci := 8) uwX8 0 rfl rfl 6 (by decide) w_918 rfl rfl dX8_next_249 ?_
              refine g_callV (wr := []) (nA := 1) hC V hl.1 (m_see l D T o aq w0 g1 g2 g3 g4 tp (nI aq) (nI (aq + 1)) sz w9 w10 w11 w12 w13 w14 g15 w16 g17 w18 w19 g20 w21 g22 g23 g24 w25 w26 w27 g28 g29 w30 g31 g32 g33 ft (by first | assumption | omega) (by first | assumption | omega)) w_1030 w_1032 w_s37 w_9 w_1033 (by decide +kernel) rfl ⟨(Nat.le_of_ble_eq_true rfl), (Nat.le_of_ble_eq_true rfl)⟩ 0 (ci := 8) rfl rfl [0, 1] [] rfl rfl rfl rfl (by decide) (Nat.le_of_ble_eq_true rfl) dX8_next_252 ⟨(Nat.le_of_ble_eq_true rfl), (Nat.le_of_ble_eq_true rfl)⟩ rfl (fun r w1 H locs hQ V => ?_)
              rcases hQ with ⟨rfl, rfl, f_61⟩ | ⟨z_62, rfl, rfl, f_63, f_64⟩
              · have V : gW D T A s [(o, .inr (8, [.int w0, .ref g1, .ref g2, .ref g3, .ref g4, .int (nI tp), .int (nI aq), .int (nI (aq + 1)), .int (nI sz), .int w9, .int w10, .int w11, .int w12, .int w13, .int w14, .ref g15, .int w16, .ref g17, .int w18, .int w19, .ref g20, .int w21, .ref g22, .ref g23, .ref g24, .int w25, .int w26, .int w27, .ref g28, .ref g29, .int w30, .ref g31, .ref g32, .ref g33])), (g3, .inl (T 0, 900, .inl ft))] H locs := V
                show W p l e _ s m args below meth c H locs _ _ _ (F0 m 255 ls [.int (-1), .ref o])
                refine lv_bipush (v := (nI 59)) hx hb dX8_next_255 (by decide +kernel) ?_
                refine lv_icmp_ne (tgt := 265) hx hb dX8_next_257 (by decide) (fun _ => ?_) (fun c => absurd (show (-1 : Int32) = (nI 59) from c) (by decide +kernel))
                refine lv_bipush (v := (nI 12)) hx hb dX8_next_265 (by decide +kernel) ?_
                refine g_put hC V (ci := 8) uwX8 tyX8 tyX8_ok nmX8 0 rfl rfl 9 (by decide) w_921 rfl rfl rfl rfl (Nat.le_of_ble_eq_true rfl) (ws' := [(o, .inr (8, [.int w0, .ref g1, .ref g2, .ref g3, .ref g4, .int (nI tp), .int (nI aq), .int (nI (aq + 1)), .int (nI sz), .int (nI 12), .int w10, .int w11, .int w12, .int w13, .int w14, .ref g15, .int w16, .ref g17, .int w18, .int w19, .ref g20, .int w21, .ref g22, .ref g23, .ref g24, .int w25, .int w26, .int w27, .ref g28, .ref g29, .int w30, .ref g31, .ref g32, .ref g33])), (g3, .inl (T 0, 900, .inl ft))]) rfl dX8_next_267 (fun H locs V => ?_)
                exact g_vret (Qr := (q_m_next T o w0 g1 g2 g3 g4 tp w6 be sz w9 w10 w11 w12 w13 w14 g15 w16 g17 w18 w19 g20 w21 g22 g23 g24 w25 w26 w27 g28 g29 w30 g31 g32 g33 ft)) hC V ⟨(Nat.le_of_ble_eq_true rfl), (Nat.le_of_ble_eq_true rfl)⟩ ⟨aq, (aq + 1), (nI 12), w10, rfl, rfl, (by first | assumption | omega | exact Or.inl rfl | exact Or.inr (by omega)), (by first | assumption | omega | exact Or.inl rfl | exact Or.inr (by omega)), (by first | assumption | omega | exact Or.inl rfl | exact Or.inr (by omega))⟩ dX8_next_270
              · have V : gW D T A s [(o, .inr (8, [.int w0, .ref g1, .ref g2, .ref g3, .ref g4, .int (nI tp), .int (nI aq), .int (nI (aq + 1)), .int (nI sz), .int w9, .int w10, .int w11, .int w12, .int w13, .int w14, .ref g15, .int w16, .ref g17, .int w18, .int w19, .ref g20, .int w21, .ref g22, .ref g23, .ref g24, .int w25, .int w26, .int w27, .ref g28, .ref g29, .int w30, .ref g31, .ref g32, .ref g33])), (g3, .inl (T 0, 900, .inl ft))] H locs := V
                show W p l e _ s m args below meth c H locs _ _ _ (F0 m 255 ls [.int z_62, .ref o])
                refine lv_bipush (v := (nI 59)) hx hb dX8_next_255 (by decide +kernel) ?_
                refine lv_icmp_ne (tgt := 265) hx hb dX8_next_257 (by decide) (fun c_65 => ?_) (fun c_65 => ?_)
                · skip
                  refine lv_bipush (v := (nI 12)) hx hb dX8_next_265 (by decide +kernel) ?_
                  refine g_put hC V (ci := 8) uwX8 tyX8 tyX8_ok nmX8 0 rfl rfl 9 (by decide) w_921 rfl rfl rfl rfl (Nat.le_of_ble_eq_true rfl) (ws' := [(o, .inr (8, [.int w0, .ref g1, .ref g2, .ref g3, .ref g4, .int (nI tp), .int (nI aq), .int (nI (aq + 1)), .int (nI sz), .int (nI 12), .int w10, .int w11, .int w12, .int w13, .int w14, .ref g15, .int w16, .ref g17, .int w18, .int w19, .ref g20, .int w21, .ref g22, .ref g23, .ref g24, .int w25, .int w26, .int w27, .ref g28, .ref g29, .int w30, .ref g31, .ref g32, .ref g33])), (g3, .inl (T 0, 900, .inl ft))]) rfl dX8_next_267 (fun H locs V => ?_)
                  exact g_vret (Qr := (q_m_next T o w0 g1 g2 g3 g4 tp w6 be sz w9 w10 w11 w12 w13 w14 g15 w16 g17 w18 w19 g20 w21 g22 g23 g24 w25 w26 w27 g28 g29 w30 g31 g32 g33 ft)) hC V ⟨(Nat.le_of_ble_eq_true rfl), (Nat.le_of_ble_eq_true rfl)⟩ ⟨aq, (aq + 1), (nI 12), w10, rfl, rfl, (by first | assumption | omega | exact Or.inl rfl | exact Or.inr (by omega)), (by first | assumption | omega | exact Or.inl rfl | exact Or.inr (by omega)), (by first | assumption | omega | exact Or.inl rfl | exact Or.inr (by omega))⟩ dX8_next_270
                · skip
                  refine lv_bipush (v := (nI 10)) hx hb dX8_next_260 (by decide +kernel) ?_
                  refine lv_goto (tgt := 267) hx hb dX8_next_262 (by decide) ?_
                  refine g_put hC V (ci := 8) uwX8 tyX8 tyX8_ok nmX8 0 rfl rfl 9 (by decide) w_921 rfl rfl rfl rfl (Nat.le_of_ble_eq_true rfl) (ws' := [(o, .inr (8, [.int w0, .ref g1, .ref g2, .ref g3, .ref g4, .int (nI tp), .int (nI aq), .int (nI (aq + 1)), .int (nI sz), .int (nI 10), .int w10, .int w11, .int w12, .int w13, .int w14, .ref g15, .int w16, .ref g17, .int w18, .int w19, .ref g20, .int w21, .ref g22, .ref g23, .ref g24, .int w25, .int w26, .int w27, .ref g28, .ref g29, .int w30, .ref g31, .ref g32, .ref g33])), (g3, .inl (T 0, 900, .inl ft))]) rfl dX8_next_267 (fun H locs V => ?_)
                  exact g_vret (Qr := (q_m_next T o w0 g1 g2 g3 g4 tp w6 be sz w9 w10 w11 w12 w13 w14 g15 w16 g17 w18 w19 g20 w21 g22 g23 g24 w25 w26 w27 g28 g29 w30 g31 g32 g33 ft)) hC V ⟨(Nat.le_of_ble_eq_true rfl), (Nat.le_of_ble_eq_true rfl)⟩ ⟨aq, (aq + 1), (nI 10), w10, rfl, rfl, (by first | assumption | omega | exact Or.inl rfl | exact Or.inr (by omega)), (by first | assumption | omega | exact Or.inl rfl | exact Or.inr (by omega)), (by first | assumption | omega | exact Or.inl rfl | exact Or.inr (by omega))⟩ dX8_next_270
          · have V : gW D T A s [(o, .inr (8, [.int w0, .ref g1, .ref g2, .ref g3, .ref g4, .int (nI tp), .int (nI aq), .int (nI aq), .int (nI sz), .int w9, .int w10, .int w11, .int w12, .int w13, .int w14, .ref g15, .int w16, .ref g17, .int w18, .int w19, .ref g20, .int w21, .ref g22, .ref g23, .ref g24, .int w25, .int w26, .int w27, .ref g28, .ref g29, .int w30, .ref g31, .ref g32, .ref g33])), (g3, .inl (T 0, 900, .inl ft))] H locs := V
            show W p l e _ s m args below meth c H locs _ _ _ (F0 m 135 ls [.int z_56])
            refine g_callS (wr := [(o, .inr (8, [.int w0, .ref g1, .ref g2, .ref g3, .ref g4, .int (nI tp), .int (nI aq), .int (nI aq), .int (nI sz), .int w9, .int w10, .int w11, .int w12, .int w13, .int w14, .ref g15, .int w16, .ref g17, .int w18, .int w19, .ref g20, .int w21, .ref g22, .ref g23, .ref g24, .int w25, .int w26, .int w27, .ref g28, .ref g29, .int w30, .ref g31, .ref g32, .ref g33])), (g3, .inl (T 0, 900, .inl ft))]) (nA := 1) hC V hl.1 (m_isDigit l D T z_56) w_1044 w_1045 w_9 w_1046 (by decide +kernel) rfl ⟨(Nat.le_of_ble_eq_true rfl), (Nat.le_of_ble_eq_true rfl)⟩ [] [0, 1] rfl rfl rfl rfl (by decide) (Nat.le_of_ble_eq_true rfl) dX8_next_135 ⟨(Nat.le_of_ble_eq_true rfl), (Nat.le_of_ble_eq_true rfl)⟩ rfl (fun r w1 H locs hQ V => ?_)
            rcases hQ with ⟨rfl, rfl, f_66⟩ | ⟨rfl, rfl, f_67⟩
            · have V : gW D T A s [(o, .inr (8, [.int w0, .ref g1, .ref g2, .ref g3, .ref g4, .int (nI tp), .int (nI aq), .int (nI aq), .int (nI sz), .int w9, .int w10, .int w11, .int w12, .int w13, .int w14, .ref g15, .int w16, .ref g17, .int w18, .int w19, .ref g20, .int w21, .ref g22, .ref g23, .ref g24, .int w25, .int w26, .int w27, .ref g28, .ref g29, .int w30, .ref g31, .ref g32, .ref g33])), (g3, .inl (T 0, 900, .inl ft))] H locs := V
              show W p l e _ s m args below meth c H locs _ _ _ (F0 m 138 ls [.int (nI 1)])
              refine lv_if_eq (tgt := 236) hx hb dX8_next_138 (by decide) (fun c => absurd (show (nI 1) = 0 from c) (by decide +kernel)) (fun _ => ?_)
              refine lv_aload_n hx hb dX8_next_141 rfl (lv_at hl 0 rfl) ?_
              refine lv_iconst (v := (nI 0)) hx hb dX8_next_142 (by decide +kernel) ?_
              refine g_put hC V (ci := 8) uwX8 tyX8 tyX8_ok nmX8 0 rfl rfl 10 (by decide) w_922 rfl rfl rfl rfl (Nat.le_of_ble_eq_true rfl) (ws' := [(o, .inr (8, [.int w0, .ref g1, .ref g2, .ref g3, .ref g4, .int (nI tp), .int (nI aq), .int (nI aq), .int (nI sz), .int w9, .int (nI 0), .int w11, .int w12, .int w13, .int w14, .ref g15, .int w16, .ref g17, .int w18, .int w19, .ref g20, .int w21, .ref g22, .ref g23, .ref g24, .int w25, .int w26, .int w27, .ref g28, .ref g29, .int w30, .ref g31, .ref g32, .ref g33])), (g3, .inl (T 0, 900, .inl ft))]) rfl dX8_next_143 (fun H locs V => ?_)
              have L_68 : ∀ (fu : Nat) (bq : Nat) (nq : Int32), (aq ≤ bq ∧ bq ≤ sz) → sz - bq < fu → ∀ (H : Heap) (locs : List Loc) (ls : Array Slot), gW D T A s [(o, .inr (8, [.int w0, .ref g1, .ref g2, .ref g3, .ref g4, .int (nI tp), .int (nI aq), .int (nI bq), .int (nI sz), .int w9, .int nq, .int w11, .int w12, .int w13, .int w14, .ref g15, .int w16, .ref g17, .int w18, .int w19, .ref g20, .int w21, .ref g22, .ref g23, .ref g24, .int w25, .int w26, .int w27, .ref g28, .ref g29, .int w30, .ref g31, .ref g32, .ref g33])), (g3, .inl (T 0, 900, .inl ft))] H locs → lv_has ls 1 [(0, .ref o)] → W p l e (rmD 5 0 0) s m args below meth c H locs 0 0 (MQ below (gQ D A (q_m_next T o w0 g1 g2 g3 g4 tp w6 be sz w9 w10 w11 w12 w13 w14 g15 w16 g17 w18 w19 g20 w21 g22 g23 g24 w25 w26 w27 g28 g29 w30 g31 g32 g33 ft)) args s 0 0 A) (F0 m 146 ls []) := by
                intro fu_146
                induction fu_146 with
                | zero => intro bq nq hbq hmu; exact absurd hmu (Nat.not_lt_zero _)
                | succ fu_146 ih_146 =>
                  intro bq nq hbq hmu_146 H locs ls V hl
                  refine lv_aload_n hx hb dX8_next_146 rfl (lv_at hl 0 rfl) ?_
                  refine lv_aload_n hx hb dX8_next_147 rfl (lv_at hl 0 rfl) ?_
                  refine g_get hC V (ci := 8) uwX8 0 rfl rfl 7 (by decide) w_919 rfl rfl dX8_next_148 ?_
                  refine g_callV (wr := []) (nA := 1) hC V hl.1 (m_see l D T o bq w0 g1 g2 g3 g4 tp (nI aq) (nI bq) sz w9 nq w11 w12 w13 w14 g15 w16 g17 w18 w19 g20 w21 g22 g23 g24 w25 w26 w27 g28 g29 w30 g31 g32 g33 ft (by first | assumption | omega) (by first | assumption | omega)) w_1030 w_1032 w_s37 w_9 w_1033 (by decide +kernel) rfl ⟨(Nat.le_of_ble_eq_true rfl), (Nat.le_of_ble_eq_true rfl)⟩ 0 (ci := 8) rfl rfl [0, 1] [] rfl rfl rfl rfl (by decide) (Nat.le_of_ble_eq_true rfl) dX8_next_151 ⟨(Nat.le_of_ble_eq_true rfl), (Nat.le_of_ble_eq_true rfl)⟩ rfl (fun r w1 H locs hQ V => ?_)
                  rcases hQ with ⟨rfl, rfl, f_69⟩ | ⟨z_70, rfl, rfl, f_71, f_72⟩
                  · have V : gW D T A s [(o, .inr (8, [.int w0, .ref g1, .ref g2, .ref g3, .ref g4, .int (nI tp), .int (nI aq), .int (nI bq), .int (nI sz), .int w9, .int nq, .int w11, .int w12, .int w13, .int w14, .ref g15, .int w16, .ref g17, .int w18, .int w19, .ref g20, .int w21, .ref g22, .ref g23, .ref g24, .int w25, .int w26, .int w27, .ref g28, .ref g29, .int w30, .ref g31, .ref g32, .ref g33])), (g3, .inl (T 0, 900, .inl ft))] H locs := V
                    show W p l e _ s m args below meth c H locs _ _ _ (F0 m 154 ls [.int (-1)])
                    refine g_callS (wr := [(o, .inr (8, [.int w0, .ref g1, .ref g2, .ref g3, .ref g4, .int (nI tp), .int (nI aq), .int (nI bq), .int (nI sz), .int w9, .int nq, .int w11, .int w12, .int w13, .int w14, .ref g15, .int w16, .ref g17, .int w18, .int w19, .ref g20, .int w21, .ref g22, .ref g23, .ref g24, .int w25, .int w26, .int w27, .ref g28, .ref g29, .int w30, .ref g31, .ref g32, .ref g33])), (g3, .inl (T 0, 900, .inl ft))]) (nA := 1) hC V hl.1 (m_isDigit l D T (-1)) w_1044 w_1045 w_9 w_1046 (by decide +kernel) rfl ⟨(Nat.le_of_ble_eq_true rfl), (Nat.le_of_ble_eq_true rfl)⟩ [] [0, 1] rfl rfl rfl rfl (by decide) (Nat.le_of_ble_eq_true rfl) dX8_next_154 ⟨(Nat.le_of_ble_eq_true rfl), (Nat.le_of_ble_eq_true rfl)⟩ rfl (fun r w1 H locs hQ V => ?_)
                    rcases hQ with ⟨rfl, rfl, f_73⟩ | ⟨rfl, rfl, f_74⟩
                    · have V : gW D T A s [(o, .inr (8, [.int w0, .ref g1, .ref g2, .ref g3, .ref g4, .int (nI tp), .int (nI aq), .int (nI bq), .int (nI sz), .int w9, .int nq, .int w11, .int w12, .int w13, .int w14, .ref g15, .int w16, .ref g17, .int w18, .int w19, .ref g20, .int w21, .ref g22, .ref g23, .ref g24, .int w25, .int w26, .int w27, .ref g28, .ref g29, .int w30, .ref g31, .ref g32, .ref g33])), (g3, .inl (T 0, 900, .inl ft))] H locs := V
                      show W p l e _ s m args below meth c H locs _ _ _ (F0 m 157 ls [.int (nI 1)])
                      exact absurd f_73 digit_m1
                    · have V : gW D T A s [(o, .inr (8, [.int w0, .ref g1, .ref g2, .ref g3, .ref g4, .int (nI tp), .int (nI aq), .int (nI bq), .int (nI sz), .int w9, .int nq, .int w11, .int w12, .int w13, .int w14, .ref g15, .int w16, .ref g17, .int w18, .int w19, .ref g20, .int w21, .ref g22, .ref g23, .ref g24, .int w25, .int w26, .int w27, .ref g28, .ref g29, .int w30, .ref g31, .ref g32, .ref g33])), (g3, .inl (T 0, 900, .inl ft))] H locs := V
                      show W p l e _ s m args below meth c H locs _ _ _ (F0 m 157 ls [.int (nI 0)])
                      have hbn : aq < bq := by omega
                      refine lv_if_eq (tgt := 209) hx hb dX8_next_157 (by decide) (fun _ => ?_) (fun c => absurd (show (nI 0) = 0 by decide +kernel) c)
                      refine lv_aload_n hx hb dX8_next_209 rfl (lv_at hl 0 rfl) ?_
                      refine lv_aload_n hx hb dX8_next_210 rfl (lv_at hl 0 rfl) ?_
                      refine g_get hC V (ci := 8) uwX8 0 rfl rfl 7 (by decide) w_919 rfl rfl dX8_next_211 ?_
                      refine lv_aload_n hx hb dX8_next_214 rfl (lv_at hl 0 rfl) ?_
                      refine g_get hC V (ci := 8) uwX8 0 rfl rfl 6 (by decide) w_918 rfl rfl dX8_next_215 ?_
                      refine lv_isub hx hb dX8_next_218 ?_
                      refine lv_iconst (v := (nI 3)) hx hb dX8_next_219 (by decide +kernel) ?_
                      refine lv_icmp_le (tgt := 228) hx hb dX8_next_220 (by decide) (fun c_75 => ?_) (fun c_75 => ?_)
                      · skip
                        refine lv_bipush (v := (nI 9)) hx hb dX8_next_228 (by decide +kernel) ?_
                        refine g_put hC V (ci := 8) uwX8 tyX8 tyX8_ok nmX8 0 rfl rfl 9 (by decide) w_921 rfl rfl rfl rfl (Nat.le_of_ble_eq_true rfl) (ws' := [(o, .inr (8, [.int w0, .ref g1, .ref g2, .ref g3, .ref g4, .int (nI tp), .int (nI aq), .int (nI bq), .int (nI sz), .int (nI 9), .int nq, .int w11, .int w12, .int w13, .int w14, .ref g15, .int w16, .ref g17, .int w18, .int w19, .ref g20, .int w21, .ref g22, .ref g23, .ref g24, .int w25, .int w26, .int w27, .ref g28, .ref g29, .int w30, .ref g31, .ref g32, .ref g33])), (g3, .inl (T 0, 900, .inl ft))]) rfl dX8_next_230 (fun H locs V => ?_)
                        refine lv_goto (tgt := 270) hx hb dX8_next_233 (by decide) ?_
                        exact g_vret (Qr := (q_m_next T o w0 g1 g2 g3 g4 tp w6 be sz w9 w10 w11 w12 w13 w14 g15 w16 g17 w18 w19 g20 w21 g22 g23 g24 w25 w26 w27 g28 g29 w30 g31 g32 g33 ft)) hC V ⟨(Nat.le_of_ble_eq_true rfl), (Nat.le_of_ble_eq_true rfl)⟩ ⟨aq, bq, (nI 9), nq, rfl, rfl, (by first | assumption | omega | exact Or.inl rfl | exact Or.inr (by omega)), (by first | assumption | omega | exact Or.inl rfl | exact Or.inr (by omega)), (by first | assumption | omega | exact Or.inl rfl | exact Or.inr (by omega))⟩ dX8_next_270
                      · skip
                        refine lv_bipush (v := (nI 12)) hx hb dX8_next_223 (by decide +kernel) ?_
                        refine lv_goto (tgt := 230) hx hb dX8_next_225 (by decide) ?_
                        refine g_put hC V (ci := 8) uwX8 tyX8 tyX8_ok nmX8 0 rfl rfl 9 (by decide) w_921 rfl rfl rfl rfl (Nat.le_of_ble_eq_true rfl) (ws' := [(o, .inr (8, [.int w0, .ref g1, .ref g2, .ref g3, .ref g4, .int (nI tp), .int (nI aq), .int (nI bq), .int (nI sz), .int (nI 12), .int nq, .int w11, .int w12, .int w13, .int w14, .ref g15, .int w16, .ref g17, .int w18, .int w19, .ref g20, .int w21, .ref g22, .ref g23, .ref g24, .int w25, .int w26, .int w27, .ref g28, .ref g29, .int w30, .ref g31, .ref g32, .ref g33])), (g3, .inl (T 0, 900, .inl ft))]) rfl dX8_next_230 (fun H locs V => ?_)
                        refine lv_goto (tgt := 270) hx hb dX8_next_233 (by decide) ?_
                        exact g_vret (Qr := (q_m_next T o w0 g1 g2 g3 g4 tp w6 be sz w9 w10 w11 w12 w13 w14 g15 w16 g17 w18 w19 g20 w21 g22 g23 g24 w25 w26 w27 g28 g29 w30 g31 g32 g33 ft)) hC V ⟨(Nat.le_of_ble_eq_true rfl), (Nat.le_of_ble_eq_true rfl)⟩ ⟨aq, bq, (nI 12), nq, rfl, rfl, (by first | assumption | omega | exact Or.inl rfl | exact Or.inr (by omega)), (by first | assumption | omega | exact Or.inl rfl | exact Or.inr (by omega)), (by first | assumption | omega | exact Or.inl rfl | exact Or.inr (by omega))⟩ dX8_next_270
                  · have V : gW D T A s [(o, .inr (8, [.int w0, .ref g1, .ref g2, .ref g3, .ref g4, .int (nI tp), .int (nI aq), .int (nI bq), .int (nI sz), .int w9, .int nq, .int w11, .int w12, .int w13, .int w14, .ref g15, .int w16, .ref g17, .int w18, .int w19, .ref g20, .int w21, .ref g22, .ref g23, .ref g24, .int w25, .int w26, .int w27, .ref g28, .ref g29, .int w30, .ref g31, .ref g32, .ref g33])), (g3, .inl (T 0, 900, .inl ft))] H locs := V
                    show W p l e _ s m args below meth c H locs _ _ _ (F0 m 154 ls [.int z_70])
                    refine g_callS (wr := [(o, .inr (8, [.int w0, .ref g1, .ref g2, .ref g3, .ref g4, .int (nI tp), .int (nI aq), .int (nI bq), .int (nI sz), .int w9, .int nq, .int w11, .int w12, .int w13, .int w14, .ref g15, .int w16, .ref g17, .int w18, .int w19, .ref g20, .int w21, .ref g22, .ref g23, .ref g24, .int w25, .int w26, .int w27, .ref g28, .ref g29, .int w30, .ref g31, .ref g32, .ref g33])), (g3, .inl (T 0, 900, .inl ft))]) (nA := 1) hC V hl.1 (m_isDigit l D T z_70) w_1044 w_1045 w_9 w_1046 (by decide +kernel) rfl ⟨(Nat.le_of_ble_eq_true rfl), (Nat.le_of_ble_eq_true rfl)⟩ [] [0, 1] rfl rfl rfl rfl (by decide) (Nat.le_of_ble_eq_true rfl) dX8_next_154 ⟨(Nat.le_of_ble_eq_true rfl), (Nat.le_of_ble_eq_true rfl)⟩ rfl (fun r w1 H locs hQ V => ?_)
                    rcases hQ with ⟨rfl, rfl, f_76⟩ | ⟨rfl, rfl, f_77⟩
                    · have V : gW D T A s [(o, .inr (8, [.int w0, .ref g1, .ref g2, .ref g3, .ref g4, .int (nI tp), .int (nI aq), .int (nI bq), .int (nI sz), .int w9, .int nq, .int w11, .int w12, .int w13, .int w14, .ref g15, .int w16, .ref g17, .int w18, .int w19, .ref g20, .int w21, .ref g22, .ref g23, .ref g24, .int w25, .int w26, .int w27, .ref g28, .ref g29, .int w30, .ref g31, .ref g32, .ref g33])), (g3, .inl (T 0, 900, .inl ft))] H locs := V
                      show W p l e _ s m args below meth c H locs _ _ _ (F0 m 157 ls [.int (nI 1)])
                      refine lv_if_eq (tgt := 209) hx hb dX8_next_157 (by decide) (fun c => absurd (show (nI 1) = 0 from c) (by decide +kernel)) (fun _ => ?_)
                      refine lv_aload_n hx hb dX8_next_160 rfl (lv_at hl 0 rfl) ?_
                      refine g_get hC V (ci := 8) uwX8 0 rfl rfl 7 (by decide) w_919 rfl rfl dX8_next_161 ?_
                      refine lv_aload_n hx hb dX8_next_164 rfl (lv_at hl 0 rfl) ?_
                      refine g_get hC V (ci := 8) uwX8 0 rfl rfl 6 (by decide) w_918 rfl rfl dX8_next_165 ?_
                      refine lv_isub hx hb dX8_next_168 ?_
                      refine lv_iconst (v := (nI 3)) hx hb dX8_next_169 (by decide +kernel) ?_
                      refine lv_icmp_ge (tgt := 196) hx hb dX8_next_170 (by decide) (fun c_78 => ?_) (fun c_78 => ?_)
                      · skip
                        refine lv_aload_n hx hb dX8_next_196 rfl (lv_at hl 0 rfl) ?_
                        refine lv_dup hx hb dX8_next_197 rfl ?_
                        refine g_get hC V (ci := 8) uwX8 0 rfl rfl 7 (by decide) w_919 rfl rfl dX8_next_198 ?_
                        refine lv_iconst (v := (nI 1)) hx hb dX8_next_201 (by decide +kernel) ?_
                        refine lv_iadd hx hb dX8_next_202 ?_
                        refine g_vi (y := (nI (bq + 1))) (nI_add _ _) ?_
                        refine g_put hC V (ci := 8) uwX8 tyX8 tyX8_ok nmX8 0 rfl rfl 7 (by decide) w_919 rfl rfl rfl rfl (Nat.le_of_ble_eq_true rfl) (ws' := [(o, .inr (8, [.int w0, .ref g1, .ref g2, .ref g3, .ref g4, .int (nI tp), .int (nI aq), .int (nI (bq + 1)), .int (nI sz), .int w9, .int nq, .int w11, .int w12, .int w13, .int w14, .ref g15, .int w16, .ref g17, .int w18, .int w19, .ref g20, .int w21, .ref g22, .ref g23, .ref g24, .int w25, .int w26, .int w27, .ref g28, .ref g29, .int w30, .ref g31, .ref g32, .ref g33])), (g3, .inl (T 0, 900, .inl ft))]) rfl dX8_next_203 (fun H locs V => ?_)
                        refine lv_goto (tgt := 146) hx hb dX8_next_206 (by decide) ?_
                        exact ih_146 (bq + 1) nq (by omega) (by omega) _ _ _ V (lv_sub hl [0] rfl)
                      · skip
                        refine lv_aload_n hx hb dX8_next_173 rfl (lv_at hl 0 rfl) ?_
                        refine lv_bipush (v := (nI 10)) hx hb dX8_next_174 (by decide +kernel) ?_
                        refine lv_aload_n hx hb dX8_next_176 rfl (lv_at hl 0 rfl) ?_
                        refine g_get hC V (ci := 8) uwX8 0 rfl rfl 10 (by decide) w_922 rfl rfl dX8_next_177 ?_
                        refine lv_imul hx hb dX8_next_180 ?_
                        refine lv_aload_n hx hb dX8_next_181 rfl (lv_at hl 0 rfl) ?_
                        refine lv_aload_n hx hb dX8_next_182 rfl (lv_at hl 0 rfl) ?_
                        refine g_get hC V (ci := 8) uwX8 0 rfl rfl 7 (by decide) w_919 rfl rfl dX8_next_183 ?_
                        refine g_callV (wr := []) (nA := 1) hC V hl.1 (m_see l D T o bq w0 g1 g2 g3 g4 tp (nI aq) (nI bq) sz w9 nq w11 w12 w13 w14 g15 w16 g17 w18 w19 g20 w21 g22 g23 g24 w25 w26 w27 g28 g29 w30 g31 g32 g33 ft (by first | assumption | omega) (by first | assumption | omega)) w_1030 w_1032 w_s37 w_9 w_1033 (by decide +kernel) rfl ⟨(Nat.le_of_ble_eq_true rfl), (Nat.le_of_ble_eq_true rfl)⟩ 0 (ci := 8) rfl rfl [0, 1] [] rfl rfl rfl rfl (by decide) (Nat.le_of_ble_eq_true rfl) dX8_next_186 ⟨(Nat.le_of_ble_eq_true rfl), (Nat.le_of_ble_eq_true rfl)⟩ rfl (fun r w1 H locs hQ V => ?_)
                        rcases hQ with ⟨rfl, rfl, f_79⟩ | ⟨z_80, rfl, rfl, f_81, f_82⟩
                        · have V : gW D T A s [(o, .inr (8, [.int w0, .ref g1, .ref g2, .ref g3, .ref g4, .int (nI tp), .int (nI aq), .int (nI bq), .int (nI sz), .int w9, .int nq, .int w11, .int w12, .int w13, .int w14, .ref g15, .int w16, .ref g17, .int w18, .int w19, .ref g20, .int w21, .ref g22, .ref g23, .ref g24, .int w25, .int w26, .int w27, .ref g28, .ref g29, .int w30, .ref g31, .ref g32, .ref g33])), (g3, .inl (T 0, 900, .inl ft))] H locs := V
                          show W p l e _ s m args below meth c H locs _ _ _ (F0 m 189 ls [.int (-1), .int ((nI 10) * nq), .ref o])
                          refine lv_iadd hx hb dX8_next_189 ?_
                          refine lv_bipush (v := (nI 48)) hx hb dX8_next_190 (by decide +kernel) ?_
                          refine lv_isub hx hb dX8_next_192 ?_
                          refine g_put hC V (ci := 8) uwX8 tyX8 tyX8_ok nmX8 0 rfl rfl 10 (by decide) w_922 rfl rfl rfl rfl (Nat.le_of_ble_eq_true rfl) (ws' := [(o, .inr (8, [.int w0, .ref g1, .ref g2, .ref g3, .ref g4, .int (nI tp), .int (nI aq), .int (nI bq), .int (nI sz), .int w9, .int ((((nI 10) * nq) + (-1)) - (nI 48)), .int w11, .int w12, .int w13, .int w14, .ref g15, .int w16, .ref g17, .int w18, .int w19, .ref g20, .int w21, .ref g22, .ref g23, .ref g24, .int w25, .int w26, .int w27, .ref g28, .ref g29, .int w30, .ref g31, .ref g32, .ref g33])), (g3, .inl (T 0, 900, .inl ft))]) rfl dX8_next_193 (fun H locs V => ?_)
                          refine lv_aload_n hx hb dX8_next_196 rfl (lv_at hl 0 rfl) ?_
                          refine lv_dup hx hb dX8_next_197 rfl ?_
                          refine g_get hC V (ci := 8) uwX8 0 rfl rfl 7 (by decide) w_919 rfl rfl dX8_next_198 ?_
                          refine lv_iconst (v := (nI 1)) hx hb dX8_next_201 (by decide +kernel) ?_
                          refine lv_iadd hx hb dX8_next_202 ?_
                          refine g_vi (y := (nI (bq + 1))) (nI_add _ _) ?_
                          refine g_put hC V (ci := 8) uwX8 tyX8 tyX8_ok nmX8 0 rfl rfl 7 (by decide) w_919 rfl rfl rfl rfl (Nat.le_of_ble_eq_true rfl) (ws' := [(o, .inr (8, [.int w0, .ref g1, .ref g2, .ref g3, .ref g4, .int (nI tp), .int (nI aq), .int (nI (bq + 1)), .int (nI sz), .int w9, .int ((((nI 10) * nq) + (-1)) - (nI 48)), .int w11, .int w12, .int w13, .int w14, .ref g15, .int w16, .ref g17, .int w18, .int w19, .ref g20, .int w21, .ref g22, .ref g23, .ref g24, .int w25, .int w26, .int w27, .ref g28, .ref g29, .int w30, .ref g31, .ref g32, .ref g33])), (g3, .inl (T 0, 900, .inl ft))]) rfl dX8_next_203 (fun H locs V => ?_)
                          refine lv_goto (tgt := 146) hx hb dX8_next_206 (by decide) ?_
                          exact ih_146 (bq + 1) ((((nI 10) * nq) + (-1)) - (nI 48)) (by omega) (by omega) _ _ _ V (lv_sub hl [0] rfl)
                        · have V : gW D T A s [(o, .inr (8, [.int w0, .ref g1, .ref g2, .ref g3, .ref g4, .int (nI tp), .int (nI aq), .int (nI bq), .int (nI sz), .int w9, .int nq, .int w11, .int w12, .int w13, .int w14, .ref g15, .int w16, .ref g17, .int w18, .int w19, .ref g20, .int w21, .ref g22, .ref g23, .ref g24, .int w25, .int w26, .int w27, .ref g28, .ref g29, .int w30, .ref g31, .ref g32, .ref g33])), (g3, .inl (T 0, 900, .inl ft))] H locs := V
                          show W p l e _ s m args below meth c H locs _ _ _ (F0 m 189 ls [.int z_80, .int ((nI 10) * nq), .ref o])
                          refine lv_iadd hx hb dX8_next_189 ?_
                          refine lv_bipush (v := (nI 48)) hx hb dX8_next_190 (by decide +kernel) ?_
                          refine lv_isub hx hb dX8_next_192 ?_
                          refine g_put hC V (ci := 8) uwX8 tyX8 tyX8_ok nmX8 0 rfl rfl 10 (by decide) w_922 rfl rfl rfl rfl (Nat.le_of_ble_eq_true rfl) (ws' := [(o, .inr (8, [.int w0, .ref g1, .ref g2, .ref g3, .ref g4, .int (nI tp), .int (nI aq), .int (nI bq), .int (nI sz), .int w9, .int ((((nI 10) * nq) + z_80) - (nI 48)), .int w11, .int w12, .int w13, .int w14, .ref g15, .int w16, .ref g17, .int w18, .int w19, .ref g20, .int w21, .ref g22, .ref g23, .ref g24, .int w25, .int w26, .int w27, .ref g28, .ref g29, .int w30, .ref g31, .ref g32, .ref g33])), (g3, .inl (T 0, 900, .inl ft))]) rfl dX8_next_193 (fun H locs V => ?_)
                          refine lv_aload_n hx hb dX8_next_196 rfl (lv_at hl 0 rfl) ?_
                          refine lv_dup hx hb dX8_next_197 rfl ?_
                          refine g_get hC V (ci := 8) uwX8 0 rfl rfl 7 (by decide) w_919 rfl rfl dX8_next_198 ?_
                          refine lv_iconst (v := (nI 1)) hx hb dX8_next_201 (by decide +kernel) ?_
                          refine lv_iadd hx hb dX8_next_202 ?_
                          refine g_vi (y := (nI (bq + 1))) (nI_add _ _) ?_
                          refine g_put hC V (ci := 8) uwX8 tyX8 tyX8_ok nmX8 0 rfl rfl 7 (by decide) w_919 rfl rfl rfl rfl (Nat.le_of_ble_eq_true rfl) (ws' := [(o, .inr (8, [.int w0, .ref g1, .ref g2, .ref g3, .ref g4, .int (nI tp), .int (nI aq), .int (nI (bq + 1)), .int (nI sz), .int w9, .int ((((nI 10) * nq) + z_80) - (nI 48)), .int w11, .int w12, .int w13, .int w14, .ref g15, .int w16, .ref g17, .int w18, .int w19, .ref g20, .int w21, .ref g22, .ref g23, .ref g24, .int w25, .int w26, .int w27, .ref g28, .ref g29, .int w30, .ref g31, .ref g32, .ref g33])), (g3, .inl (T 0, 900, .inl ft))]) rfl dX8_next_203 (fun H locs V => ?_)
                          refine lv_goto (tgt := 146) hx hb dX8_next_206 (by decide) ?_
                          exact ih_146 (bq + 1) ((((nI 10) * nq) + z_80) - (nI 48)) (by omega) (by omega) _ _ _ V (lv_sub hl [0] rfl)
                    · have V : gW D T A s [(o, .inr (8, [.int w0, .ref g1, .ref g2, .ref g3, .ref g4, .int (nI tp), .int (nI aq), .int (nI bq), .int (nI sz), .int w9, .int nq, .int w11, .int w12, .int w13, .int w14, .ref g15, .int w16, .ref g17, .int w18, .int w19, .ref g20, .int w21, .ref g22, .ref g23, .ref g24, .int w25, .int w26, .int w27, .ref g28, .ref g29, .int w30, .ref g31, .ref g32, .ref g33])), (g3, .inl (T 0, 900, .inl ft))] H locs := V
                      show W p l e _ s m args below meth c H locs _ _ _ (F0 m 157 ls [.int (nI 0)])
                      have hbn : aq < bq := gone f_58 f_66 f_72 f_77 hbq.1
                      refine lv_if_eq (tgt := 209) hx hb dX8_next_157 (by decide) (fun _ => ?_) (fun c => absurd (show (nI 0) = 0 by decide +kernel) c)
                      refine lv_aload_n hx hb dX8_next_209 rfl (lv_at hl 0 rfl) ?_
                      refine lv_aload_n hx hb dX8_next_210 rfl (lv_at hl 0 rfl) ?_
                      refine g_get hC V (ci := 8) uwX8 0 rfl rfl 7 (by decide) w_919 rfl rfl dX8_next_211 ?_
                      refine lv_aload_n hx hb dX8_next_214 rfl (lv_at hl 0 rfl) ?_
                      refine g_get hC V (ci := 8) uwX8 0 rfl rfl 6 (by decide) w_918 rfl rfl dX8_next_215 ?_
                      refine lv_isub hx hb dX8_next_218 ?_
                      refine lv_iconst (v := (nI 3)) hx hb dX8_next_219 (by decide +kernel) ?_
                      refine lv_icmp_le (tgt := 228) hx hb dX8_next_220 (by decide) (fun c_83 => ?_) (fun c_83 => ?_)
                      · skip
                        refine lv_bipush (v := (nI 9)) hx hb dX8_next_228 (by decide +kernel) ?_
                        refine g_put hC V (ci := 8) uwX8 tyX8 tyX8_ok nmX8 0 rfl rfl 9 (by decide) w_921 rfl rfl rfl rfl (Nat.le_of_ble_eq_true rfl) (ws' := [(o, .inr (8, [.int w0, .ref g1, .ref g2, .ref g3, .ref g4, .int (nI tp), .int (nI aq), .int (nI bq), .int (nI sz), .int (nI 9), .int nq, .int w11, .int w12, .int w13, .int w14, .ref g15, .int w16, .ref g17, .int w18, .int w19, .ref g20, .int w21, .ref g22, .ref g23, .ref g24, .int w25, .int w26, .int w27, .ref g28, .ref g29, .int w30, .ref g31, .ref g32, .ref g33])), (g3, .inl (T 0, 900, .inl ft))]) rfl dX8_next_230 (fun H locs V => ?_)
                        refine lv_goto (tgt := 270) hx hb dX8_next_233 (by decide) ?_
                        exact g_vret (Qr := (q_m_next T o w0 g1 g2 g3 g4 tp w6 be sz w9 w10 w11 w12 w13 w14 g15 w16 g17 w18 w19 g20 w21 g22 g23 g24 w25 w26 w27 g28 g29 w30 g31 g32 g33 ft)) hC V ⟨(Nat.le_of_ble_eq_true rfl), (Nat.le_of_ble_eq_true rfl)⟩ ⟨aq, bq, (nI 9), nq, rfl, rfl, (by first | assumption | omega | exact Or.inl rfl | exact Or.inr (by omega)), (by first | assumption | omega | exact Or.inl rfl | exact Or.inr (by omega)), (by first | assumption | omega | exact Or.inl rfl | exact Or.inr (by omega))⟩ dX8_next_270
                      · skip
                        refine lv_bipush (v := (nI 12)) hx hb dX8_next_223 (by decide +kernel) ?_
                        refine lv_goto (tgt := 230) hx hb dX8_next_225 (by decide) ?_
                        refine g_put hC V (ci := 8) uwX8 tyX8 tyX8_ok nmX8 0 rfl rfl 9 (by decide) w_921 rfl rfl rfl rfl (Nat.le_of_ble_eq_true rfl) (ws' := [(o, .inr (8, [.int w0, .ref g1, .ref g2, .ref g3, .ref g4, .int (nI tp), .int (nI aq), .int (nI bq), .int (nI sz), .int (nI 12), .int nq, .int w11, .int w12, .int w13, .int w14, .ref g15, .int w16, .ref g17, .int w18, .int w19, .ref g20, .int w21, .ref g22, .ref g23, .ref g24, .int w25, .int w26, .int w27, .ref g28, .ref g29, .int w30, .ref g31, .ref g32, .ref g33])), (g3, .inl (T 0, 900, .inl ft))]) rfl dX8_next_230 (fun H locs V => ?_)
                        refine lv_goto (tgt := 270) hx hb dX8_next_233 (by decide) ?_
                        exact g_vret (Qr := (q_m_next T o w0 g1 g2 g3 g4 tp w6 be sz w9 w10 w11 w12 w13 w14 g15 w16 g17 w18 w19 g20 w21 g22 g23 g24 w25 w26 w27 g28 g29 w30 g31 g32 g33 ft)) hC V ⟨(Nat.le_of_ble_eq_true rfl), (Nat.le_of_ble_eq_true rfl)⟩ ⟨aq, bq, (nI 12), nq, rfl, rfl, (by first | assumption | omega | exact Or.inl rfl | exact Or.inr (by omega)), (by first | assumption | omega | exact Or.inl rfl | exact Or.inr (by omega)), (by first | assumption | omega | exact Or.inl rfl | exact Or.inr (by omega))⟩ dX8_next_270
              exact L_68 _ aq (nI 0) (by omega) (Nat.lt_succ_self _) _ _ _ V (lv_sub hl [0] rfl)
            · have V : gW D T A s [(o, .inr (8, [.int w0, .ref g1, .ref g2, .ref g3, .ref g4, .int (nI tp), .int (nI aq), .int (nI aq), .int (nI sz), .int w9, .int w10, .int w11, .int w12, .int w13, .int w14, .ref g15, .int w16, .ref g17, .int w18, .int w19, .ref g20, .int w21, .ref g22, .ref g23, .ref g24, .int w25, .int w26, .int w27, .ref g28, .ref g29, .int w30, .ref g31, .ref g32, .ref g33])), (g3, .inl (T 0, 900, .inl ft))] H locs := V
              show W p l e _ s m args below meth c H locs _ _ _ (F0 m 138 ls [.int (nI 0)])
              refine lv_if_eq (tgt := 236) hx hb dX8_next_138 (by decide) (fun _ => ?_) (fun c => absurd (show (nI 0) = 0 by decide +kernel) c)
              refine lv_aload_n hx hb dX8_next_236 rfl (lv_at hl 0 rfl) ?_
              refine lv_dup hx hb dX8_next_237 rfl ?_
              refine g_get hC V (ci := 8) uwX8 0 rfl rfl 7 (by decide) w_919 rfl rfl dX8_next_238 ?_
              refine lv_iconst (v := (nI 1)) hx hb dX8_next_241 (by decide +kernel) ?_
              refine lv_iadd hx hb dX8_next_242 ?_
              refine g_vi (y := (nI (aq + 1))) (nI_add _ _) ?_
              refine g_put hC V (ci := 8) uwX8 tyX8 tyX8_ok nmX8 0 rfl rfl 7 (by decide) w_919 rfl rfl rfl rfl (Nat.le_of_ble_eq_true rfl) (ws' := [(o, .inr (8, [.int w0, .ref g1, .ref g2, .ref g3, .ref g4, .int (nI tp), .int (nI aq), .int (nI (aq + 1)), .int (nI sz), .int w9, .int w10, .int w11, .int w12, .int w13, .int w14, .ref g15, .int w16, .ref g17, .int w18, .int w19, .ref g20, .int w21, .ref g22, .ref g23, .ref g24, .int w25, .int w26, .int w27, .ref g28, .ref g29, .int w30, .ref g31, .ref g32, .ref g33])), (g3, .inl (T 0, 900, .inl ft))]) rfl dX8_next_243 (fun H locs V => ?_)
              refine lv_aload_n hx hb dX8_next_246 rfl (lv_at hl 0 rfl) ?_
              refine lv_aload_n hx hb dX8_next_247 rfl (lv_at hl 0 rfl) ?_
              refine lv_aload_n hx hb dX8_next_248 rfl (lv_at hl 0 rfl) ?_
              refine g_get hC V (ci := 8) uwX8 0 rfl rfl 6 (by decide) w_918 rfl rfl dX8_next_249 ?_
              refine g_callV (wr := []) (nA := 1) hC V hl.1 (m_see l D T o aq w0 g1 g2 g3 g4 tp (nI aq) (nI (aq + 1)) sz w9 w10 w11 w12 w13 w14 g15 w16 g17 w18 w19 g20 w21 g22 g23 g24 w25 w26 w27 g28 g29 w30 g31 g32 g33 ft (by first | assumption | omega) (by first | assumption | omega)) w_1030 w_1032 w_s37 w_9 w_1033 (by decide +kernel) rfl ⟨(Nat.le_of_ble_eq_true rfl), (Nat.le_of_ble_eq_true rfl)⟩ 0 (ci := 8) rfl rfl [0, 1] [] rfl rfl rfl rfl (by decide) (Nat.le_of_ble_eq_true rfl) dX8_next_252 ⟨(Nat.le_of_ble_eq_true rfl), (Nat.le_of_ble_eq_true rfl)⟩ rfl (fun r w1 H locs hQ V => ?_)
              rcases hQ with ⟨rfl, rfl, f_84⟩ | ⟨z_85, rfl, rfl, f_86, f_87⟩
              · have V : gW D T A s [(o, .inr (8, [.int w0, .ref g1, .ref g2, .ref g3, .ref g4, .int (nI tp), .int (nI aq), .int (nI (aq + 1)), .int (nI sz), .int w9, .int w10, .int w11, .int w12, .int w13, .int w14, .ref g15, .int w16, .ref g17, .int w18, .int w19, .ref g20, .int w21, .ref g22, .ref g23, .ref g24, .int w25, .int w26, .int w27, .ref g28, .ref g29, .int w30, .ref g31, .ref g32, .ref g33])), (g3, .inl (T 0, 900, .inl ft))] H locs := V
                show W p l e _ s m args below meth c H locs _ _ _ (F0 m 255 ls [.int (-1), .ref o])
                refine lv_bipush (v := (nI 59)) hx hb dX8_next_255 (by decide +kernel) ?_
                refine lv_icmp_ne (tgt := 265) hx hb dX8_next_257 (by decide) (fun _ => ?_) (fun c => absurd (show (-1 : Int32) = (nI 59) from c) (by decide +kernel))
                refine lv_bipush (v := (nI 12)) hx hb dX8_next_265 (by decide +kernel) ?_
                refine g_put hC V (ci := 8) uwX8 tyX8 tyX8_ok nmX8 0 rfl rfl 9 (by decide) w_921 rfl rfl rfl rfl (Nat.le_of_ble_eq_true rfl) (ws' := [(o, .inr (8, [.int w0, .ref g1, .ref g2, .ref g3, .ref g4, .int (nI tp), .int (nI aq), .int (nI (aq + 1)), .int (nI sz), .int (nI 12), .int w10, .int w11, .int w12, .int w13, .int w14, .ref g15, .int w16, .ref g17, .int w18, .int w19, .ref g20, .int w21, .ref g22, .ref g23, .ref g24, .int w25, .int w26, .int w27, .ref g28, .ref g29, .int w30, .ref g31, .ref g32, .ref g33])), (g3, .inl (T 0, 900, .inl ft))]) rfl dX8_next_267 (fun H locs V => ?_)
                exact g_vret (Qr := (q_m_next T o w0 g1 g2 g3 g4 tp w6 be sz w9 w10 w11 w12 w13 w14 g15 w16 g17 w18 w19 g20 w21 g22 g23 g24 w25 w26 w27 g28 g29 w30 g31 g32 g33 ft)) hC V ⟨(Nat.le_of_ble_eq_true rfl), (Nat.le_of_ble_eq_true rfl)⟩ ⟨aq, (aq + 1), (nI 12), w10, rfl, rfl, (by first | assumption | omega | exact Or.inl rfl | exact Or.inr (by omega)), (by first | assumption | omega | exact Or.inl rfl | exact Or.inr (by omega)), (by first | assumption | omega | exact Or.inl rfl | exact Or.inr (by omega))⟩ dX8_next_270
              · have V : gW D T A s [(o, .inr (8, [.int w0, .ref g1, .ref g2, .ref g3, .ref g4, .int (nI tp), .int (nI aq), .int (nI (aq + 1)), .int (nI sz), .int w9, .int w10, .int w11, .int w12, .int w13, .int w14, .ref g15, .int w16, .ref g17, .int w18, .int w19, .ref g20, .int w21, .ref g22, .ref g23, .ref g24, .int w25, .int w26, .int w27, .ref g28, .ref g29, .int w30, .ref g31, .ref g32, .ref g33])), (g3, .inl (T 0, 900, .inl ft))] H locs := V
                show W p l e _ s m args below meth c H locs _ _ _ (F0 m 255 ls [.int z_85, .ref o])
                refine lv_bipush (v := (nI 59)) hx hb dX8_next_255 (by decide +kernel) ?_
                refine lv_icmp_ne (tgt := 265) hx hb dX8_next_257 (by decide) (fun c_88 => ?_) (fun c_88 => ?_)
                · skip
                  refine lv_bipush (v := (nI 12)) hx hb dX8_next_265 (by decide +kernel) ?_
                  refine g_put hC V (ci := 8) uwX8 tyX8 tyX8_ok nmX8 0 rfl rfl 9 (by decide) w_921 rfl rfl rfl rfl (Nat.le_of_ble_eq_true rfl) (ws' := [(o, .inr (8, [.int w0, .ref g1, .ref g2, .ref g3, .ref g4, .int (nI tp), .int (nI aq), .int (nI (aq + 1)), .int (nI sz), .int (nI 12), .int w10, .int w11, .int w12, .int w13, .int w14, .ref g15, .int w16, .ref g17, .int w18, .int w19, .ref g20, .int w21, .ref g22, .ref g23, .ref g24, .int w25, .int w26, .int w27, .ref g28, .ref g29, .int w30, .ref g31, .ref g32, .ref g33])), (g3, .inl (T 0, 900, .inl ft))]) rfl dX8_next_267 (fun H locs V => ?_)
                  exact g_vret (Qr := (q_m_next T o w0 g1 g2 g3 g4 tp w6 be sz w9 w10 w11 w12 w13 w14 g15 w16 g17 w18 w19 g20 w21 g22 g23 g24 w25 w26 w27 g28 g29 w30 g31 g32 g33 ft)) hC V ⟨(Nat.le_of_ble_eq_true rfl), (Nat.le_of_ble_eq_true rfl)⟩ ⟨aq, (aq + 1), (nI 12), w10, rfl, rfl, (by first | assumption | omega | exact Or.inl rfl | exact Or.inr (by omega)), (by first | assumption | omega | exact Or.inl rfl | exact Or.inr (by omega)), (by first | assumption | omega | exact Or.inl rfl | exact Or.inr (by omega))⟩ dX8_next_270
                · skip
                  refine lv_bipush (v := (nI 10)) hx hb dX8_next_260 (by decide +kernel) ?_
                  refine lv_goto (tgt := 267) hx hb dX8_next_262 (by decide) ?_
                  refine g_put hC V (ci := 8) uwX8 tyX8 tyX8_ok nmX8 0 rfl rfl 9 (by decide) w_921 rfl rfl rfl rfl (Nat.le_of_ble_eq_true rfl) (ws' := [(o, .inr (8, [.int w0, .ref g1, .ref g2, .ref g3, .ref g4, .int (nI tp), .int (nI aq), .int (nI (aq + 1)), .int (nI sz), .int (nI 10), .int w10, .int w11, .int w12, .int w13, .int w14, .ref g15, .int w16, .ref g17, .int w18, .int w19, .ref g20, .int w21, .ref g22, .ref g23, .ref g24, .int w25, .int w26, .int w27, .ref g28, .ref g29, .int w30, .ref g31, .ref g32, .ref g33])), (g3, .inl (T 0, 900, .inl ft))]) rfl dX8_next_267 (fun H locs V => ?_)
                  exact g_vret (Qr := (q_m_next T o w0 g1 g2 g3 g4 tp w6 be sz w9 w10 w11 w12 w13 w14 g15 w16 g17 w18 w19 g20 w21 g22 g23 g24 w25 w26 w27 g28 g29 w30 g31 g32 g33 ft)) hC V ⟨(Nat.le_of_ble_eq_true rfl), (Nat.le_of_ble_eq_true rfl)⟩ ⟨aq, (aq + 1), (nI 10), w10, rfl, rfl, (by first | assumption | omega | exact Or.inl rfl | exact Or.inr (by omega)), (by first | assumption | omega | exact Or.inl rfl | exact Or.inr (by omega)), (by first | assumption | omega | exact Or.inl rfl | exact Or.inr (by omega))⟩ dX8_next_270
    · skip
      have c_1 := b_nlt (by omega) (by omega) c_1
      refine lv_aload_n hx hb dX8_next_66 rfl (lv_at hl 0 rfl) ?_
      refine lv_bipush (v := (nI 11)) hx hb dX8_next_67 (by decide +kernel) ?_
      refine g_put hC V (ci := 8) uwX8 tyX8 tyX8_ok nmX8 0 rfl rfl 9 (by decide) w_921 rfl rfl rfl rfl (Nat.le_of_ble_eq_true rfl) (ws' := [(o, .inr (8, [.int w0, .ref g1, .ref g2, .ref g3, .ref g4, .int (nI tp), .int (nI aq), .int (nI aq), .int (nI sz), .int (nI 11), .int w10, .int w11, .int w12, .int w13, .int w14, .ref g15, .int w16, .ref g17, .int w18, .int w19, .ref g20, .int w21, .ref g22, .ref g23, .ref g24, .int w25, .int w26, .int w27, .ref g28, .ref g29, .int w30, .ref g31, .ref g32, .ref g33])), (g3, .inl (T 0, 900, .inl ft))]) rfl dX8_next_69 (fun H locs V => ?_)
      refine lv_goto (tgt := 270) hx hb dX8_next_72 (by decide) ?_
      exact g_vret (Qr := (q_m_next T o w0 g1 g2 g3 g4 tp w6 be sz w9 w10 w11 w12 w13 w14 g15 w16 g17 w18 w19 g20 w21 g22 g23 g24 w25 w26 w27 g28 g29 w30 g31 g32 g33 ft)) hC V ⟨(Nat.le_of_ble_eq_true rfl), (Nat.le_of_ble_eq_true rfl)⟩ ⟨aq, aq, (nI 11), w10, rfl, rfl, (by first | assumption | omega | exact Or.inl rfl | exact Or.inr (by omega)), (by first | assumption | omega | exact Or.inl rfl | exact Or.inr (by omega)), (by first | assumption | omega | exact Or.inl rfl | exact Or.inr (by omega))⟩ dX8_next_270
  have L_89 : ∀ (fu : Nat) (aq : Nat), (be ≤ aq ∧ aq ≤ sz) → sz - aq < fu → ∀ (H : Heap) (locs : List Loc) (ls : Array Slot), gW D T A s [(o, .inr (8, [.int w0, .ref g1, .ref g2, .ref g3, .ref g4, .int (nI tp), .int (nI aq), .int (nI be), .int (nI sz), .int w9, .int w10, .int w11, .int w12, .int w13, .int w14, .ref g15, .int w16, .ref g17, .int w18, .int w19, .ref g20, .int w21, .ref g22, .ref g23, .ref g24, .int w25, .int w26, .int w27, .ref g28, .ref g29, .int w30, .ref g31, .ref g32, .ref g33])), (g3, .inl (T 0, 900, .inl ft))] H locs → lv_has ls 1 [(0, .ref o)] → W p l e (rmD 5 0 0) s m args below meth c H locs 0 0 (MQ below (gQ D A (q_m_next T o w0 g1 g2 g3 g4 tp w6 be sz w9 w10 w11 w12 w13 w14 g15 w16 g17 w18 w19 g20 w21 g22 g23 g24 w25 w26 w27 g28 g29 w30 g31 g32 g33 ft)) args s 0 0 A) (F0 m 8 ls []) := by
    intro fu_8
    induction fu_8 with
    | zero => intro aq haq hmu; exact absurd hmu (Nat.not_lt_zero _)
    | succ fu_8 ih_8 =>
      intro aq haq hmu_8 H locs ls V hl
      refine lv_aload_n hx hb dX8_next_8 rfl (lv_at hl 0 rfl) ?_
      refine lv_aload_n hx hb dX8_next_9 rfl (lv_at hl 0 rfl) ?_
      refine g_get hC V (ci := 8) uwX8 0 rfl rfl 6 (by decide) w_918 rfl rfl dX8_next_10 ?_
      refine g_callV (wr := []) (nA := 1) hC V hl.1 (m_see l D T o aq w0 g1 g2 g3 g4 tp (nI aq) (nI be) sz w9 w10 w11 w12 w13 w14 g15 w16 g17 w18 w19 g20 w21 g22 g23 g24 w25 w26 w27 g28 g29 w30 g31 g32 g33 ft (by first | assumption | omega) (by first | assumption | omega)) w_1030 w_1032 w_s37 w_9 w_1033 (by decide +kernel) rfl ⟨(Nat.le_of_ble_eq_true rfl), (Nat.le_of_ble_eq_true rfl)⟩ 0 (ci := 8) rfl rfl [0, 1] [] rfl rfl rfl rfl (by decide) (Nat.le_of_ble_eq_true rfl) dX8_next_13 ⟨(Nat.le_of_ble_eq_true rfl), (Nat.le_of_ble_eq_true rfl)⟩ rfl (fun r w1 H locs hQ V => ?_)
      rcases hQ with ⟨rfl, rfl, f_90⟩ | ⟨z_91, rfl, rfl, f_92, f_93⟩
      · have V : gW D T A s [(o, .inr (8, [.int w0, .ref g1, .ref g2, .ref g3, .ref g4, .int (nI tp), .int (nI aq), .int (nI be), .int (nI sz), .int w9, .int w10, .int w11, .int w12, .int w13, .int w14, .ref g15, .int w16, .ref g17, .int w18, .int w19, .ref g20, .int w21, .ref g22, .ref g23, .ref g24, .int w25, .int w26, .int w27, .ref g28, .ref g29, .int w30, .ref g31, .ref g32, .ref g33])), (g3, .inl (T 0, 900, .inl ft))] H locs := V
        show W p l e _ s m args below meth c H locs _ _ _ (F0 m 16 ls [.int (-1)])
        refine lv_bipush (v := (nI 10)) hx hb dX8_next_16 (by decide +kernel) ?_
        refine lv_icmp_eq (tgt := 34) hx hb dX8_next_18 (by decide) (fun c => absurd (show (-1 : Int32) = (nI 10) from c) (by decide +kernel)) (fun _ => ?_)
        refine lv_aload_n hx hb dX8_next_21 rfl (lv_at hl 0 rfl) ?_
        refine lv_aload_n hx hb dX8_next_22 rfl (lv_at hl 0 rfl) ?_
        refine g_get hC V (ci := 8) uwX8 0 rfl rfl 6 (by decide) w_918 rfl rfl dX8_next_23 ?_
        refine g_callV (wr := []) (nA := 1) hC V hl.1 (m_see l D T o aq w0 g1 g2 g3 g4 tp (nI aq) (nI be) sz w9 w10 w11 w12 w13 w14 g15 w16 g17 w18 w19 g20 w21 g22 g23 g24 w25 w26 w27 g28 g29 w30 g31 g32 g33 ft (by first | assumption | omega) (by first | assumption | omega)) w_1030 w_1032 w_s37 w_9 w_1033 (by decide +kernel) rfl ⟨(Nat.le_of_ble_eq_true rfl), (Nat.le_of_ble_eq_true rfl)⟩ 0 (ci := 8) rfl rfl [0, 1] [] rfl rfl rfl rfl (by decide) (Nat.le_of_ble_eq_true rfl) dX8_next_26 ⟨(Nat.le_of_ble_eq_true rfl), (Nat.le_of_ble_eq_true rfl)⟩ rfl (fun r w1 H locs hQ V => ?_)
        rcases hQ with ⟨rfl, rfl, f_94⟩ | ⟨z_95, rfl, rfl, f_96, f_97⟩
        · have V : gW D T A s [(o, .inr (8, [.int w0, .ref g1, .ref g2, .ref g3, .ref g4, .int (nI tp), .int (nI aq), .int (nI be), .int (nI sz), .int w9, .int w10, .int w11, .int w12, .int w13, .int w14, .ref g15, .int w16, .ref g17, .int w18, .int w19, .ref g20, .int w21, .ref g22, .ref g23, .ref g24, .int w25, .int w26, .int w27, .ref g28, .ref g29, .int w30, .ref g31, .ref g32, .ref g33])), (g3, .inl (T 0, 900, .inl ft))] H locs := V
          show W p l e _ s m args below meth c H locs _ _ _ (F0 m 29 ls [.int (-1)])
          refine lv_bipush (v := (nI 32)) hx hb dX8_next_29 (by decide +kernel) ?_
          refine lv_icmp_ne (tgt := 47) hx hb dX8_next_31 (by decide) (fun _ => ?_) (fun c => absurd (show (-1 : Int32) = (nI 32) from c) (by decide +kernel))
          exact J_47 aq (by omega) _ _ _ V (lv_sub hl [0] rfl)
        · have V : gW D T A s [(o, .inr (8, [.int w0, .ref g1, .ref g2, .ref g3, .ref g4, .int (nI tp), .int (nI aq), .int (nI be), .int (nI sz), .int w9, .int w10, .int w11, .int w12, .int w13, .int w14, .ref g15, .int w16, .ref g17, .int w18, .int w19, .ref g20, .int w21, .ref g22, .ref g23, .ref g24, .int w25, .int w26, .int w27, .ref g28, .ref g29, .int w30, .ref g31, .ref g32, .ref g33])), (g3, .inl (T 0, 900, .inl ft))] H locs := V
          show W p l e _ s m args below meth c H locs _ _ _ (F0 m 29 ls [.int z_95])
          refine lv_bipush (v := (nI 32)) hx hb dX8_next_29 (by decide +kernel) ?_
          refine lv_icmp_ne (tgt := 47) hx hb dX8_next_31 (by decide) (fun c_98 => ?_) (fun c_98 => ?_)
          · skip
            exact J_47 aq (by omega) _ _ _ V (lv_sub hl [0] rfl)
          · skip
            refine lv_aload_n hx hb dX8_next_34 rfl (lv_at hl 0 rfl) ?_
            refine lv_dup hx hb dX8_next_35 rfl ?_
            refine g_get hC V (ci := 8) uwX8 0 rfl rfl 6 (by decide) w_918 rfl rfl dX8_next_36 ?_
            refine lv_iconst (v := (nI 1)) hx hb dX8_next_39 (by decide +kernel) ?_
            refine lv_iadd hx hb dX8_next_40 ?_
            refine g_vi (y := (nI (aq + 1))) (nI_add _ _) ?_
            refine g_put hC V (ci := 8) uwX8 tyX8 tyX8_ok nmX8 0 rfl rfl 6 (by decide) w_918 rfl rfl rfl rfl (Nat.le_of_ble_eq_true rfl) (ws' := [(o, .inr (8, [.int w0, .ref g1, .ref g2, .ref g3, .ref g4, .int (nI tp), .int (nI (aq + 1)), .int (nI be), .int (nI sz), .int w9, .int w10, .int w11, .int w12, .int w13, .int w14, .ref g15, .int w16, .ref g17, .int w18, .int w19, .ref g20, .int w21, .ref g22, .ref g23, .ref g24, .int w25, .int w26, .int w27, .ref g28, .ref g29, .int w30, .ref g31, .ref g32, .ref g33])), (g3, .inl (T 0, 900, .inl ft))]) rfl dX8_next_41 (fun H locs V => ?_)
            refine lv_goto (tgt := 8) hx hb dX8_next_44 (by decide) ?_
            exact ih_8 (aq + 1) (by omega) (by omega) _ _ _ V (lv_sub hl [0] rfl)
      · have V : gW D T A s [(o, .inr (8, [.int w0, .ref g1, .ref g2, .ref g3, .ref g4, .int (nI tp), .int (nI aq), .int (nI be), .int (nI sz), .int w9, .int w10, .int w11, .int w12, .int w13, .int w14, .ref g15, .int w16, .ref g17, .int w18, .int w19, .ref g20, .int w21, .ref g22, .ref g23, .ref g24, .int w25, .int w26, .int w27, .ref g28, .ref g29, .int w30, .ref g31, .ref g32, .ref g33])), (g3, .inl (T 0, 900, .inl ft))] H locs := V
        show W p l e _ s m args below meth c H locs _ _ _ (F0 m 16 ls [.int z_91])
        refine lv_bipush (v := (nI 10)) hx hb dX8_next_16 (by decide +kernel) ?_
        refine lv_icmp_eq (tgt := 34) hx hb dX8_next_18 (by decide) (fun c_99 => ?_) (fun c_99 => ?_)
        · skip
          refine lv_aload_n hx hb dX8_next_34 rfl (lv_at hl 0 rfl) ?_
          refine lv_dup hx hb dX8_next_35 rfl ?_
          refine g_get hC V (ci := 8) uwX8 0 rfl rfl 6 (by decide) w_918 rfl rfl dX8_next_36 ?_
          refine lv_iconst (v := (nI 1)) hx hb dX8_next_39 (by decide +kernel) ?_
          refine lv_iadd hx hb dX8_next_40 ?_
          refine g_vi (y := (nI (aq + 1))) (nI_add _ _) ?_
          refine g_put hC V (ci := 8) uwX8 tyX8 tyX8_ok nmX8 0 rfl rfl 6 (by decide) w_918 rfl rfl rfl rfl (Nat.le_of_ble_eq_true rfl) (ws' := [(o, .inr (8, [.int w0, .ref g1, .ref g2, .ref g3, .ref g4, .int (nI tp), .int (nI (aq + 1)), .int (nI be), .int (nI sz), .int w9, .int w10, .int w11, .int w12, .int w13, .int w14, .ref g15, .int w16, .ref g17, .int w18, .int w19, .ref g20, .int w21, .ref g22, .ref g23, .ref g24, .int w25, .int w26, .int w27, .ref g28, .ref g29, .int w30, .ref g31, .ref g32, .ref g33])), (g3, .inl (T 0, 900, .inl ft))]) rfl dX8_next_41 (fun H locs V => ?_)
          refine lv_goto (tgt := 8) hx hb dX8_next_44 (by decide) ?_
          exact ih_8 (aq + 1) (by omega) (by omega) _ _ _ V (lv_sub hl [0] rfl)
        · skip
          refine lv_aload_n hx hb dX8_next_21 rfl (lv_at hl 0 rfl) ?_
          refine lv_aload_n hx hb dX8_next_22 rfl (lv_at hl 0 rfl) ?_
          refine g_get hC V (ci := 8) uwX8 0 rfl rfl 6 (by decide) w_918 rfl rfl dX8_next_23 ?_
          refine g_callV (wr := []) (nA := 1) hC V hl.1 (m_see l D T o aq w0 g1 g2 g3 g4 tp (nI aq) (nI be) sz w9 w10 w11 w12 w13 w14 g15 w16 g17 w18 w19 g20 w21 g22 g23 g24 w25 w26 w27 g28 g29 w30 g31 g32 g33 ft (by first | assumption | omega) (by first | assumption | omega)) w_1030 w_1032 w_s37 w_9 w_1033 (by decide +kernel) rfl ⟨(Nat.le_of_ble_eq_true rfl), (Nat.le_of_ble_eq_true rfl)⟩ 0 (ci := 8) rfl rfl [0, 1] [] rfl rfl rfl rfl (by decide) (Nat.le_of_ble_eq_true rfl) dX8_next_26 ⟨(Nat.le_of_ble_eq_true rfl), (Nat.le_of_ble_eq_true rfl)⟩ rfl (fun r w1 H locs hQ V => ?_)
          rcases hQ with ⟨rfl, rfl, f_100⟩ | ⟨z_101, rfl, rfl, f_102, f_103⟩
          · have V : gW D T A s [(o, .inr (8, [.int w0, .ref g1, .ref g2, .ref g3, .ref g4, .int (nI tp), .int (nI aq), .int (nI be), .int (nI sz), .int w9, .int w10, .int w11, .int w12, .int w13, .int w14, .ref g15, .int w16, .ref g17, .int w18, .int w19, .ref g20, .int w21, .ref g22, .ref g23, .ref g24, .int w25, .int w26, .int w27, .ref g28, .ref g29, .int w30, .ref g31, .ref g32, .ref g33])), (g3, .inl (T 0, 900, .inl ft))] H locs := V
            show W p l e _ s m args below meth c H locs _ _ _ (F0 m 29 ls [.int (-1)])
            refine lv_bipush (v := (nI 32)) hx hb dX8_next_29 (by decide +kernel) ?_
            refine lv_icmp_ne (tgt := 47) hx hb dX8_next_31 (by decide) (fun _ => ?_) (fun c => absurd (show (-1 : Int32) = (nI 32) from c) (by decide +kernel))
            exact J_47 aq (by omega) _ _ _ V (lv_sub hl [0] rfl)
          · have V : gW D T A s [(o, .inr (8, [.int w0, .ref g1, .ref g2, .ref g3, .ref g4, .int (nI tp), .int (nI aq), .int (nI be), .int (nI sz), .int w9, .int w10, .int w11, .int w12, .int w13, .int w14, .ref g15, .int w16, .ref g17, .int w18, .int w19, .ref g20, .int w21, .ref g22, .ref g23, .ref g24, .int w25, .int w26, .int w27, .ref g28, .ref g29, .int w30, .ref g31, .ref g32, .ref g33])), (g3, .inl (T 0, 900, .inl ft))] H locs := V
            show W p l e _ s m args below meth c H locs _ _ _ (F0 m 29 ls [.int z_101])
            refine lv_bipush (v := (nI 32)) hx hb dX8_next_29 (by decide +kernel) ?_
            refine lv_icmp_ne (tgt := 47) hx hb dX8_next_31 (by decide) (fun c_104 => ?_) (fun c_104 => ?_)
            · skip
              exact J_47 aq (by omega) _ _ _ V (lv_sub hl [0] rfl)
            · skip
              refine lv_aload_n hx hb dX8_next_34 rfl (lv_at hl 0 rfl) ?_
              refine lv_dup hx hb dX8_next_35 rfl ?_
              refine g_get hC V (ci := 8) uwX8 0 rfl rfl 6 (by decide) w_918 rfl rfl dX8_next_36 ?_
              refine lv_iconst (v := (nI 1)) hx hb dX8_next_39 (by decide +kernel) ?_
              refine lv_iadd hx hb dX8_next_40 ?_
              refine g_vi (y := (nI (aq + 1))) (nI_add _ _) ?_
              refine g_put hC V (ci := 8) uwX8 tyX8 tyX8_ok nmX8 0 rfl rfl 6 (by decide) w_918 rfl rfl rfl rfl (Nat.le_of_ble_eq_true rfl) (ws' := [(o, .inr (8, [.int w0, .ref g1, .ref g2, .ref g3, .ref g4, .int (nI tp), .int (nI (aq + 1)), .int (nI be), .int (nI sz), .int w9, .int w10, .int w11, .int w12, .int w13, .int w14, .ref g15, .int w16, .ref g17, .int w18, .int w19, .ref g20, .int w21, .ref g22, .ref g23, .ref g24, .int w25, .int w26, .int w27, .ref g28, .ref g29, .int w30, .ref g31, .ref g32, .ref g33])), (g3, .inl (T 0, 900, .inl ft))]) rfl dX8_next_41 (fun H locs V => ?_)
              refine lv_goto (tgt := 8) hx hb dX8_next_44 (by decide) ?_
              exact ih_8 (aq + 1) (by omega) (by omega) _ _ _ V (lv_sub hl [0] rfl)
  exact L_89 _ be (by omega) (Nat.lt_succ_self _) _ _ _ V (lv_sub hl [0] rfl)
