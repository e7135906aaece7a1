def q_m_withinL_f (T : Nat → ClassId) (v : Int64) (lo : Int64) (hi : Int64) : Option Value → va_W → Prop := fun rr ww => (rr = some (.int (nI 1)) ∧ ww = [] ∧ ¬ (v < lo ∨ hi < v)) ∨ (rr = some (.int (nI 0)) ∧ ww = [] ∧ (v < lo ∨ hi < v))
set_option maxHeartbeats 4000000 in
set_option maxRecDepth 100000 in
theorem m_withinL_f (l : Launch) (D : va_G) (T : Nat → ClassId) (v : Int64) (lo : Int64) (hi : Int64) : Ct l yX8_within cX8_within 6 (some .boolean) 0 0 0 D T [.long v, .long lo, .long hi] [] (q_m_withinL_f T v lo hi) := by
  refine Ct.of (cc := cX8_within) (maxL := 6) (ret := (some .boolean)) (by decide) (Nat.le_of_ble_eq_true rfl) ?_
  intro p e s m args below meth c A ls hC hnm V hl
  obtain ⟨hx, hb, hr, hml, hown, hts, hlocks⟩ := id hC
  generalize hH : s.heap = H at V ⊢
  clear hH
  have hl : lv_has ls 6 [(0, .long v), (2, .long lo), (4, .long hi)] := hl
  generalize hlo : ([] : List Loc) = locs at V ⊢
  clear hlo
  refine lv_lload_n hx hb dX8_within_0 rfl (lv_at hl 0 rfl) ?_
  refine lv_lload_n hx hb dX8_within_1 rfl (lv_at hl 1 rfl) ?_
  refine W.lcmp hx hb dX8_within_2 ?_
  refine lv_if_lt (tgt := 17) hx hb dX8_within_3 (by decide) (fun c_1 => ?_) (fun c_1 => ?_)
  · skip
    have c_1 := (lg_cmp_lt _ _).mp c_1
    refine lv_iconst (v := (nI 0)) hx hb dX8_within_17 (by decide +kernel) ?_
    exact g_zret (Qr := (q_m_withinL_f T v lo hi)) hC V ⟨(Nat.le_of_ble_eq_true rfl), (Nat.le_of_ble_eq_true rfl)⟩ (by first | decide +kernel | exact rfl) (.inr ⟨rfl, rfl, (by first | exact Or.inl (by assumption) | exact Or.inr (by assumption))⟩) dX8_within_18
  · skip
    have c_1 := fun h => c_1 ((lg_cmp_lt _ _).mpr h)
    refine lv_lload_n hx hb dX8_within_6 rfl (lv_at hl 0 rfl) ?_
    refine lv_lload hx hb dX8_within_7 (lv_at hl 2 rfl) ?_
    refine W.lcmp hx hb dX8_within_9 ?_
    refine lv_if_gt (tgt := 17) hx hb dX8_within_10 (by decide) (fun c_2 => ?_) (fun c_2 => ?_)
    · skip
      have c_2 := (lg_cmp_gt _ _).mp c_2
      refine lv_iconst (v := (nI 0)) hx hb dX8_within_17 (by decide +kernel) ?_
      exact g_zret (Qr := (q_m_withinL_f T v lo hi)) hC V ⟨(Nat.le_of_ble_eq_true rfl), (Nat.le_of_ble_eq_true rfl)⟩ (by first | decide +kernel | exact rfl) (.inr ⟨rfl, rfl, (by first | exact Or.inl (by assumption) | exact Or.inr (by assumption))⟩) dX8_within_18
    · skip
      have c_2 := fun h => c_2 ((lg_cmp_gt _ _).mpr h)
      refine lv_iconst (v := (nI 1)) hx hb dX8_within_13 (by decide +kernel) ?_
      refine lv_goto (tgt := 18) hx hb dX8_within_14 (by decide) ?_
      exact g_zret (Qr := (q_m_withinL_f T v lo hi)) hC V ⟨(Nat.le_of_ble_eq_true rfl), (Nat.le_of_ble_eq_true rfl)⟩ (by first | decide +kernel | exact rfl) (.inl ⟨rfl, rfl, (fun q => q.elim (by assumption) (by assumption))⟩) dX8_within_18

def q_m_isSetL_f (T : Nat → ClassId) (n : Nat) (o : Nat) (v : Int64) (w0 : Int32) (g1 : Nat) (g2 : Nat) (g3 : Nat) (g4 : Nat) (tp : Nat) (w6 : Int32) (w7 : Int32) (w8 : Int32) (w9 : Int32) (w10 : Int32) (w11 : Int32) (w12 : Int32) (w13 : Int32) (w14 : Int32) (g15 : Nat) (w16 : Int32) (g17 : Nat) (w18 : Int32) (w19 : Int32) (g20 : Nat) (w21 : Int32) (g22 : Nat) (g23 : Nat) (g24 : Nat) (w25 : Int32) (w26 : Int32) (w27 : Int32) (g28 : Nat) (g29 : Nat) (w30 : Int32) (g31 : Nat) (g32 : Nat) (g33 : Nat) (fa : Nat → Int32) : Option Value → va_W → Prop := fun rr ww => (rr = some (.int (nI 1)) ∧ ww = [(o, .inr (8, [.int w0, .ref g1, .ref g2, .ref g3, .ref g4, .int (nI tp), .int w6, .int w7, .int w8, .int w9, .int w10, .int w11, .int w12, .int w13, .int w14, .ref g15, .int w16, .ref g17, .int w18, .int w19, .ref g20, .int w21, .ref g22, .ref g23, .ref g24, .int w25, .int w26, .int w27, .ref g28, .ref g29, .int w30, .ref g31, .ref g32, .ref g33])), (g1, .inl (T 0, 282, .inl fa))] ∧ setL n v) ∨ (rr = some (.int (nI 0)) ∧ ww = [(o, .inr (8, [.int w0, .ref g1, .ref g2, .ref g3, .ref g4, .int (nI tp), .int w6, .int w7, .int w8, .int w9, .int w10, .int w11, .int w12, .int w13, .int w14, .ref g15, .int w16, .ref g17, .int w18, .int w19, .ref g20, .int w21, .ref g22, .ref g23, .ref g24, .int w25, .int w26, .int w27, .ref g28, .ref g29, .int w30, .ref g31, .ref g32, .ref g33])), (g1, .inl (T 0, 282, .inl fa))] ∧ ¬ setL n v)
set_option maxHeartbeats 4000000 in
set_option maxRecDepth 100000 in
theorem m_isSetL_f (l : Launch) (D : va_G) (T : Nat → ClassId) (n : Nat) (o : Nat) (v : Int64) (w0 : Int32) (g1 : Nat) (g2 : Nat) (g3 : Nat) (g4 : Nat) (tp : Nat) (w6 : Int32) (w7 : Int32) (w8 : Int32) (w9 : Int32) (w10 : Int32) (w11 : Int32) (w12 : Int32) (w13 : Int32) (w14 : Int32) (g15 : Nat) (w16 : Int32) (g17 : Nat) (w18 : Int32) (w19 : Int32) (g20 : Nat) (w21 : Int32) (g22 : Nat) (g23 : Nat) (g24 : Nat) (w25 : Int32) (w26 : Int32) (w27 : Int32) (g28 : Nat) (g29 : Nat) (w30 : Int32) (g31 : Nat) (g32 : Nat) (g33 : Nat) (fa : Nat → Int32) (h_a : MI n fa) : Ct l yX8_isSet cX8_isSet 3 (some .boolean) 1 0 0 D T [.ref o, .long v] [(o, .inr (8, [.int w0, .ref g1, .ref g2, .ref g3, .ref g4, .int (nI tp), .int w6, .int w7, .int w8, .int w9, .int w10, .int w11, .int w12, .int w13, .int w14, .ref g15, .int w16, .ref g17, .int w18, .int w19, .ref g20, .int w21, .ref g22, .ref g23, .ref g24, .int w25, .int w26, .int w27, .ref g28, .ref g29, .int w30, .ref g31, .ref g32, .ref g33])), (g1, .inl (T 0, 282, .inl fa))] (q_m_isSetL_f T n o v w0 g1 g2 g3 g4 tp w6 w7 w8 w9 w10 w11 w12 w13 w14 g15 w16 g17 w18 w19 g20 w21 g22 g23 g24 w25 w26 w27 g28 g29 w30 g31 g32 g33 fa) := by
  refine Ct.of (cc := cX8_isSet) (maxL := 3) (ret := (some .boolean)) (by decide) (Nat.le_of_ble_eq_true rfl) ?_
  intro p e s m args below meth c A ls hC hnm V hl
  obtain ⟨hx, hb, hr, hml, hown, hts, hlocks⟩ := id hC
  generalize hH : s.heap = H at V ⊢
  clear hH
  have hl : lv_has ls 3 [(0, .ref o), (1, .long v)] := hl
  generalize hlo : ([] : List Loc) = locs at V ⊢
  clear hlo
  have ms0 := ms_rf h_a
  have hn10 := h_a.1
  refine lv_lload_n hx hb dX8_isSet_0 rfl (lv_at hl 1 rfl) ?_
  refine lv_lconst (v := (nI 0).toInt64) hx hb dX8_isSet_1 (by decide +kernel) ?_
  refine lv_lconst (v := (nI 1).toInt64) hx hb dX8_isSet_2 (by decide +kernel) ?_
  refine lv_aload_n hx hb dX8_isSet_3 rfl (lv_at hl 0 rfl) ?_
  refine g_get hC V (ci := 8) uwX8 0 rfl rfl 1 (by decide) w_913 rfl rfl dX8_isSet_4 ?_
  refine lv_iconst (v := (nI 0)) hx hb dX8_isSet_7 (by decide +kernel) ?_
  refine g_iald hC V 1 rfl (vp_in_nI (by decide) (by decide)) (v := (nI n)) (by rw [nI_clamp (by decide)]; first | rfl | exact h_a.2.1) dX8_isSet_8 ?_
  refine lv_lshl hx hb dX8_isSet_9 rfl ?_
  refine lv_lconst (v := (nI 1).toInt64) hx hb dX8_isSet_10 (by decide +kernel) ?_
  refine lv_lsub hx hb dX8_isSet_11 ?_
  refine g_vl (y := (nI (2 ^ n - 1)).toInt64) (set_m1 (by omega)) ?_
  refine g_callSU (nA := 3) hC V hl.1 (m_withinL_f l D T v ((nI 0).toInt64) ((nI (2 ^ n - 1)).toInt64)) w_1023 w_1024 w_9 w_1025 (by decide +kernel) rfl ⟨(Nat.le_of_ble_eq_true rfl), (Nat.le_of_ble_eq_true rfl)⟩ [] rfl rfl (Nat.le_of_ble_eq_true rfl) dX8_isSet_12 ⟨(Nat.le_of_ble_eq_true rfl), (Nat.le_of_ble_eq_true rfl)⟩ rfl (fun r w1 H locs hQ V => ?_)
  rcases hQ with ⟨rfl, rfl, f_1⟩ | ⟨rfl, rfl, f_2⟩
  · have V : gW D T A s [(o, .inr (8, [.int w0, .ref g1, .ref g2, .ref g3, .ref g4, .int (nI tp), .int w6, .int w7, .int w8, .int w9, .int w10, .int w11, .int w12, .int w13, .int w14, .ref g15, .int w16, .ref g17, .int w18, .int w19, .ref g20, .int w21, .ref g22, .ref g23, .ref g24, .int w25, .int w26, .int w27, .ref g28, .ref g29, .int w30, .ref g31, .ref g32, .ref g33])), (g1, .inl (T 0, 282, .inl fa))] H locs := V _ [] rfl rfl rfl (by decide +kernel) rfl
    show W p l e _ s m args below meth c H locs _ _ _ (F0 m 15 ls [.int (nI 1)])
    exact g_zret (Qr := (q_m_isSetL_f T n o v w0 g1 g2 g3 g4 tp w6 w7 w8 w9 w10 w11 w12 w13 w14 g15 w16 g17 w18 w19 g20 w21 g22 g23 g24 w25 w26 w27 g28 g29 w30 g31 g32 g33 fa)) hC V ⟨(Nat.le_of_ble_eq_true rfl), (Nat.le_of_ble_eq_true rfl)⟩ (by first | decide +kernel | exact rfl) (.inl ⟨rfl, rfl, f_1⟩) dX8_isSet_15
  · have V : gW D T A s [(o, .inr (8, [.int w0, .ref g1, .ref g2, .ref g3, .ref g4, .int (nI tp), .int w6, .int w7, .int w8, .int w9, .int w10, .int w11, .int w12, .int w13, .int w14, .ref g15, .int w16, .ref g17, .int w18, .int w19, .ref g20, .int w21, .ref g22, .ref g23, .ref g24, .int w25, .int w26, .int w27, .ref g28, .ref g29, .int w30, .ref g31, .ref g32, .ref g33])), (g1, .inl (T 0, 282, .inl fa))] H locs := V _ [] rfl rfl rfl (by decide +kernel) rfl
    show W p l e _ s m args below meth c H locs _ _ _ (F0 m 15 ls [.int (nI 0)])
    exact g_zret (Qr := (q_m_isSetL_f T n o v w0 g1 g2 g3 g4 tp w6 w7 w8 w9 w10 w11 w12 w13 w14 g15 w16 g17 w18 w19 g20 w21 g22 g23 g24 w25 w26 w27 g28 g29 w30 g31 g32 g33 fa)) hC V ⟨(Nat.le_of_ble_eq_true rfl), (Nat.le_of_ble_eq_true rfl)⟩ (by first | decide +kernel | exact rfl) (.inr ⟨rfl, rfl, (fun h => h f_2)⟩) dX8_isSet_15

def q_m_whyNot_f (T : Nat → ClassId) (mz : Nat) (n : Nat) (o : Nat) (r : Nat) (k : Nat) (w0 : Int32) (g1 : Nat) (g2 : Nat) (g3 : Nat) (g4 : Nat) (tp : Nat) (w6 : Int32) (w7 : Int32) (w8 : Int32) (w9 : Int32) (w10 : Int32) (w11 : Int32) (w12 : Int32) (w13 : Int32) (w14 : Int32) (g15 : Nat) (w16 : Int32) (g17 : Nat) (w18 : Int32) (w19 : Int32) (g20 : Nat) (w21 : Int32) (g22 : Nat) (g23 : Nat) (g24 : Nat) (w25 : Int32) (w26 : Int32) (w27 : Int32) (g28 : Nat) (g29 : Nat) (w30 : Int32) (g31 : Nat) (g32 : Nat) (g33 : Nat) (fa : Nat → Int32) (fm : Nat → Int32) (fn : Nat → Int64) : Option Value → va_W → Prop := fun rr ww => (rr = some (.int (nI 0)) ∧ ww = [(o, .inr (8, [.int w0, .ref g1, .ref g2, .ref g3, .ref g4, .int (nI tp), .int w6, .int w7, .int w8, .int w9, .int w10, .int w11, .int w12, .int w13, .int w14, .ref g15, .int w16, .ref g17, .int w18, .int w19, .ref g20, .int w21, .ref g22, .ref g23, .ref g24, .int w25, .int w26, .int w27, .ref g28, .ref g29, .int w30, .ref g31, .ref g32, .ref g33])), (g1, .inl (T 0, 282, .inl fa)), (g32, .inl (T 0, 4, .inl fm)), (g33, .inl (T 1, 160, .inr (.inl fn)))] ∧ k + 1 < mz ∧ nI 0 = whL n fa (fun i => fn (40 * r + i)) mz k) ∨ (∃ (z : Int32), rr = some (.int z) ∧ ww = [(o, .inr (8, [.int w0, .ref g1, .ref g2, .ref g3, .ref g4, .int (nI tp), .int w6, .int w7, .int w8, .int w9, .int w10, .int w11, .int w12, .int w13, .int w14, .ref g15, .int w16, .ref g17, .int w18, .int w19, .ref g20, .int w21, .ref g22, .ref g23, .ref g24, .int w25, .int w26, .int w27, .ref g28, .ref g29, .int w30, .ref g31, .ref g32, .ref g33])), (g1, .inl (T 0, 282, .inl fa)), (g32, .inl (T 0, 4, .inl fm)), (g33, .inl (T 1, 160, .inr (.inl fn)))] ∧ ¬ z = 0 ∧ z = whL n fa (fun i => fn (40 * r + i)) mz k)
set_option maxHeartbeats 4000000 in
set_option maxRecDepth 100000 in
theorem m_whyNot_f (l : Launch) (D : va_G) (T : Nat → ClassId) (mz : Nat) (n : Nat) (o : Nat) (r : Nat) (k : Nat) (w0 : Int32) (g1 : Nat) (g2 : Nat) (g3 : Nat) (g4 : Nat) (tp : Nat) (w6 : Int32) (w7 : Int32) (w8 : Int32) (w9 : Int32) (w10 : Int32) (w11 : Int32) (w12 : Int32) (w13 : Int32) (w14 : Int32) (g15 : Nat) (w16 : Int32) (g17 : Nat) (w18 : Int32) (w19 : Int32) (g20 : Nat) (w21 : Int32) (g22 : Nat) (g23 : Nat) (g24 : Nat) (w25 : Int32) (w26 : Int32) (w27 : Int32) (g28 : Nat) (g29 : Nat) (w30 : Int32) (g31 : Nat) (g32 : Nat) (g33 : Nat) (fa : Nat → Int32) (fm : Nat → Int32) (fn : Nat → Int64) (h_a : MI n fa) (h_r : r < 4) (h_mz : fm r = nI mz) (h_m4 : mz ≤ 40) (h_k : k < mz) : Ct l yX8_whyNot cX8_whyNot 7 (some .int) 2 0 0 D T [.ref o, .int (nI r), .int (nI k)] [(o, .inr (8, [.int w0, .ref g1, .ref g2, .ref g3, .ref g4, .int (nI tp), .int w6, .int w7, .int w8, .int w9, .int w10, .int w11, .int w12, .int w13, .int w14, .ref g15, .int w16, .ref g17, .int w18, .int w19, .ref g20, .int w21, .ref g22, .ref g23, .ref g24, .int w25, .int w26, .int w27, .ref g28, .ref g29, .int w30, .ref g31, .ref g32, .ref g33])), (g1, .inl (T 0, 282, .inl fa)), (g32, .inl (T 0, 4, .inl fm)), (g33, .inl (T 1, 160, .inr (.inl fn)))] (q_m_whyNot_f T mz n o r k w0 g1 g2 g3 g4 tp w6 w7 w8 w9 w10 w11 w12 w13 w14 g15 w16 g17 w18 w19 g20 w21 g22 g23 g24 w25 w26 w27 g28 g29 w30 g31 g32 g33 fa fm fn) := by
  refine Ct.of (cc := cX8_whyNot) (maxL := 7) (ret := (some .int)) (by decide) (Nat.le_of_ble_eq_true rfl) ?_
  intro p e s m args below meth c A ls hC hnm V hl
  obtain ⟨hx, hb, hr, hml, hown, hts, hlocks⟩ := id hC
  generalize hH : s.heap = H at V ⊢
  clear hH
  have hl : lv_has ls 7 [(0, .ref o), (1, .int (nI r)), (2, .int (nI k))] := hl
  generalize hlo : ([] : List Loc) = locs at V ⊢
  clear hlo
  have ms0 := ms_rf h_a
  have hn10 := h_a.1
  refine lv_aload_n hx hb dX8_whyNot_0 rfl (lv_at hl 0 rfl) ?_
  refine g_get hC V (ci := 8) uwX8 0 rfl rfl 33 (by decide) w_945 rfl rfl dX8_whyNot_1 ?_
  refine lv_bipush (v := (nI 40)) hx hb dX8_whyNot_4 (by decide +kernel) ?_
  refine lv_iload_n hx hb dX8_whyNot_6 rfl (lv_at hl 1 rfl) ?_
  refine lv_imul hx hb dX8_whyNot_7 ?_
  refine g_vi (y := (nI (40 * r))) (pk_mul _ _) ?_
  refine lv_iload_n hx hb dX8_whyNot_8 rfl (lv_at hl 2 rfl) ?_
  refine lv_iadd hx hb dX8_whyNot_9 ?_
  refine g_vi (y := (nI ((40 * r) + k))) (nI_add _ _) ?_
  refine g_lald hC V 3 rfl (vp_in_nI (by omega) (by omega)) (v := (fn ((40 * r) + k))) (congrArg _ (nI_clamp (by omega))) dX8_whyNot_10 ?_
  refine lv_lstore_n (lv' := [(3, .long (fn ((40 * r) + k))), (0, .ref o), (1, .int (nI r)), (2, .int (nI k))]) hx hb dX8_whyNot_11 rfl hl (by decide) rfl (fun ls hl => ?_)
  refine lv_aload_n hx hb dX8_whyNot_12 rfl (lv_at hl 1 rfl) ?_
  refine lv_lload_n hx hb dX8_whyNot_13 rfl (lv_at hl 0 rfl) ?_
  refine g_callVU (nA := 1) hC V hl.1 (m_isSetL_f l D T n o (fn ((40 * r) + k)) w0 g1 g2 g3 g4 tp w6 w7 w8 w9 w10 w11 w12 w13 w14 g15 w16 g17 w18 w19 g20 w21 g22 g23 g24 w25 w26 w27 g28 g29 w30 g31 g32 g33 fa h_a) w_1118 w_1120 w_s49 w_9 w_1121 (by decide +kernel) rfl ⟨(Nat.le_of_ble_eq_true rfl), (Nat.le_of_ble_eq_true rfl)⟩ 0 (ci := 8) rfl rfl [0, 1] rfl rfl (Nat.le_of_ble_eq_true rfl) dX8_whyNot_14 ⟨(Nat.le_of_ble_eq_true rfl), (Nat.le_of_ble_eq_true rfl)⟩ rfl (fun r w1 H locs hQ V => ?_)
  rcases hQ with ⟨rfl, rfl, f_1⟩ | ⟨rfl, rfl, f_2⟩
  · have V : gW D T A s [(o, .inr (8, [.int w0, .ref g1, .ref g2, .ref g3, .ref g4, .int (nI tp), .int w6, .int w7, .int w8, .int w9, .int w10, .int w11, .int w12, .int w13, .int w14, .ref g15, .int w16, .ref g17, .int w18, .int w19, .ref g20, .int w21, .ref g22, .ref g23, .ref g24, .int w25, .int w26, .int w27, .ref g28, .ref g29, .int w30, .ref g31, .ref g32, .ref g33])), (g1, .inl (T 0, 282, .inl fa)), (g32, .inl (T 0, 4, .inl fm)), (g33, .inl (T 1, 160, .inr (.inl fn)))] H locs := V _ [0, 0] rfl rfl rfl (by decide +kernel) rfl
    show W p l e _ s m args below meth c H locs _ _ _ (F0 m 17 ls [.int (nI 1)])
    refine lv_if_ne (tgt := 22) hx hb dX8_whyNot_17 (by decide) (fun _ => ?_) (fun c => absurd (show (nI 1) = 0 from c) (by decide +kernel))
    refine lv_iload_n hx hb dX8_whyNot_22 rfl (lv_at hl 3 rfl) ?_
    refine lv_iconst (v := (nI 1)) hx hb dX8_whyNot_23 (by decide +kernel) ?_
    refine lv_iadd hx hb dX8_whyNot_24 ?_
    refine g_vi (y := (nI (k + 1))) (nI_add _ _) ?_
    refine lv_aload_n hx hb dX8_whyNot_25 rfl (lv_at hl 1 rfl) ?_
    refine g_get hC V (ci := 8) uwX8 0 rfl rfl 32 (by decide) w_944 rfl rfl dX8_whyNot_26 ?_
    refine lv_iload_n hx hb dX8_whyNot_29 rfl (lv_at hl 2 rfl) ?_
    refine g_iald hC V 2 rfl (vp_in_nI (by omega) (by omega)) (v := (nI mz)) (by rw [nI_clamp (by omega)]; exact h_mz) dX8_whyNot_30 ?_
    refine lv_icmp_ne (tgt := 36) hx hb dX8_whyNot_31 (by decide) (fun c_3 => ?_) (fun c_3 => ?_)
    · skip
      have c_3 := b_ne (by omega) (by omega) c_3
      refine lv_aload_n hx hb dX8_whyNot_36 rfl (lv_at hl 1 rfl) ?_
      refine g_get hC V (ci := 8) uwX8 0 rfl rfl 33 (by decide) w_945 rfl rfl dX8_whyNot_37 ?_
      refine lv_bipush (v := (nI 40)) hx hb dX8_whyNot_40 (by decide +kernel) ?_
      refine lv_iload_n hx hb dX8_whyNot_42 rfl (lv_at hl 2 rfl) ?_
      refine lv_imul hx hb dX8_whyNot_43 ?_
      refine g_vi (y := (nI (40 * r))) (pk_mul _ _) ?_
      refine lv_iload_n hx hb dX8_whyNot_44 rfl (lv_at hl 3 rfl) ?_
      refine lv_iadd hx hb dX8_whyNot_45 ?_
      refine g_vi (y := (nI ((40 * r) + k))) (nI_add _ _) ?_
      refine lv_iconst (v := (nI 1)) hx hb dX8_whyNot_46 (by decide +kernel) ?_
      refine lv_iadd hx hb dX8_whyNot_47 ?_
      refine g_vi (y := (nI (((40 * r) + k) + 1))) (nI_add _ _) ?_
      refine g_lald hC V 3 rfl (vp_in_nI (by omega) (by omega)) (v := (fn (((40 * r) + k) + 1))) (congrArg _ (nI_clamp (by omega))) dX8_whyNot_48 ?_
      refine lv_lstore (lv' := [(5, .long (fn (((40 * r) + k) + 1))), (3, .long (fn ((40 * r) + k))), (0, .ref o), (1, .int (nI r)), (2, .int (nI k))]) hx hb dX8_whyNot_49 hl (by decide) rfl (fun ls hl => ?_)
      refine lv_aload_n hx hb dX8_whyNot_51 rfl (lv_at hl 2 rfl) ?_
      refine lv_lload hx hb dX8_whyNot_52 (lv_at hl 0 rfl) ?_
      refine g_callVU (nA := 1) hC V hl.1 (m_isSetL_f l D T n o (fn (((40 * r) + k) + 1)) w0 g1 g2 g3 g4 tp w6 w7 w8 w9 w10 w11 w12 w13 w14 g15 w16 g17 w18 w19 g20 w21 g22 g23 g24 w25 w26 w27 g28 g29 w30 g31 g32 g33 fa h_a) w_1118 w_1120 w_s49 w_9 w_1121 (by decide +kernel) rfl ⟨(Nat.le_of_ble_eq_true rfl), (Nat.le_of_ble_eq_true rfl)⟩ 0 (ci := 8) rfl rfl [0, 1] rfl rfl (Nat.le_of_ble_eq_true rfl) dX8_whyNot_54 ⟨(Nat.le_of_ble_eq_true rfl), (Nat.le_of_ble_eq_true rfl)⟩ rfl (fun r w1 H locs hQ V => ?_)
      rcases hQ with ⟨rfl, rfl, f_4⟩ | ⟨rfl, rfl, f_5⟩
      · have V : gW D T A s [(o, .inr (8, [.int w0, .ref g1, .ref g2, .ref g3, .ref g4, .int (nI tp), .int w6, .int w7, .int w8, .int w9, .int w10, .int w11, .int w12, .int w13, .int w14, .ref g15, .int w16, .ref g17, .int w18, .int w19, .ref g20, .int w21, .ref g22, .ref g23, .ref g24, .int w25, .int w26, .int w27, .ref g28, .ref g29, .int w30, .ref g31, .ref g32, .ref g33])), (g1, .inl (T 0, 282, .inl fa)), (g32, .inl (T 0, 4, .inl fm)), (g33, .inl (T 1, 160, .inr (.inl fn)))] H locs := V _ [0, 0] rfl rfl rfl (by decide +kernel) rfl
        show W p l e _ s m args below meth c H locs _ _ _ (F0 m 57 ls [.int (nI 1)])
        refine lv_if_ne (tgt := 62) hx hb dX8_whyNot_57 (by decide) (fun _ => ?_) (fun c => absurd (show (nI 1) = 0 from c) (by decide +kernel))
        refine lv_lload_n hx hb dX8_whyNot_62 rfl (lv_at hl 1 rfl) ?_
        refine lv_lload hx hb dX8_whyNot_63 (lv_at hl 0 rfl) ?_
        refine lv_land hx hb dX8_whyNot_65 ?_
        refine lv_lconst (v := (nI 0).toInt64) hx hb dX8_whyNot_66 (by decide +kernel) ?_
        refine W.lcmp hx hb dX8_whyNot_67 ?_
        refine lv_if_eq (tgt := 75) hx hb dX8_whyNot_68 (by decide) (fun c_6 => ?_) (fun c_6 => ?_)
        · skip
          refine lv_aload_n hx hb dX8_whyNot_75 rfl (lv_at hl 2 rfl) ?_
          refine g_get hC V (ci := 8) uwX8 0 rfl rfl 1 (by decide) w_913 rfl rfl dX8_whyNot_76 ?_
          refine lv_iconst (v := (nI 1)) hx hb dX8_whyNot_79 (by decide +kernel) ?_
          refine g_iald hC V 1 rfl (vp_in_nI (by decide) (by decide)) (v := (fa 1)) (congrArg _ (nI_clamp (by decide))) dX8_whyNot_80 ?_
          refine lv_sipush (v := (nI 9999)) hx hb dX8_whyNot_81 (by decide +kernel) ?_
          refine lv_icmp_ne (tgt := 91) hx hb dX8_whyNot_84 (by decide) (fun c_7 => ?_) (fun c_7 => ?_)
          · skip
            refine lv_iconst (v := (nI 0)) hx hb dX8_whyNot_91 (by decide +kernel) ?_
            exact g_iret (Qr := (q_m_whyNot_f T mz n o r k w0 g1 g2 g3 g4 tp w6 w7 w8 w9 w10 w11 w12 w13 w14 g15 w16 g17 w18 w19 g20 w21 g22 g23 g24 w25 w26 w27 g28 g29 w30 g31 g32 g33 fa fm fn)) hC V ⟨(Nat.le_of_ble_eq_true rfl), (Nat.le_of_ble_eq_true rfl)⟩ (.inl ⟨rfl, rfl, (by omega), (wl_0 (R := (fun i => fn (40 * r + i))) rfl f_1 (by omega) rfl f_4 ((lg_cmp_eq _ _).mp c_6) c_7)⟩) dX8_whyNot_92
          · skip
            refine lv_iconst (v := (nI 4)) hx hb dX8_whyNot_87 (by decide +kernel) ?_
            refine lv_goto (tgt := 92) hx hb dX8_whyNot_88 (by decide) ?_
            exact g_iret (Qr := (q_m_whyNot_f T mz n o r k w0 g1 g2 g3 g4 tp w6 w7 w8 w9 w10 w11 w12 w13 w14 g15 w16 g17 w18 w19 g20 w21 g22 g23 g24 w25 w26 w27 g28 g29 w30 g31 g32 g33 fa fm fn)) hC V ⟨(Nat.le_of_ble_eq_true rfl), (Nat.le_of_ble_eq_true rfl)⟩ (.inr ⟨(nI 4), rfl, rfl, (by decide +kernel), (wl_4 (R := (fun i => fn (40 * r + i))) rfl f_1 (by omega) rfl f_4 ((lg_cmp_eq _ _).mp c_6) c_7)⟩) dX8_whyNot_92
        · skip
          refine lv_iconst (v := (nI 2)) hx hb dX8_whyNot_71 (by decide +kernel) ?_
          refine lv_goto (tgt := 92) hx hb dX8_whyNot_72 (by decide) ?_
          exact g_iret (Qr := (q_m_whyNot_f T mz n o r k w0 g1 g2 g3 g4 tp w6 w7 w8 w9 w10 w11 w12 w13 w14 g15 w16 g17 w18 w19 g20 w21 g22 g23 g24 w25 w26 w27 g28 g29 w30 g31 g32 g33 fa fm fn)) hC V ⟨(Nat.le_of_ble_eq_true rfl), (Nat.le_of_ble_eq_true rfl)⟩ (.inr ⟨(nI 2), rfl, rfl, (by decide +kernel), (wl_2 (R := (fun i => fn (40 * r + i))) rfl f_1 (by omega) rfl f_4 (fun q => c_6 ((lg_cmp_eq _ _).mpr q)))⟩) dX8_whyNot_92
      · have V : gW D T A s [(o, .inr (8, [.int w0, .ref g1, .ref g2, .ref g3, .ref g4, .int (nI tp), .int w6, .int w7, .int w8, .int w9, .int w10, .int w11, .int w12, .int w13, .int w14, .ref g15, .int w16, .ref g17, .int w18, .int w19, .ref g20, .int w21, .ref g22, .ref g23, .ref g24, .int w25, .int w26, .int w27, .ref g28, .ref g29, .int w30, .ref g31, .ref g32, .ref g33])), (g1, .inl (T 0, 282, .inl fa)), (g32, .inl (T 0, 4, .inl fm)), (g33, .inl (T 1, 160, .inr (.inl fn)))] H locs := V _ [0, 0] rfl rfl rfl (by decide +kernel) rfl
        show W p l e _ s m args below meth c H locs _ _ _ (F0 m 57 ls [.int (nI 0)])
        refine lv_if_ne (tgt := 62) hx hb dX8_whyNot_57 (by decide) (fun c => absurd (show (nI 0) = 0 by decide +kernel) c) (fun _ => ?_)
        refine lv_iconst (v := (nI 1)) hx hb dX8_whyNot_60 (by decide +kernel) ?_
        exact g_iret (Qr := (q_m_whyNot_f T mz n o r k w0 g1 g2 g3 g4 tp w6 w7 w8 w9 w10 w11 w12 w13 w14 g15 w16 g17 w18 w19 g20 w21 g22 g23 g24 w25 w26 w27 g28 g29 w30 g31 g32 g33 fa fm fn)) hC V ⟨(Nat.le_of_ble_eq_true rfl), (Nat.le_of_ble_eq_true rfl)⟩ (.inr ⟨(nI 1), rfl, rfl, (by decide +kernel), (wl_1b (R := (fun i => fn (40 * r + i))) rfl f_1 (by omega) rfl f_5)⟩) dX8_whyNot_61
    · skip
      have c_3 := b_eq (by omega) (by omega) c_3
      refine lv_iconst (v := (nI 3)) hx hb dX8_whyNot_34 (by decide +kernel) ?_
      exact g_iret (Qr := (q_m_whyNot_f T mz n o r k w0 g1 g2 g3 g4 tp w6 w7 w8 w9 w10 w11 w12 w13 w14 g15 w16 g17 w18 w19 g20 w21 g22 g23 g24 w25 w26 w27 g28 g29 w30 g31 g32 g33 fa fm fn)) hC V ⟨(Nat.le_of_ble_eq_true rfl), (Nat.le_of_ble_eq_true rfl)⟩ (.inr ⟨(nI 3), rfl, rfl, (by decide +kernel), (wl_3 (R := (fun i => fn (40 * r + i))) rfl f_1 (by omega))⟩) dX8_whyNot_35
  · have V : gW D T A s [(o, .inr (8, [.int w0, .ref g1, .ref g2, .ref g3, .ref g4, .int (nI tp), .int w6, .int w7, .int w8, .int w9, .int w10, .int w11, .int w12, .int w13, .int w14, .ref g15, .int w16, .ref g17, .int w18, .int w19, .ref g20, .int w21, .ref g22, .ref g23, .ref g24, .int w25, .int w26, .int w27, .ref g28, .ref g29, .int w30, .ref g31, .ref g32, .ref g33])), (g1, .inl (T 0, 282, .inl fa)), (g32, .inl (T 0, 4, .inl fm)), (g33, .inl (T 1, 160, .inr (.inl fn)))] H locs := V _ [0, 0] rfl rfl rfl (by decide +kernel) rfl
    show W p l e _ s m args below meth c H locs _ _ _ (F0 m 17 ls [.int (nI 0)])
    refine lv_if_ne (tgt := 22) hx hb dX8_whyNot_17 (by decide) (fun c => absurd (show (nI 0) = 0 by decide +kernel) c) (fun _ => ?_)
    refine lv_iconst (v := (nI 1)) hx hb dX8_whyNot_20 (by decide +kernel) ?_
    exact g_iret (Qr := (q_m_whyNot_f T mz n o r k w0 g1 g2 g3 g4 tp w6 w7 w8 w9 w10 w11 w12 w13 w14 g15 w16 g17 w18 w19 g20 w21 g22 g23 g24 w25 w26 w27 g28 g29 w30 g31 g32 g33 fa fm fn)) hC V ⟨(Nat.le_of_ble_eq_true rfl), (Nat.le_of_ble_eq_true rfl)⟩ (.inr ⟨(nI 1), rfl, rfl, (by decide +kernel), (wl_1 (R := (fun i => fn (40 * r + i))) rfl f_2)⟩) dX8_whyNot_21

def q_m_minutesOf_f (T : Nat → ClassId) (mz : Nat) (n : Nat) (o : Nat) (r : Nat) (w0 : Int32) (g1 : Nat) (g2 : Nat) (g3 : Nat) (g4 : Nat) (tp : Nat) (w6 : Int32) (w7 : Int32) (w8 : Int32) (w9 : Int32) (w10 : Int32) (w11 : Int32) (w12 : Int32) (w13 : Int32) (w14 : Int32) (g15 : Nat) (w16 : Int32) (g17 : Nat) (w18 : Int32) (w19 : Int32) (g20 : Nat) (w21 : Int32) (g22 : Nat) (g23 : Nat) (g24 : Nat) (w25 : Int32) (w26 : Int32) (w27 : Int32) (g28 : Nat) (g29 : Nat) (w30 : Int32) (g31 : Nat) (g32 : Nat) (g33 : Nat) (fa : Nat → Int32) (fh : Nat → Int32) (fm : Nat → Int32) (fn : Nat → Int64) : Option Value → va_W → Prop := fun rr ww => (∃ (z : Int32) (bm : Int32) (b2 : Int32) (b3 : Int32) (ga : Nat → Int32) (gh : Nat → Int32), rr = some (.int z) ∧ ww = [(o, .inr (8, [.int w0, .ref g1, .ref g2, .ref g3, .ref g4, .int (nI tp), .int w6, .int w7, .int w8, .int w9, .int w10, .int w11, .int w12, .int w13, .int w14, .ref g15, .int bm, .ref g17, .int b2, .int b3, .ref g20, .int w21, .ref g22, .ref g23, .ref g24, .int w25, .int w26, .int w27, .ref g28, .ref g29, .int w30, .ref g31, .ref g32, .ref g33])), (g1, .inl (T 0, 282, .inl ga)), (g15, .inl (T 0, 10, .inl gh)), (g32, .inl (T 0, 4, .inl fm)), (g33, .inl (T 1, 160, .inr (.inl fn)))] ∧ MS n fa ga ∧ z = nI ((tlE n fa (fun i => fn (40 * r + i)) mz 42 0).1 / 2) ∧ ga = tlI n fa (fun i => fn (40 * r + i)) (tlE n fa (fun i => fn (40 * r + i)) mz 42 0).1 ∧ b2 = (tlE n fa (fun i => fn (40 * r + i)) mz 42 0).2 ∧ b3 = tlC n fa (fun i => fn (40 * r + i)) (tlE n fa (fun i => fn (40 * r + i)) mz 42 0).1 ∧ bm = tlB n fa (fun i => fn (40 * r + i)) (tlE n fa (fun i => fn (40 * r + i)) mz 42 0).1)
set_option maxHeartbeats 4000000 in
set_option maxRecDepth 100000 in
theorem m_minutesOf_f (l : Launch) (D : va_G) (T : Nat → ClassId) (mz : Nat) (n : Nat) (o : Nat) (r : Nat) (w0 : Int32) (g1 : Nat) (g2 : Nat) (g3 : Nat) (g4 : Nat) (tp : Nat) (w6 : Int32) (w7 : Int32) (w8 : Int32) (w9 : Int32) (w10 : Int32) (w11 : Int32) (w12 : Int32) (w13 : Int32) (w14 : Int32) (g15 : Nat) (w16 : Int32) (g17 : Nat) (w18 : Int32) (w19 : Int32) (g20 : Nat) (w21 : Int32) (g22 : Nat) (g23 : Nat) (g24 : Nat) (w25 : Int32) (w26 : Int32) (w27 : Int32) (g28 : Nat) (g29 : Nat) (w30 : Int32) (g31 : Nat) (g32 : Nat) (g33 : Nat) (fa : Nat → Int32) (fh : Nat → Int32) (fm : Nat → Int32) (fn : Nat → Int64) (h_a : MI n fa) (h_r : r < 4) (h_mz : fm r = nI mz) (h_m4 : mz ≤ 40) : Ct l yX8_minutesOf cX8_minutesOf 4 (some .int) 3 0 0 D T [.ref o, .int (nI r)] [(o, .inr (8, [.int w0, .ref g1, .ref g2, .ref g3, .ref g4, .int (nI tp), .int w6, .int w7, .int w8, .int w9, .int w10, .int w11, .int w12, .int w13, .int w14, .ref g15, .int w16, .ref g17, .int w18, .int w19, .ref g20, .int w21, .ref g22, .ref g23, .ref g24, .int w25, .int w26, .int w27, .ref g28, .ref g29, .int w30, .ref g31, .ref g32, .ref g33])), (g1, .inl (T 0, 282, .inl fa)), (g15, .inl (T 0, 10, .inl fh)), (g32, .inl (T 0, 4, .inl fm)), (g33, .inl (T 1, 160, .inr (.inl fn)))] (q_m_minutesOf_f T mz n o r w0 g1 g2 g3 g4 tp w6 w7 w8 w9 w10 w11 w12 w13 w14 g15 w16 g17 w18 w19 g20 w21 g22 g23 g24 w25 w26 w27 g28 g29 w30 g31 g32 g33 fa fh fm fn) := by
  refine Ct.of (cc := cX8_minutesOf) (maxL := 4) (ret := (some .int)) (by decide) (Nat.le_of_ble_eq_true rfl) ?_
  intro p e s m args below meth c A ls hC hnm V hl
  obtain ⟨hx, hb, hr, hml, hown, hts, hlocks⟩ := id hC
  generalize hH : s.heap = H at V ⊢
  clear hH
  have hl : lv_has ls 4 [(0, .ref o), (1, .int (nI r))] := hl
  generalize hlo : ([] : List Loc) = locs at V ⊢
  clear hlo
  have ms0 := ms_rf h_a
  have hn10 := h_a.1
  refine lv_aload_n hx hb dX8_minutesOf_0 rfl (lv_at hl 0 rfl) ?_
  refine lv_iconst (v := (nI 0)) hx hb dX8_minutesOf_1 (by decide +kernel) ?_
  refine g_put hC V (ci := 8) uwX8 tyX8 tyX8_ok nmX8 0 rfl rfl 19 (by decide) w_931 rfl rfl rfl rfl (Nat.le_of_ble_eq_true rfl) (ws' := [(o, .inr (8, [.int w0, .ref g1, .ref g2, .ref g3, .ref g4, .int (nI tp), .int w6, .int w7, .int w8, .int w9, .int w10, .int w11, .int w12, .int w13, .int w14, .ref g15, .int w16, .ref g17, .int w18, .int (nI 0), .ref g20, .int w21, .ref g22, .ref g23, .ref g24, .int w25, .int w26, .int w27, .ref g28, .ref g29, .int w30, .ref g31, .ref g32, .ref g33])), (g1, .inl (T 0, 282, .inl fa)), (g15, .inl (T 0, 10, .inl fh)), (g32, .inl (T 0, 4, .inl fm)), (g33, .inl (T 1, 160, .inr (.inl fn)))]) rfl dX8_minutesOf_2 (fun H locs V => ?_)
  refine lv_aload_n hx hb dX8_minutesOf_5 rfl (lv_at hl 0 rfl) ?_
  refine lv_iconst (v := (nI 0)) hx hb dX8_minutesOf_6 (by decide +kernel) ?_
  refine g_put hC V (ci := 8) uwX8 tyX8 tyX8_ok nmX8 0 rfl rfl 16 (by decide) w_928 rfl rfl rfl rfl (Nat.le_of_ble_eq_true rfl) (ws' := [(o, .inr (8, [.int w0, .ref g1, .ref g2, .ref g3, .ref g4, .int (nI tp), .int w6, .int w7, .int w8, .int w9, .int w10, .int w11, .int w12, .int w13, .int w14, .ref g15, .int (nI 0), .ref g17, .int w18, .int (nI 0), .ref g20, .int w21, .ref g22, .ref g23, .ref g24, .int w25, .int w26, .int w27, .ref g28, .ref g29, .int w30, .ref g31, .ref g32, .ref g33])), (g1, .inl (T 0, 282, .inl fa)), (g15, .inl (T 0, 10, .inl fh)), (g32, .inl (T 0, 4, .inl fm)), (g33, .inl (T 1, 160, .inr (.inl fn)))]) rfl dX8_minutesOf_7 (fun H locs V => ?_)
  refine lv_aload_n hx hb dX8_minutesOf_10 rfl (lv_at hl 0 rfl) ?_
  refine lv_iconst (v := (nI 0)) hx hb dX8_minutesOf_11 (by decide +kernel) ?_
  refine g_put hC V (ci := 8) uwX8 tyX8 tyX8_ok nmX8 0 rfl rfl 18 (by decide) w_930 rfl rfl rfl rfl (Nat.le_of_ble_eq_true rfl) (ws' := [(o, .inr (8, [.int w0, .ref g1, .ref g2, .ref g3, .ref g4, .int (nI tp), .int w6, .int w7, .int w8, .int w9, .int w10, .int w11, .int w12, .int w13, .int w14, .ref g15, .int (nI 0), .ref g17, .int (nI 0), .int (nI 0), .ref g20, .int w21, .ref g22, .ref g23, .ref g24, .int w25, .int w26, .int w27, .ref g28, .ref g29, .int w30, .ref g31, .ref g32, .ref g33])), (g1, .inl (T 0, 282, .inl fa)), (g15, .inl (T 0, 10, .inl fh)), (g32, .inl (T 0, 4, .inl fm)), (g33, .inl (T 1, 160, .inr (.inl fn)))]) rfl dX8_minutesOf_12 (fun H locs V => ?_)
  refine lv_iconst (v := (nI 0)) hx hb dX8_minutesOf_15 (by decide +kernel) ?_
  refine lv_istore_n (lv' := [(2, .int (nI 0)), (0, .ref o), (1, .int (nI r))]) hx hb dX8_minutesOf_16 rfl hl (by decide) rfl (fun ls hl => ?_)
  refine lv_iconst (v := (nI 0)) hx hb dX8_minutesOf_17 (by decide +kernel) ?_
  refine lv_istore_n (lv' := [(3, .int (nI 0)), (2, .int (nI 0)), (0, .ref o), (1, .int (nI r))]) hx hb dX8_minutesOf_18 rfl hl (by decide) rfl (fun ls hl => ?_)
  have L_1 : ∀ (fu : Nat) (k19 : Nat) (x2 : Int32) (v1 : Int32) (v2 : Int32) (v3 : Int32) (th : Nat → Int32) (f19 : Nat → Int32), k19 ≤ mz + 1 → MS n fa f19 → f19 = tlI n fa (fun i => fn (40 * r + i)) k19 → x2 = nI (k19 / 2) → v1 = tlB n fa (fun i => fn (40 * r + i)) k19 → v2 = nI 0 → v3 = tlC n fa (fun i => fn (40 * r + i)) k19 → tlE n fa (fun i => fn (40 * r + i)) mz 42 0 = tlE n fa (fun i => fn (40 * r + i)) mz (42 - k19) k19 → mz + 1 - k19 < fu → ∀ (H : Heap) (locs : List Loc) (ls : Array Slot), gW D T A s [(o, .inr (8, [.int w0, .ref g1, .ref g2, .ref g3, .ref g4, .int (nI tp), .int w6, .int w7, .int w8, .int w9, .int w10, .int w11, .int w12, .int w13, .int w14, .ref g15, .int v1, .ref g17, .int v2, .int v3, .ref g20, .int w21, .ref g22, .ref g23, .ref g24, .int w25, .int w26, .int w27, .ref g28, .ref g29, .int w30, .ref g31, .ref g32, .ref g33])), (g1, .inl (T 0, 282, .inl f19)), (g15, .inl (T 0, 10, .inl th)), (g32, .inl (T 0, 4, .inl fm)), (g33, .inl (T 1, 160, .inr (.inl fn)))] H locs → lv_has ls 4 [(3, .int (nI k19)), (2, .int x2), (0, .ref o), (1, .int (nI r))] → W p l e (rmD 3 0 0) s m args below meth c H locs 0 0 (MQ below (gQ D A (q_m_minutesOf_f T mz n o r w0 g1 g2 g3 g4 tp w6 w7 w8 w9 w10 w11 w12 w13 w14 g15 w16 g17 w18 w19 g20 w21 g22 g23 g24 w25 w26 w27 g28 g29 w30 g31 g32 g33 fa fh fm fn)) args s 0 0 A) (F0 m 19 ls []) := by
    intro fu_19
    induction fu_19 with
    | zero => intro k19 x2 v1 v2 v3 th f19 hk19 hf19 hI hx2 hv1 hv2 hv3 hE hmu; exact absurd hmu (Nat.not_lt_zero _)
    | succ fu_19 ih_19 =>
      intro k19 x2 v1 v2 v3 th f19 hk19 hf19 hI hx2 hv1 hv2 hv3 hE hmu_19 H locs ls V hl
      refine lv_iload_n hx hb dX8_minutesOf_19 rfl (lv_at hl 0 rfl) ?_
      refine lv_aload_n hx hb dX8_minutesOf_20 rfl (lv_at hl 2 rfl) ?_
      refine g_get hC V (ci := 8) uwX8 0 rfl rfl 32 (by decide) w_944 rfl rfl dX8_minutesOf_21 ?_
      refine lv_iload_n hx hb dX8_minutesOf_24 rfl (lv_at hl 3 rfl) ?_
      refine g_iald hC V 3 rfl (vp_in_nI (by omega) (by omega)) (v := (nI mz)) (by rw [nI_clamp (by omega)]; exact h_mz) dX8_minutesOf_25 ?_
      refine lv_icmp_ge (tgt := 98) hx hb dX8_minutesOf_26 (by decide) (fun c_2 => ?_) (fun c_2 => ?_)
      · skip
        have c_2 := b_le (by omega) (by omega) c_2
        refine lv_iload_n hx hb dX8_minutesOf_98 rfl (lv_at hl 1 rfl) ?_
        exact g_iret (Qr := (q_m_minutesOf_f T mz n o r w0 g1 g2 g3 g4 tp w6 w7 w8 w9 w10 w11 w12 w13 w14 g15 w16 g17 w18 w19 g20 w21 g22 g23 g24 w25 w26 w27 g28 g29 w30 g31 g32 g33 fa fh fm fn)) hC V ⟨(Nat.le_of_ble_eq_true rfl), (Nat.le_of_ble_eq_true rfl)⟩ ⟨x2, v1, v2, v3, f19, th, rfl, rfl, (by assumption), (hx2.trans (congrArg (fun q : Nat × Int32 => nI (q.1 / 2)) (hE.trans (te_e (by omega)))).symm), (hI.trans (congrArg (fun q : Nat × Int32 => tlI n fa (fun i => fn (40 * r + i)) q.1) (hE.trans (te_e (by omega)))).symm), (hv2.trans (congrArg Prod.snd (hE.trans (te_e (by omega)))).symm), (hv3.trans (congrArg (fun q : Nat × Int32 => tlC n fa (fun i => fn (40 * r + i)) q.1) (hE.trans (te_e (by omega)))).symm), (hv1.trans (congrArg (fun q : Nat × Int32 => tlB n fa (fun i => fn (40 * r + i)) q.1) (hE.trans (te_e (by omega)))).symm)⟩ dX8_minutesOf_99
      · skip
        have c_2 := b_nle (by omega) (by omega) c_2
        refine lv_aload_n hx hb dX8_minutesOf_29 rfl (lv_at hl 2 rfl) ?_
        refine lv_aload_n hx hb dX8_minutesOf_30 rfl (lv_at hl 2 rfl) ?_
        refine lv_iload_n hx hb dX8_minutesOf_31 rfl (lv_at hl 3 rfl) ?_
        refine lv_iload_n hx hb dX8_minutesOf_32 rfl (lv_at hl 0 rfl) ?_
        refine g_callVU (nA := 2) hC V hl.1 (m_whyNot_f l D T mz n o r k19 w0 g1 g2 g3 g4 tp w6 w7 w8 w9 w10 w11 w12 w13 w14 g15 v1 g17 v2 v3 g20 w21 g22 g23 g24 w25 w26 w27 g28 g29 w30 g31 g32 g33 f19 fm fn hf19.1 (by first | assumption | omega) (by first | assumption | omega) (by first | assumption | omega) (by first | assumption | omega)) w_1154 w_1156 w_s55 w_9 w_1157 (by decide +kernel) rfl ⟨(Nat.le_of_ble_eq_true rfl), (Nat.le_of_ble_eq_true rfl)⟩ 0 (ci := 8) rfl rfl [0, 1, 3, 4] rfl rfl (Nat.le_of_ble_eq_true rfl) dX8_minutesOf_33 ⟨(Nat.le_of_ble_eq_true rfl), (Nat.le_of_ble_eq_true rfl)⟩ rfl (fun r w1 H locs hQ V => ?_)
        rcases hQ with ⟨rfl, rfl, f_3, f_4⟩ | ⟨z_5, rfl, rfl, f_6, f_7⟩
        · have V : gW D T A s [(o, .inr (8, [.int w0, .ref g1, .ref g2, .ref g3, .ref g4, .int (nI tp), .int w6, .int w7, .int w8, .int w9, .int w10, .int w11, .int w12, .int w13, .int w14, .ref g15, .int v1, .ref g17, .int v2, .int v3, .ref g20, .int w21, .ref g22, .ref g23, .ref g24, .int w25, .int w26, .int w27, .ref g28, .ref g29, .int w30, .ref g31, .ref g32, .ref g33])), (g1, .inl (T 0, 282, .inl f19)), (g15, .inl (T 0, 10, .inl th)), (g32, .inl (T 0, 4, .inl fm)), (g33, .inl (T 1, 160, .inr (.inl fn)))] H locs := V _ [0, 0, 1, 0] rfl rfl rfl (by decide +kernel) rfl
          show W p l e _ s m args below meth c H locs _ _ _ (F0 m 36 ls [.int (nI 0), .ref o])
          have hw0 : nI 0 = whL n (tlI n fa (fun i => fn (40 * r + i)) k19) (fun i => fn (40 * r + i)) mz k19 := by rw [← hI]; exact f_4
          refine g_put hC V (ci := 8) uwX8 tyX8 tyX8_ok nmX8 0 rfl rfl 18 (by decide) w_930 rfl rfl rfl rfl (Nat.le_of_ble_eq_true rfl) (ws' := [(o, .inr (8, [.int w0, .ref g1, .ref g2, .ref g3, .ref g4, .int (nI tp), .int w6, .int w7, .int w8, .int w9, .int w10, .int w11, .int w12, .int w13, .int w14, .ref g15, .int v1, .ref g17, .int (nI 0), .int v3, .ref g20, .int w21, .ref g22, .ref g23, .ref g24, .int w25, .int w26, .int w27, .ref g28, .ref g29, .int w30, .ref g31, .ref g32, .ref g33])), (g1, .inl (T 0, 282, .inl f19)), (g15, .inl (T 0, 10, .inl th)), (g32, .inl (T 0, 4, .inl fm)), (g33, .inl (T 1, 160, .inr (.inl fn)))]) rfl dX8_minutesOf_36 (fun H locs V => ?_)
          refine lv_aload_n hx hb dX8_minutesOf_39 rfl (lv_at hl 2 rfl) ?_
          refine g_get hC V (ci := 8) uwX8 0 rfl rfl 18 (by decide) w_930 rfl rfl dX8_minutesOf_40 ?_
          refine lv_if_eq (tgt := 48) hx hb dX8_minutesOf_43 (by decide) (fun _ => ?_) (fun c => absurd (show (nI 0) = 0 by decide +kernel) c)
          refine lv_aload_n hx hb dX8_minutesOf_48 rfl (lv_at hl 2 rfl) ?_
          refine lv_dup hx hb dX8_minutesOf_49 rfl ?_
          refine g_get hC V (ci := 8) uwX8 0 rfl rfl 19 (by decide) w_931 rfl rfl dX8_minutesOf_50 ?_
          refine lv_aload_n hx hb dX8_minutesOf_53 rfl (lv_at hl 2 rfl) ?_
          refine lv_aload_n hx hb dX8_minutesOf_54 rfl (lv_at hl 2 rfl) ?_
          refine g_get hC V (ci := 8) uwX8 0 rfl rfl 33 (by decide) w_945 rfl rfl dX8_minutesOf_55 ?_
          refine lv_bipush (v := (nI 40)) hx hb dX8_minutesOf_58 (by decide +kernel) ?_
          refine lv_iload_n hx hb dX8_minutesOf_60 rfl (lv_at hl 3 rfl) ?_
          refine lv_imul hx hb dX8_minutesOf_61 ?_
          refine g_vi (y := (nI (40 * r))) (pk_mul _ _) ?_
          refine lv_iload_n hx hb dX8_minutesOf_62 rfl (lv_at hl 0 rfl) ?_
          refine lv_iadd hx hb dX8_minutesOf_63 ?_
          refine g_vi (y := (nI ((40 * r) + k19))) (nI_add _ _) ?_
          refine g_lald hC V 4 rfl (vp_in_nI (by omega) (by omega)) (v := (fn ((40 * r) + k19))) (congrArg _ (nI_clamp (by omega))) dX8_minutesOf_64 ?_
          refine lv_l2i hx hb dX8_minutesOf_65 rfl ?_
          refine lv_aload_n hx hb dX8_minutesOf_66 rfl (lv_at hl 2 rfl) ?_
          refine g_get hC V (ci := 8) uwX8 0 rfl rfl 33 (by decide) w_945 rfl rfl dX8_minutesOf_67 ?_
          refine lv_bipush (v := (nI 40)) hx hb dX8_minutesOf_70 (by decide +kernel) ?_
          refine lv_iload_n hx hb dX8_minutesOf_72 rfl (lv_at hl 3 rfl) ?_
          refine lv_imul hx hb dX8_minutesOf_73 ?_
          refine g_vi (y := (nI (40 * r))) (pk_mul _ _) ?_
          refine lv_iload_n hx hb dX8_minutesOf_74 rfl (lv_at hl 0 rfl) ?_
          refine lv_iadd hx hb dX8_minutesOf_75 ?_
          refine g_vi (y := (nI ((40 * r) + k19))) (nI_add _ _) ?_
          refine lv_iconst (v := (nI 1)) hx hb dX8_minutesOf_76 (by decide +kernel) ?_
          refine lv_iadd hx hb dX8_minutesOf_77 ?_
          refine g_vi (y := (nI (((40 * r) + k19) + 1))) (nI_add _ _) ?_
          refine g_lald hC V 4 rfl (vp_in_nI (by omega) (by omega)) (v := (fn (((40 * r) + k19) + 1))) (congrArg _ (nI_clamp (by omega))) dX8_minutesOf_78 ?_
          refine lv_l2i hx hb dX8_minutesOf_79 rfl ?_
          refine lv_iconst (v := (-1)) hx hb dX8_minutesOf_80 (by decide +kernel) ?_
          refine lv_iconst (v := (nI 0)) hx hb dX8_minutesOf_81 (by decide +kernel) ?_
          refine g_callVU (nA := 4) hC V hl.1 (m_goes_f l D T n o ((fn ((40 * r) + k19)).toInt32) ((fn (((40 * r) + k19) + 1)).toInt32) (-1) (nI 0) w0 g1 g2 g3 g4 tp w6 w7 w8 w9 w10 w11 w12 w13 w14 g15 v1 g17 (nI 0) v3 g20 w21 g22 g23 g24 w25 w26 w27 g28 g29 w30 g31 g32 g33 f19 th hf19.1) w_1122 w_1124 w_s50 w_9 w_1125 (by decide +kernel) rfl ⟨(Nat.le_of_ble_eq_true rfl), (Nat.le_of_ble_eq_true rfl)⟩ 0 (ci := 8) rfl rfl [0, 1, 2] rfl rfl (Nat.le_of_ble_eq_true rfl) dX8_minutesOf_82 ⟨(Nat.le_of_ble_eq_true rfl), (Nat.le_of_ble_eq_true rfl)⟩ rfl (fun r w1 H locs hQ V => ?_)
          obtain ⟨z_8, bm_9, ga_10, gh_11, rfl, rfl, f_12, f_13, f_14, f_15⟩ := hQ
          have V : gW D T A s [(o, .inr (8, [.int w0, .ref g1, .ref g2, .ref g3, .ref g4, .int (nI tp), .int w6, .int w7, .int w8, .int w9, .int w10, .int w11, .int w12, .int w13, .int w14, .ref g15, .int bm_9, .ref g17, .int (nI 0), .int v3, .ref g20, .int w21, .ref g22, .ref g23, .ref g24, .int w25, .int w26, .int w27, .ref g28, .ref g29, .int w30, .ref g31, .ref g32, .ref g33])), (g1, .inl (T 0, 282, .inl ga_10)), (g15, .inl (T 0, 10, .inl gh_11)), (g32, .inl (T 0, 4, .inl fm)), (g33, .inl (T 1, 160, .inr (.inl fn)))] H locs := V _ [0, 0, 0] rfl rfl rfl (by decide +kernel) rfl
          show W p l e _ s m args below meth c H locs _ _ _ (F0 m 85 ls [.int z_8, .int v3, .ref o])
          have hga_10 : MS n fa ga_10 := ms_tr (by assumption) f_12
          refine lv_iadd hx hb dX8_minutesOf_85 ?_
          refine g_put hC V (ci := 8) uwX8 tyX8 tyX8_ok nmX8 0 rfl rfl 19 (by decide) w_931 rfl rfl rfl rfl (Nat.le_of_ble_eq_true rfl) (ws' := [(o, .inr (8, [.int w0, .ref g1, .ref g2, .ref g3, .ref g4, .int (nI tp), .int w6, .int w7, .int w8, .int w9, .int w10, .int w11, .int w12, .int w13, .int w14, .ref g15, .int bm_9, .ref g17, .int (nI 0), .int (v3 + z_8), .ref g20, .int w21, .ref g22, .ref g23, .ref g24, .int w25, .int w26, .int w27, .ref g28, .ref g29, .int w30, .ref g31, .ref g32, .ref g33])), (g1, .inl (T 0, 282, .inl ga_10)), (g15, .inl (T 0, 10, .inl gh_11)), (g32, .inl (T 0, 4, .inl fm)), (g33, .inl (T 1, 160, .inr (.inl fn)))]) rfl dX8_minutesOf_86 (fun H locs V => ?_)
          refine lv_iinc (v := (x2 + 1)) (lv' := [(2, .int (x2 + 1)), (3, .int (nI k19)), (0, .ref o), (1, .int (nI r))]) hx hb dX8_minutesOf_89 hl (k := 1) rfl rfl (by decide) rfl (fun ls hl => ?_)
          refine lv_iinc (v := (nI (k19 + 2))) (lv' := [(3, .int (nI (k19 + 2))), (2, .int (x2 + 1)), (0, .ref o), (1, .int (nI r))]) hx hb dX8_minutesOf_92 hl (k := 1) rfl (nI_add _ 2) (by decide) rfl (fun ls hl => ?_)
          refine lv_goto (tgt := 19) hx hb dX8_minutesOf_95 (by decide) ?_
          exact ih_19 (k19 + 2) (x2 + 1) bm_9 (nI 0) (v3 + z_8) gh_11 ga_10 (by omega) (by assumption) (by rw [f_14, hI]; rfl) (by rw [hx2]; exact (nI_add _ 1).trans (congrArg nI (by omega))) (by rw [f_15, hv1, hI]; rfl) rfl (by rw [hv3, f_13, hI]; rfl) (hE.trans (te_s (by omega) h_m4 hw0)) (by omega) _ _ _ V (lv_sub hl [0, 1, 2, 3] rfl)
        · have V : gW D T A s [(o, .inr (8, [.int w0, .ref g1, .ref g2, .ref g3, .ref g4, .int (nI tp), .int w6, .int w7, .int w8, .int w9, .int w10, .int w11, .int w12, .int w13, .int w14, .ref g15, .int v1, .ref g17, .int v2, .int v3, .ref g20, .int w21, .ref g22, .ref g23, .ref g24, .int w25, .int w26, .int w27, .ref g28, .ref g29, .int w30, .ref g31, .ref g32, .ref g33])), (g1, .inl (T 0, 282, .inl f19)), (g15, .inl (T 0, 10, .inl th)), (g32, .inl (T 0, 4, .inl fm)), (g33, .inl (T 1, 160, .inr (.inl fn)))] H locs := V _ [0, 0, 1, 0] rfl rfl rfl (by decide +kernel) rfl
          show W p l e _ s m args below meth c H locs _ _ _ (F0 m 36 ls [.int z_5, .ref o])
          have hw1 : z_5 = whL n (tlI n fa (fun i => fn (40 * r + i)) k19) (fun i => fn (40 * r + i)) mz k19 := by rw [← hI]; exact f_7
          have hw2 := f_6
          refine g_put hC V (ci := 8) uwX8 tyX8 tyX8_ok nmX8 0 rfl rfl 18 (by decide) w_930 rfl rfl rfl rfl (Nat.le_of_ble_eq_true rfl) (ws' := [(o, .inr (8, [.int w0, .ref g1, .ref g2, .ref g3, .ref g4, .int (nI tp), .int w6, .int w7, .int w8, .int w9, .int w10, .int w11, .int w12, .int w13, .int w14, .ref g15, .int v1, .ref g17, .int z_5, .int v3, .ref g20, .int w21, .ref g22, .ref g23, .ref g24, .int w25, .int w26, .int w27, .ref g28, .ref g29, .int w30, .ref g31, .ref g32, .ref g33])), (g1, .inl (T 0, 282, .inl f19)), (g15, .inl (T 0, 10, .inl th)), (g32, .inl (T 0, 4, .inl fm)), (g33, .inl (T 1, 160, .inr (.inl fn)))]) rfl dX8_minutesOf_36 (fun H locs V => ?_)
          refine lv_aload_n hx hb dX8_minutesOf_39 rfl (lv_at hl 2 rfl) ?_
          refine g_get hC V (ci := 8) uwX8 0 rfl rfl 18 (by decide) w_930 rfl rfl dX8_minutesOf_40 ?_
          refine lv_if_eq (tgt := 48) hx hb dX8_minutesOf_43 (by decide) (fun c_16 => ?_) (fun c_16 => ?_)
          · skip
            exact (absurd c_16 (by assumption) : False).elim
          · skip
            refine lv_iload_n hx hb dX8_minutesOf_46 rfl (lv_at hl 1 rfl) ?_
            exact g_iret (Qr := (q_m_minutesOf_f T mz n o r w0 g1 g2 g3 g4 tp w6 w7 w8 w9 w10 w11 w12 w13 w14 g15 w16 g17 w18 w19 g20 w21 g22 g23 g24 w25 w26 w27 g28 g29 w30 g31 g32 g33 fa fh fm fn)) hC V ⟨(Nat.le_of_ble_eq_true rfl), (Nat.le_of_ble_eq_true rfl)⟩ ⟨x2, v1, z_5, v3, f19, th, rfl, rfl, (by assumption), (hx2.trans (congrArg (fun q : Nat × Int32 => nI (q.1 / 2)) (hE.trans (te_w (by omega) h_m4 hw1 hw2))).symm), (hI.trans (congrArg (fun q : Nat × Int32 => tlI n fa (fun i => fn (40 * r + i)) q.1) (hE.trans (te_w (by omega) h_m4 hw1 hw2))).symm), (congrArg Prod.snd (hE.trans (te_w (by omega) h_m4 hw1 hw2))).symm, (hv3.trans (congrArg (fun q : Nat × Int32 => tlC n fa (fun i => fn (40 * r + i)) q.1) (hE.trans (te_w (by omega) h_m4 hw1 hw2))).symm), (hv1.trans (congrArg (fun q : Nat × Int32 => tlB n fa (fun i => fn (40 * r + i)) q.1) (hE.trans (te_w (by omega) h_m4 hw1 hw2))).symm)⟩ dX8_minutesOf_47
  exact L_1 _ 0 (nI 0) (nI 0) (nI 0) (nI 0) fh fa (by omega) (by assumption) rfl rfl rfl rfl rfl rfl (Nat.lt_succ_self _) _ _ _ V (lv_sub hl [0, 1, 2, 3] rfl)

def q_m_perform_f (T : Nat → ClassId) (n : Nat) (o : Nat) (row : Int32) (w0 : Int32) (g1 : Nat) (g2 : Nat) (g3 : Nat) (g4 : Nat) (tp : Nat) (w6 : Int32) (w7 : Int32) (w8 : Int32) (w9 : Int32) (w10 : Int32) (w11 : Int32) (w12 : Int32) (w13 : Int32) (w14 : Int32) (g15 : Nat) (w16 : Int32) (g17 : Nat) (w18 : Int32) (w19 : Int32) (g20 : Nat) (w21 : Int32) (g22 : Nat) (g23 : Nat) (g24 : Nat) (w25 : Int32) (w26 : Int32) (w27 : Int32) (g28 : Nat) (g29 : Nat) (w30 : Int32) (g31 : Nat) (g32 : Nat) (g33 : Nat) (fa : Nat → Int32) (fh : Nat → Int32) (fq : Nat → Int32) (fm : Nat → Int32) (fn : Nat → Int64) : Option Value → va_W → Prop := fun rr ww => (∃ (z : Int32) (bm : Int32) (b2 : Int32) (b3 : Int32) (ga : Nat → Int32) (gh : Nat → Int32), rr = some (.int z) ∧ ww = [(o, .inr (8, [.int (nI 0), .ref g1, .ref g2, .ref g3, .ref g4, .int (nI tp), .int w6, .int w7, .int w8, .int w9, .int w10, .int w11, .int w12, .int w13, .int w14, .ref g15, .int bm, .ref g17, .int b2, .int b3, .ref g20, .int w21, .ref g22, .ref g23, .ref g24, .int w25, .int w26, .int w27, .ref g28, .ref g29, .int w30, .ref g31, .ref g32, .ref g33])), (g1, .inl (T 0, 282, .inl ga)), (g15, .inl (T 0, 10, .inl gh)), (g31, .inl (T 0, 4, .inl fq)), (g32, .inl (T 0, 4, .inl fm)), (g33, .inl (T 1, 160, .inr (.inl fn)))] ∧ MS n fa ga ∧ z = perA n fa fq fm fn row ∧ ga = perF n fa fq fm fn row)
set_option maxHeartbeats 4000000 in
set_option maxRecDepth 100000 in
theorem m_perform_f (l : Launch) (D : va_G) (T : Nat → ClassId) (n : Nat) (o : Nat) (row : Int32) (w0 : Int32) (g1 : Nat) (g2 : Nat) (g3 : Nat) (g4 : Nat) (tp : Nat) (w6 : Int32) (w7 : Int32) (w8 : Int32) (w9 : Int32) (w10 : Int32) (w11 : Int32) (w12 : Int32) (w13 : Int32) (w14 : Int32) (g15 : Nat) (w16 : Int32) (g17 : Nat) (w18 : Int32) (w19 : Int32) (g20 : Nat) (w21 : Int32) (g22 : Nat) (g23 : Nat) (g24 : Nat) (w25 : Int32) (w26 : Int32) (w27 : Int32) (g28 : Nat) (g29 : Nat) (w30 : Int32) (g31 : Nat) (g32 : Nat) (g33 : Nat) (fa : Nat → Int32) (fh : Nat → Int32) (fq : Nat → Int32) (fm : Nat → Int32) (fn : Nat → Int64) (h_a : MI n fa) (h_rm : ∀ i, i < 4 → bd (fm i) 41) : Ct l yX8_perform cX8_perform 2 (some .int) 4 0 0 D T [.ref o, .int row] [(o, .inr (8, [.int w0, .ref g1, .ref g2, .ref g3, .ref g4, .int (nI tp), .int w6, .int w7, .int w8, .int w9, .int w10, .int w11, .int w12, .int w13, .int w14, .ref g15, .int w16, .ref g17, .int w18, .int w19, .ref g20, .int w21, .ref g22, .ref g23, .ref g24, .int w25, .int w26, .int w27, .ref g28, .ref g29, .int w30, .ref g31, .ref g32, .ref g33])), (g1, .inl (T 0, 282, .inl fa)), (g15, .inl (T 0, 10, .inl fh)), (g31, .inl (T 0, 4, .inl fq)), (g32, .inl (T 0, 4, .inl fm)), (g33, .inl (T 1, 160, .inr (.inl fn)))] (q_m_perform_f T n o row w0 g1 g2 g3 g4 tp w6 w7 w8 w9 w10 w11 w12 w13 w14 g15 w16 g17 w18 w19 g20 w21 g22 g23 g24 w25 w26 w27 g28 g29 w30 g31 g32 g33 fa fh fq fm fn) := by
  refine Ct.of (cc := cX8_perform) (maxL := 2) (ret := (some .int)) (by decide) (Nat.le_of_ble_eq_true rfl) ?_
  intro p e s m args below meth c A ls hC hnm V hl
  obtain ⟨hx, hb, hr, hml, hown, hts, hlocks⟩ := id hC
  generalize hH : s.heap = H at V ⊢
  clear hH
  have hl : lv_has ls 2 [(0, .ref o), (1, .int row)] := hl
  generalize hlo : ([] : List Loc) = locs at V ⊢
  clear hlo
  have ms0 := ms_rf h_a
  have hn10 := h_a.1
  refine lv_aload_n hx hb dX8_perform_0 rfl (lv_at hl 0 rfl) ?_
  refine lv_iconst (v := (nI 0)) hx hb dX8_perform_1 (by decide +kernel) ?_
  refine g_put hC V (ci := 8) uwX8 tyX8 tyX8_ok nmX8 0 rfl rfl 0 (by decide) w_912 rfl rfl rfl rfl (Nat.le_of_ble_eq_true rfl) (ws' := [(o, .inr (8, [.int (nI 0), .ref g1, .ref g2, .ref g3, .ref g4, .int (nI tp), .int w6, .int w7, .int w8, .int w9, .int w10, .int w11, .int w12, .int w13, .int w14, .ref g15, .int w16, .ref g17, .int w18, .int w19, .ref g20, .int w21, .ref g22, .ref g23, .ref g24, .int w25, .int w26, .int w27, .ref g28, .ref g29, .int w30, .ref g31, .ref g32, .ref g33])), (g1, .inl (T 0, 282, .inl fa)), (g15, .inl (T 0, 10, .inl fh)), (g31, .inl (T 0, 4, .inl fq)), (g32, .inl (T 0, 4, .inl fm)), (g33, .inl (T 1, 160, .inr (.inl fn)))]) rfl dX8_perform_2 (fun H locs V => ?_)
  refine lv_iload_n hx hb dX8_perform_5 rfl (lv_at hl 1 rfl) ?_
  refine lv_i2l (v := row.toInt64) hx hb dX8_perform_6 rfl ?_
  refine lv_lconst (v := (nI 0).toInt64) hx hb dX8_perform_7 (by decide +kernel) ?_
  refine lv_ldc2 (v := (3)) hx hb hown (hts _ w_1144) dX8_perform_8 ?_
  refine g_vl (y := (nI 3).toInt64) (by decide +kernel) ?_
  refine g_callSU (nA := 3) hC V hl.1 (m_within l D T row (nI 0) (nI 3)) w_1023 w_1024 w_9 w_1025 (by decide +kernel) rfl ⟨(Nat.le_of_ble_eq_true rfl), (Nat.le_of_ble_eq_true rfl)⟩ [] rfl rfl (Nat.le_of_ble_eq_true rfl) dX8_perform_11 ⟨(Nat.le_of_ble_eq_true rfl), (Nat.le_of_ble_eq_true rfl)⟩ rfl (fun r w1 H locs hQ V => ?_)
  rcases hQ with ⟨rfl, rfl, f_1, f_2⟩ | ⟨rfl, rfl, f_3⟩
  · have V : gW D T A s [(o, .inr (8, [.int (nI 0), .ref g1, .ref g2, .ref g3, .ref g4, .int (nI tp), .int w6, .int w7, .int w8, .int w9, .int w10, .int w11, .int w12, .int w13, .int w14, .ref g15, .int w16, .ref g17, .int w18, .int w19, .ref g20, .int w21, .ref g22, .ref g23, .ref g24, .int w25, .int w26, .int w27, .ref g28, .ref g29, .int w30, .ref g31, .ref g32, .ref g33])), (g1, .inl (T 0, 282, .inl fa)), (g15, .inl (T 0, 10, .inl fh)), (g31, .inl (T 0, 4, .inl fq)), (g32, .inl (T 0, 4, .inl fm)), (g33, .inl (T 1, 160, .inr (.inl fn)))] H locs := V _ [] rfl rfl rfl (by decide +kernel) rfl
    show W p l e _ s m args below meth c H locs _ _ _ (F0 m 14 ls [.int (nI 1)])
    obtain ⟨r, hr1, hr2, er⟩ := g_rng (by decide) (by decide) f_1 f_2
    rw [er] at hl
    obtain ⟨mz, hmz, emz⟩ := h_rm r (by omega)
    refine lv_if_ne (tgt := 20) hx hb dX8_perform_14 (by decide) (fun _ => ?_) (fun c => absurd (show (nI 1) = 0 from c) (by decide +kernel))
    refine lv_aload_n hx hb dX8_perform_20 rfl (lv_at hl 0 rfl) ?_
    refine g_get hC V (ci := 8) uwX8 0 rfl rfl 31 (by decide) w_943 rfl rfl dX8_perform_21 ?_
    refine lv_iload_n hx hb dX8_perform_24 rfl (lv_at hl 1 rfl) ?_
    refine g_iald hC V 3 rfl (vp_in_nI (by omega) (by omega)) (v := (fq r)) (congrArg _ (nI_clamp (by omega))) dX8_perform_25 ?_
    refine lv_iconst (v := (-1)) hx hb dX8_perform_26 (by decide +kernel) ?_
    refine lv_icmp_ne (tgt := 35) hx hb dX8_perform_27 (by decide) (fun c_4 => ?_) (fun c_4 => ?_)
    · skip
      have hq1 := c_4
      refine lv_aload_n hx hb dX8_perform_35 rfl (lv_at hl 0 rfl) ?_
      refine lv_iload_n hx hb dX8_perform_36 rfl (lv_at hl 1 rfl) ?_
      refine g_callVU (nA := 1) hC V hl.1 (m_minutesOf_f l D T mz n o r (nI 0) g1 g2 g3 g4 tp w6 w7 w8 w9 w10 w11 w12 w13 w14 g15 w16 g17 w18 w19 g20 w21 g22 g23 g24 w25 w26 w27 g28 g29 w30 g31 g32 g33 fa fh fm fn h_a (by first | assumption | omega) (by first | assumption | omega) (by first | assumption | omega)) w_1150 w_1152 w_s54 w_9 w_1153 (by decide +kernel) rfl ⟨(Nat.le_of_ble_eq_true rfl), (Nat.le_of_ble_eq_true rfl)⟩ 0 (ci := 8) rfl rfl [0, 1, 2, 4, 5] rfl rfl (Nat.le_of_ble_eq_true rfl) dX8_perform_37 ⟨(Nat.le_of_ble_eq_true rfl), (Nat.le_of_ble_eq_true rfl)⟩ rfl (fun r w1 H locs hQ V => ?_)
      obtain ⟨z_5, bm_6, b2_7, b3_8, ga_9, gh_10, rfl, rfl, f_11, f_12, f_13, f_14, f_15, f_16⟩ := hQ
      have V : gW D T A s [(o, .inr (8, [.int (nI 0), .ref g1, .ref g2, .ref g3, .ref g4, .int (nI tp), .int w6, .int w7, .int w8, .int w9, .int w10, .int w11, .int w12, .int w13, .int w14, .ref g15, .int bm_6, .ref g17, .int b2_7, .int b3_8, .ref g20, .int w21, .ref g22, .ref g23, .ref g24, .int w25, .int w26, .int w27, .ref g28, .ref g29, .int w30, .ref g31, .ref g32, .ref g33])), (g1, .inl (T 0, 282, .inl ga_9)), (g15, .inl (T 0, 10, .inl gh_10)), (g31, .inl (T 0, 4, .inl fq)), (g32, .inl (T 0, 4, .inl fm)), (g33, .inl (T 1, 160, .inr (.inl fn)))] H locs := V _ [0, 0, 0, 1, 0] rfl rfl rfl (by decide +kernel) rfl
      show W p l e _ s m args below meth c H locs _ _ _ (F0 m 40 ls [.int z_5])
      have hga_9 : MS n fa ga_9 := ms_tr (by assumption) f_11
      exact g_iret (Qr := (q_m_perform_f T n o row w0 g1 g2 g3 g4 tp w6 w7 w8 w9 w10 w11 w12 w13 w14 g15 w16 g17 w18 w19 g20 w21 g22 g23 g24 w25 w26 w27 g28 g29 w30 g31 g32 g33 fa fh fq fm fn)) hC V ⟨(Nat.le_of_ble_eq_true rfl), (Nat.le_of_ble_eq_true rfl)⟩ ⟨z_5, bm_6, b2_7, b3_8, ga_9, gh_10, rfl, rfl, f_11, (f_12.trans (per_y (n := n) (f := fa) (fn := fn) (rr_0 er (by omega) hq1) er (by omega) emz (by omega)).1), (f_13.trans (per_y (n := n) (f := fa) (fn := fn) (rr_0 er (by omega) hq1) er (by omega) emz (by omega)).2)⟩ dX8_perform_40
    · skip
      have hq0 := c_4
      refine lv_bipush (v := (-6)) hx hb dX8_perform_30 (by decide +kernel) ?_
      refine lv_goto (tgt := 40) hx hb dX8_perform_32 (by decide) ?_
      exact g_iret (Qr := (q_m_perform_f T n o row w0 g1 g2 g3 g4 tp w6 w7 w8 w9 w10 w11 w12 w13 w14 g15 w16 g17 w18 w19 g20 w21 g22 g23 g24 w25 w26 w27 g28 g29 w30 g31 g32 g33 fa fh fq fm fn)) hC V ⟨(Nat.le_of_ble_eq_true rfl), (Nat.le_of_ble_eq_true rfl)⟩ ⟨(-6), w16, w18, w19, fa, fh, rfl, rfl, ms0, (per_n (n := n) (f := fa) (fm := fm) (fn := fn) (rr_6 er (by omega) hq0) (by decide +kernel)).1, (per_n (n := n) (f := fa) (fm := fm) (fn := fn) (rr_6 er (by omega) hq0) (by decide +kernel)).2⟩ dX8_perform_40
  · have V : gW D T A s [(o, .inr (8, [.int (nI 0), .ref g1, .ref g2, .ref g3, .ref g4, .int (nI tp), .int w6, .int w7, .int w8, .int w9, .int w10, .int w11, .int w12, .int w13, .int w14, .ref g15, .int w16, .ref g17, .int w18, .int w19, .ref g20, .int w21, .ref g22, .ref g23, .ref g24, .int w25, .int w26, .int w27, .ref g28, .ref g29, .int w30, .ref g31, .ref g32, .ref g33])), (g1, .inl (T 0, 282, .inl fa)), (g15, .inl (T 0, 10, .inl fh)), (g31, .inl (T 0, 4, .inl fq)), (g32, .inl (T 0, 4, .inl fm)), (g33, .inl (T 1, 160, .inr (.inl fn)))] H locs := V _ [] rfl rfl rfl (by decide +kernel) rfl
    show W p l e _ s m args below meth c H locs _ _ _ (F0 m 14 ls [.int (nI 0)])
    have r0 : (row < 0 ∨ nI 4 ≤ row) := nv_r rfl (by decide) f_3
    refine lv_if_ne (tgt := 20) hx hb dX8_perform_14 (by decide) (fun c => absurd (show (nI 0) = 0 by decide +kernel) c) (fun _ => ?_)
    refine lv_bipush (v := (-2)) hx hb dX8_perform_17 (by decide +kernel) ?_
    exact g_iret (Qr := (q_m_perform_f T n o row w0 g1 g2 g3 g4 tp w6 w7 w8 w9 w10 w11 w12 w13 w14 g15 w16 g17 w18 w19 g20 w21 g22 g23 g24 w25 w26 w27 g28 g29 w30 g31 g32 g33 fa fh fq fm fn)) hC V ⟨(Nat.le_of_ble_eq_true rfl), (Nat.le_of_ble_eq_true rfl)⟩ ⟨(-2), w16, w18, w19, fa, fh, rfl, rfl, ms0, (per_n (n := n) (f := fa) (fm := fm) (fn := fn) (rr_2 r0) (by decide +kernel)).1, (per_n (n := n) (f := fa) (fm := fm) (fn := fn) (rr_2 r0) (by decide +kernel)).2⟩ dX8_perform_19
