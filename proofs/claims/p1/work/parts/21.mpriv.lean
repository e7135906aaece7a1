def q_m_isSmith (T : Nat → ClassId) (o : Nat) (i : Int32) (w0 : Int32) (g1 : Nat) (g2 : Nat) (g3 : Nat) (g4 : Nat) (w5 : Int32) (w6 : Int32) (w7 : Int32) (w8 : Int32) (w9 : Int32) (w10 : Int32) (w11 : Int32) (w12 : Int32) (w13 : Int32) (w14 : Int32) (g15 : Nat) (w16 : Int32) (g17 : Nat) (w18 : Int32) (w19 : Int32) (g20 : Nat) (w21 : Int32) (g22 : Nat) (g23 : Nat) (g24 : Nat) (w25 : Int32) (w26 : Int32) (w27 : Int32) (g28 : Nat) (g29 : Nat) (w30 : Int32) (g31 : Nat) (g32 : Nat) (g33 : Nat) (fa : Nat → Int32) : Option Value → va_W → Prop := fun rr ww => (rr = some (.int (nI 0)) ∧ ww = [(o, .inr (8, [.int w0, .ref g1, .ref g2, .ref g3, .ref g4, .int w5, .int w6, .int w7, .int w8, .int w9, .int w10, .int w11, .int w12, .int w13, .int w14, .ref g15, .int w16, .ref g17, .int w18, .int w19, .ref g20, .int w21, .ref g22, .ref g23, .ref g24, .int w25, .int w26, .int w27, .ref g28, .ref g29, .int w30, .ref g31, .ref g32, .ref g33])), (g1, .inl (T 0, 282, .inl fa))])
set_option maxHeartbeats 4000000 in
set_option maxRecDepth 100000 in
theorem m_isSmith (l : Launch) (D : va_G) (T : Nat → ClassId) (o : Nat) (i : Int32) (w0 : Int32) (g1 : Nat) (g2 : Nat) (g3 : Nat) (g4 : Nat) (w5 : Int32) (w6 : Int32) (w7 : Int32) (w8 : Int32) (w9 : Int32) (w10 : Int32) (w11 : Int32) (w12 : Int32) (w13 : Int32) (w14 : Int32) (g15 : Nat) (w16 : Int32) (g17 : Nat) (w18 : Int32) (w19 : Int32) (g20 : Nat) (w21 : Int32) (g22 : Nat) (g23 : Nat) (g24 : Nat) (w25 : Int32) (w26 : Int32) (w27 : Int32) (g28 : Nat) (g29 : Nat) (w30 : Int32) (g31 : Nat) (g32 : Nat) (g33 : Nat) (fa : Nat → Int32) (h_a : fa 0 = nI 0) : Ct l yX8_isSmith cX8_isSmith 2 (some .boolean) 1 0 0 D T [.ref o, .int i] [(o, .inr (8, [.int w0, .ref g1, .ref g2, .ref g3, .ref g4, .int w5, .int w6, .int w7, .int w8, .int w9, .int w10, .int w11, .int w12, .int w13, .int w14, .ref g15, .int w16, .ref g17, .int w18, .int w19, .ref g20, .int w21, .ref g22, .ref g23, .ref g24, .int w25, .int w26, .int w27, .ref g28, .ref g29, .int w30, .ref g31, .ref g32, .ref g33])), (g1, .inl (T 0, 282, .inl fa))] (q_m_isSmith T o i w0 g1 g2 g3 g4 w5 w6 w7 w8 w9 w10 w11 w12 w13 w14 g15 w16 g17 w18 w19 g20 w21 g22 g23 g24 w25 w26 w27 g28 g29 w30 g31 g32 g33 fa) := by
  refine Ct.of (cc := cX8_isSmith) (maxL := 2) (ret := (some .boolean)) (by decide) (Nat.le_of_ble_eq_true rfl) ?_
  intro p e s m args below meth c A ls hC hnm V hl
  obtain ⟨hx, hb, hr, hml, hown, hts, hlocks⟩ := id hC
  generalize hH : s.heap = H at V ⊢
  clear hH
  have hl : lv_has ls 2 [(0, .ref o), (1, .int i)] := hl
  generalize hlo : ([] : List Loc) = locs at V ⊢
  clear hlo
  refine lv_iload_n hx hb dX8_isSmith_0 rfl (lv_at hl 1 rfl) ?_
  refine lv_i2l (v := i.toInt64) hx hb dX8_isSmith_1 rfl ?_
  refine lv_lconst (v := (nI 0).toInt64) hx hb dX8_isSmith_2 (by decide +kernel) ?_
  refine lv_aload_n hx hb dX8_isSmith_3 rfl (lv_at hl 0 rfl) ?_
  refine g_get hC V (ci := 8) uwX8 0 rfl rfl 1 (by decide) w_913 rfl rfl dX8_isSmith_4 ?_
  refine lv_iconst (v := (nI 0)) hx hb dX8_isSmith_7 (by decide +kernel) ?_
  refine g_iald hC V 1 rfl (vp_in_nI (by decide) (by decide)) (v := (nI 0)) (by rw [nI_clamp (by decide)]; first | rfl | exact h_a) dX8_isSmith_8 ?_
  refine lv_iconst (v := (nI 1)) hx hb dX8_isSmith_9 (by decide +kernel) ?_
  refine lv_isub hx hb dX8_isSmith_10 ?_
  refine g_vi (y := (-1)) (by decide +kernel) ?_
  refine lv_i2l (v := (-1 : Int32).toInt64) hx hb dX8_isSmith_11 rfl ?_
  refine g_callS (wr := [(o, .inr (8, [.int w0, .ref g1, .ref g2, .ref g3, .ref g4, .int w5, .int w6, .int w7, .int w8, .int w9, .int w10, .int w11, .int w12, .int w13, .int w14, .ref g15, .int w16, .ref g17, .int w18, .int w19, .ref g20, .int w21, .ref g22, .ref g23, .ref g24, .int w25, .int w26, .int w27, .ref g28, .ref g29, .int w30, .ref g31, .ref g32, .ref g33])), (g1, .inl (T 0, 282, .inl fa))]) (nA := 3) hC V hl.1 (c_within l D T i (nI 0) (-1 : Int32)) w_1023 w_1024 w_9 w_1025 (by decide +kernel) rfl ⟨(Nat.le_of_ble_eq_true rfl), (Nat.le_of_ble_eq_true rfl)⟩ [] [0, 1] rfl rfl rfl rfl (by decide) (Nat.le_of_ble_eq_true rfl) dX8_isSmith_12 ⟨(Nat.le_of_ble_eq_true rfl), (Nat.le_of_ble_eq_true rfl)⟩ rfl (fun r w1 H locs hQ V => ?_)
  rcases hQ with ⟨rfl, rfl, f_1, f_2⟩ | ⟨rfl, rfl, f_3⟩
  · have V : gW D T A s [(o, .inr (8, [.int w0, .ref g1, .ref g2, .ref g3, .ref g4, .int w5, .int w6, .int w7, .int w8, .int w9, .int w10, .int w11, .int w12, .int w13, .int w14, .ref g15, .int w16, .ref g17, .int w18, .int w19, .ref g20, .int w21, .ref g22, .ref g23, .ref g24, .int w25, .int w26, .int w27, .ref g28, .ref g29, .int w30, .ref g31, .ref g32, .ref g33])), (g1, .inl (T 0, 282, .inl fa))] H locs := V
    show W p l e _ s m args below meth c H locs _ _ _ (F0 m 15 ls [.int (nI 1)])
    exact (cv_no f_1 f_2 : False).elim
  · have V : gW D T A s [(o, .inr (8, [.int w0, .ref g1, .ref g2, .ref g3, .ref g4, .int w5, .int w6, .int w7, .int w8, .int w9, .int w10, .int w11, .int w12, .int w13, .int w14, .ref g15, .int w16, .ref g17, .int w18, .int w19, .ref g20, .int w21, .ref g22, .ref g23, .ref g24, .int w25, .int w26, .int w27, .ref g28, .ref g29, .int w30, .ref g31, .ref g32, .ref g33])), (g1, .inl (T 0, 282, .inl fa))] H locs := V
    show W p l e _ s m args below meth c H locs _ _ _ (F0 m 15 ls [.int (nI 0)])
    exact g_zret (Qr := (q_m_isSmith T o i w0 g1 g2 g3 g4 w5 w6 w7 w8 w9 w10 w11 w12 w13 w14 g15 w16 g17 w18 w19 g20 w21 g22 g23 g24 w25 w26 w27 g28 g29 w30 g31 g32 g33 fa)) hC V ⟨(Nat.le_of_ble_eq_true rfl), (Nat.le_of_ble_eq_true rfl)⟩ (by first | decide +kernel | exact rfl) ⟨rfl, rfl⟩ dX8_isSmith_15

def q_m_isSet (T : Nat → ClassId) (o : Nat) (v : Int32) (w0 : Int32) (g1 : Nat) (g2 : Nat) (g3 : Nat) (g4 : Nat) (w5 : Int32) (w6 : Int32) (w7 : Int32) (w8 : Int32) (w9 : Int32) (w10 : Int32) (w11 : Int32) (w12 : Int32) (w13 : Int32) (w14 : Int32) (g15 : Nat) (w16 : Int32) (g17 : Nat) (w18 : Int32) (w19 : Int32) (g20 : Nat) (w21 : Int32) (g22 : Nat) (g23 : Nat) (g24 : Nat) (w25 : Int32) (w26 : Int32) (w27 : Int32) (g28 : Nat) (g29 : Nat) (w30 : Int32) (g31 : Nat) (g32 : Nat) (g33 : Nat) (fa : Nat → Int32) : Option Value → va_W → Prop := fun rr ww => (rr = some (.int (nI 1)) ∧ ww = [(o, .inr (8, [.int w0, .ref g1, .ref g2, .ref g3, .ref g4, .int w5, .int w6, .int w7, .int w8, .int w9, .int w10, .int w11, .int w12, .int w13, .int w14, .ref g15, .int w16, .ref g17, .int w18, .int w19, .ref g20, .int w21, .ref g22, .ref g23, .ref g24, .int w25, .int w26, .int w27, .ref g28, .ref g29, .int w30, .ref g31, .ref g32, .ref g33])), (g1, .inl (T 0, 282, .inl fa))] ∧ v = 0) ∨ (rr = some (.int (nI 0)) ∧ ww = [(o, .inr (8, [.int w0, .ref g1, .ref g2, .ref g3, .ref g4, .int w5, .int w6, .int w7, .int w8, .int w9, .int w10, .int w11, .int w12, .int w13, .int w14, .ref g15, .int w16, .ref g17, .int w18, .int w19, .ref g20, .int w21, .ref g22, .ref g23, .ref g24, .int w25, .int w26, .int w27, .ref g28, .ref g29, .int w30, .ref g31, .ref g32, .ref g33])), (g1, .inl (T 0, 282, .inl fa))] ∧ ¬ v = 0)
set_option maxHeartbeats 4000000 in
set_option maxRecDepth 100000 in
theorem m_isSet (l : Launch) (D : va_G) (T : Nat → ClassId) (o : Nat) (v : Int32) (w0 : Int32) (g1 : Nat) (g2 : Nat) (g3 : Nat) (g4 : Nat) (w5 : Int32) (w6 : Int32) (w7 : Int32) (w8 : Int32) (w9 : Int32) (w10 : Int32) (w11 : Int32) (w12 : Int32) (w13 : Int32) (w14 : Int32) (g15 : Nat) (w16 : Int32) (g17 : Nat) (w18 : Int32) (w19 : Int32) (g20 : Nat) (w21 : Int32) (g22 : Nat) (g23 : Nat) (g24 : Nat) (w25 : Int32) (w26 : Int32) (w27 : Int32) (g28 : Nat) (g29 : Nat) (w30 : Int32) (g31 : Nat) (g32 : Nat) (g33 : Nat) (fa : Nat → Int32) (h_a : fa 0 = nI 0) : Ct l yX8_isSet cX8_isSet 3 (some .boolean) 1 0 0 D T [.ref o, .long v.toInt64] [(o, .inr (8, [.int w0, .ref g1, .ref g2, .ref g3, .ref g4, .int w5, .int w6, .int w7, .int w8, .int w9, .int w10, .int w11, .int w12, .int w13, .int w14, .ref g15, .int w16, .ref g17, .int w18, .int w19, .ref g20, .int w21, .ref g22, .ref g23, .ref g24, .int w25, .int w26, .int w27, .ref g28, .ref g29, .int w30, .ref g31, .ref g32, .ref g33])), (g1, .inl (T 0, 282, .inl fa))] (q_m_isSet T o v w0 g1 g2 g3 g4 w5 w6 w7 w8 w9 w10 w11 w12 w13 w14 g15 w16 g17 w18 w19 g20 w21 g22 g23 g24 w25 w26 w27 g28 g29 w30 g31 g32 g33 fa) := by
  refine Ct.of (cc := cX8_isSet) (maxL := 3) (ret := (some .boolean)) (by decide) (Nat.le_of_ble_eq_true rfl) ?_
  intro p e s m args below meth c A ls hC hnm V hl
  obtain ⟨hx, hb, hr, hml, hown, hts, hlocks⟩ := id hC
  generalize hH : s.heap = H at V ⊢
  clear hH
  have hl : lv_has ls 3 [(0, .ref o), (1, .long v.toInt64)] := hl
  generalize hlo : ([] : List Loc) = locs at V ⊢
  clear hlo
  refine lv_lload_n hx hb dX8_isSet_0 rfl (lv_at hl 1 rfl) ?_
  refine lv_lconst (v := (nI 0).toInt64) hx hb dX8_isSet_1 (by decide +kernel) ?_
  refine lv_lconst (v := (nI 1).toInt64) hx hb dX8_isSet_2 (by decide +kernel) ?_
  refine lv_aload_n hx hb dX8_isSet_3 rfl (lv_at hl 0 rfl) ?_
  refine g_get hC V (ci := 8) uwX8 0 rfl rfl 1 (by decide) w_913 rfl rfl dX8_isSet_4 ?_
  refine lv_iconst (v := (nI 0)) hx hb dX8_isSet_7 (by decide +kernel) ?_
  refine g_iald hC V 1 rfl (vp_in_nI (by decide) (by decide)) (v := (nI 0)) (by rw [nI_clamp (by decide)]; first | rfl | exact h_a) dX8_isSet_8 ?_
  refine lv_lshl hx hb dX8_isSet_9 rfl ?_
  refine g_vl (y := (nI 1).toInt64) (by decide +kernel) ?_
  refine lv_lconst (v := (nI 1).toInt64) hx hb dX8_isSet_10 (by decide +kernel) ?_
  refine lv_lsub hx hb dX8_isSet_11 ?_
  refine g_vl (y := (nI 0).toInt64) (by decide +kernel) ?_
  refine g_callS (wr := [(o, .inr (8, [.int w0, .ref g1, .ref g2, .ref g3, .ref g4, .int w5, .int w6, .int w7, .int w8, .int w9, .int w10, .int w11, .int w12, .int w13, .int w14, .ref g15, .int w16, .ref g17, .int w18, .int w19, .ref g20, .int w21, .ref g22, .ref g23, .ref g24, .int w25, .int w26, .int w27, .ref g28, .ref g29, .int w30, .ref g31, .ref g32, .ref g33])), (g1, .inl (T 0, 282, .inl fa))]) (nA := 3) hC V hl.1 (c_within l D T v (nI 0) (nI 0)) w_1023 w_1024 w_9 w_1025 (by decide +kernel) rfl ⟨(Nat.le_of_ble_eq_true rfl), (Nat.le_of_ble_eq_true rfl)⟩ [] [0, 1] rfl rfl rfl rfl (by decide) (Nat.le_of_ble_eq_true rfl) dX8_isSet_12 ⟨(Nat.le_of_ble_eq_true rfl), (Nat.le_of_ble_eq_true rfl)⟩ rfl (fun r w1 H locs hQ V => ?_)
  rcases hQ with ⟨rfl, rfl, f_1, f_2⟩ | ⟨rfl, rfl, f_3⟩
  · have V : gW D T A s [(o, .inr (8, [.int w0, .ref g1, .ref g2, .ref g3, .ref g4, .int w5, .int w6, .int w7, .int w8, .int w9, .int w10, .int w11, .int w12, .int w13, .int w14, .ref g15, .int w16, .ref g17, .int w18, .int w19, .ref g20, .int w21, .ref g22, .ref g23, .ref g24, .int w25, .int w26, .int w27, .ref g28, .ref g29, .int w30, .ref g31, .ref g32, .ref g33])), (g1, .inl (T 0, 282, .inl fa))] H locs := V
    show W p l e _ s m args below meth c H locs _ _ _ (F0 m 15 ls [.int (nI 1)])
    have fz := cv_z f_1 f_2
    exact g_zret (Qr := (q_m_isSet T o v w0 g1 g2 g3 g4 w5 w6 w7 w8 w9 w10 w11 w12 w13 w14 g15 w16 g17 w18 w19 g20 w21 g22 g23 g24 w25 w26 w27 g28 g29 w30 g31 g32 g33 fa)) hC V ⟨(Nat.le_of_ble_eq_true rfl), (Nat.le_of_ble_eq_true rfl)⟩ (by first | decide +kernel | exact rfl) (.inl ⟨rfl, rfl, fz⟩) dX8_isSet_15
  · have V : gW D T A s [(o, .inr (8, [.int w0, .ref g1, .ref g2, .ref g3, .ref g4, .int w5, .int w6, .int w7, .int w8, .int w9, .int w10, .int w11, .int w12, .int w13, .int w14, .ref g15, .int w16, .ref g17, .int w18, .int w19, .ref g20, .int w21, .ref g22, .ref g23, .ref g24, .int w25, .int w26, .int w27, .ref g28, .ref g29, .int w30, .ref g31, .ref g32, .ref g33])), (g1, .inl (T 0, 282, .inl fa))] H locs := V
    show W p l e _ s m args below meth c H locs _ _ _ (F0 m 15 ls [.int (nI 0)])
    have fz := cv_nz f_3
    exact g_zret (Qr := (q_m_isSet T o v w0 g1 g2 g3 g4 w5 w6 w7 w8 w9 w10 w11 w12 w13 w14 g15 w16 g17 w18 w19 g20 w21 g22 g23 g24 w25 w26 w27 g28 g29 w30 g31 g32 g33 fa)) hC V ⟨(Nat.le_of_ble_eq_true rfl), (Nat.le_of_ble_eq_true rfl)⟩ (by first | decide +kernel | exact rfl) (.inr ⟨rfl, rfl, fz⟩) dX8_isSet_15

def q_m_doneMany (T : Nat → ClassId) (o : Nat) (w0 : Int32) (g1 : Nat) (g2 : Nat) (g3 : Nat) (g4 : Nat) (w5 : Int32) (w6 : Int32) (w7 : Int32) (w8 : Int32) (w9 : Int32) (w10 : Int32) (w11 : Int32) (w12 : Int32) (w13 : Int32) (w14 : Int32) (g15 : Nat) (w16 : Int32) (g17 : Nat) (w18 : Int32) (w19 : Int32) (g20 : Nat) (w21 : Int32) (g22 : Nat) (g23 : Nat) (g24 : Nat) (w25 : Int32) (w26 : Int32) (w27 : Int32) (g28 : Nat) (g29 : Nat) (w30 : Int32) (g31 : Nat) (g32 : Nat) (g33 : Nat) (fa : Nat → Int32) : Option Value → va_W → Prop := fun rr ww => (rr = some (.int (nI 0)) ∧ ww = [(o, .inr (8, [.int w0, .ref g1, .ref g2, .ref g3, .ref g4, .int w5, .int w6, .int w7, .int w8, .int w9, .int w10, .int w11, .int w12, .int w13, .int w14, .ref g15, .int w16, .ref g17, .int w18, .int w19, .ref g20, .int w21, .ref g22, .ref g23, .ref g24, .int w25, .int w26, .int w27, .ref g28, .ref g29, .int w30, .ref g31, .ref g32, .ref g33])), (g1, .inl (T 0, 282, .inl fa))])
set_option maxHeartbeats 4000000 in
set_option maxRecDepth 100000 in
theorem m_doneMany (l : Launch) (D : va_G) (T : Nat → ClassId) (o : Nat) (w0 : Int32) (g1 : Nat) (g2 : Nat) (g3 : Nat) (g4 : Nat) (w5 : Int32) (w6 : Int32) (w7 : Int32) (w8 : Int32) (w9 : Int32) (w10 : Int32) (w11 : Int32) (w12 : Int32) (w13 : Int32) (w14 : Int32) (g15 : Nat) (w16 : Int32) (g17 : Nat) (w18 : Int32) (w19 : Int32) (g20 : Nat) (w21 : Int32) (g22 : Nat) (g23 : Nat) (g24 : Nat) (w25 : Int32) (w26 : Int32) (w27 : Int32) (g28 : Nat) (g29 : Nat) (w30 : Int32) (g31 : Nat) (g32 : Nat) (g33 : Nat) (fa : Nat → Int32) (h_a : fa 0 = nI 0) : Ct l yX8_doneMany cX8_doneMany 3 (some .int) 1 0 0 D T [.ref o] [(o, .inr (8, [.int w0, .ref g1, .ref g2, .ref g3, .ref g4, .int w5, .int w6, .int w7, .int w8, .int w9, .int w10, .int w11, .int w12, .int w13, .int w14, .ref g15, .int w16, .ref g17, .int w18, .int w19, .ref g20, .int w21, .ref g22, .ref g23, .ref g24, .int w25, .int w26, .int w27, .ref g28, .ref g29, .int w30, .ref g31, .ref g32, .ref g33])), (g1, .inl (T 0, 282, .inl fa))] (q_m_doneMany T o w0 g1 g2 g3 g4 w5 w6 w7 w8 w9 w10 w11 w12 w13 w14 g15 w16 g17 w18 w19 g20 w21 g22 g23 g24 w25 w26 w27 g28 g29 w30 g31 g32 g33 fa) := by
  refine Ct.of (cc := cX8_doneMany) (maxL := 3) (ret := (some .int)) (by decide) (Nat.le_of_ble_eq_true rfl) ?_
  intro p e s m args below meth c A ls hC hnm V hl
  obtain ⟨hx, hb, hr, hml, hown, hts, hlocks⟩ := id hC
  generalize hH : s.heap = H at V ⊢
  clear hH
  have hl : lv_has ls 3 [(0, .ref o)] := hl
  generalize hlo : ([] : List Loc) = locs at V ⊢
  clear hlo
  refine lv_iconst (v := (nI 0)) hx hb dX8_doneMany_0 (by decide +kernel) ?_
  refine lv_istore_n (lv' := [(1, .int (nI 0)), (0, .ref o)]) hx hb dX8_doneMany_1 rfl hl (by decide) rfl (fun ls hl => ?_)
  refine lv_iconst (v := (nI 0)) hx hb dX8_doneMany_2 (by decide +kernel) ?_
  refine lv_istore_n (lv' := [(2, .int (nI 0)), (1, .int (nI 0)), (0, .ref o)]) hx hb dX8_doneMany_3 rfl hl (by decide) rfl (fun ls hl => ?_)
  refine lv_iload_n hx hb dX8_doneMany_4 rfl (lv_at hl 0 rfl) ?_
  refine lv_aload_n hx hb dX8_doneMany_5 rfl (lv_at hl 2 rfl) ?_
  refine g_get hC V (ci := 8) uwX8 0 rfl rfl 1 (by decide) w_913 rfl rfl dX8_doneMany_6 ?_
  refine lv_iconst (v := (nI 0)) hx hb dX8_doneMany_9 (by decide +kernel) ?_
  refine g_iald hC V 1 rfl (vp_in_nI (by decide) (by decide)) (v := (nI 0)) (by rw [nI_clamp (by decide)]; first | rfl | exact h_a) dX8_doneMany_10 ?_
  refine lv_icmp_ge (tgt := 36) hx hb dX8_doneMany_11 (by decide) (fun _ => ?_) (fun c => absurd (show (nI 0) ≤ (nI 0) by first | rfl | decide +kernel) c)
  refine lv_iload_n hx hb dX8_doneMany_36 rfl (lv_at hl 1 rfl) ?_
  exact g_iret (Qr := (q_m_doneMany T o w0 g1 g2 g3 g4 w5 w6 w7 w8 w9 w10 w11 w12 w13 w14 g15 w16 g17 w18 w19 g20 w21 g22 g23 g24 w25 w26 w27 g28 g29 w30 g31 g32 g33 fa)) hC V ⟨(Nat.le_of_ble_eq_true rfl), (Nat.le_of_ble_eq_true rfl)⟩ ⟨rfl, rfl⟩ dX8_doneMany_37

def q_m_blowersOf (T : Nat → ClassId) (o : Nat) (i : Int32) (w0 : Int32) (g1 : Nat) (g2 : Nat) (g3 : Nat) (g4 : Nat) (w5 : Int32) (w6 : Int32) (w7 : Int32) (w8 : Int32) (w9 : Int32) (w10 : Int32) (w11 : Int32) (w12 : Int32) (w13 : Int32) (w14 : Int32) (g15 : Nat) (w16 : Int32) (g17 : Nat) (w18 : Int32) (w19 : Int32) (g20 : Nat) (w21 : Int32) (g22 : Nat) (g23 : Nat) (g24 : Nat) (w25 : Int32) (w26 : Int32) (w27 : Int32) (g28 : Nat) (g29 : Nat) (w30 : Int32) (g31 : Nat) (g32 : Nat) (g33 : Nat) (fa : Nat → Int32) : Option Value → va_W → Prop := fun rr ww => (rr = some (.int (nI 0)) ∧ ww = [(o, .inr (8, [.int w0, .ref g1, .ref g2, .ref g3, .ref g4, .int w5, .int w6, .int w7, .int w8, .int w9, .int w10, .int w11, .int w12, .int w13, .int w14, .ref g15, .int w16, .ref g17, .int w18, .int w19, .ref g20, .int w21, .ref g22, .ref g23, .ref g24, .int w25, .int w26, .int w27, .ref g28, .ref g29, .int w30, .ref g31, .ref g32, .ref g33])), (g1, .inl (T 0, 282, .inl fa))])
set_option maxHeartbeats 4000000 in
set_option maxRecDepth 100000 in
theorem m_blowersOf (l : Launch) (D : va_G) (T : Nat → ClassId) (o : Nat) (i : Int32) (w0 : Int32) (g1 : Nat) (g2 : Nat) (g3 : Nat) (g4 : Nat) (w5 : Int32) (w6 : Int32) (w7 : Int32) (w8 : Int32) (w9 : Int32) (w10 : Int32) (w11 : Int32) (w12 : Int32) (w13 : Int32) (w14 : Int32) (g15 : Nat) (w16 : Int32) (g17 : Nat) (w18 : Int32) (w19 : Int32) (g20 : Nat) (w21 : Int32) (g22 : Nat) (g23 : Nat) (g24 : Nat) (w25 : Int32) (w26 : Int32) (w27 : Int32) (g28 : Nat) (g29 : Nat) (w30 : Int32) (g31 : Nat) (g32 : Nat) (g33 : Nat) (fa : Nat → Int32) (h_a : fa 0 = nI 0) : Ct l yX8_blowersOf cX8_blowersOf 4 (some .int) 1 0 0 D T [.ref o, .int i] [(o, .inr (8, [.int w0, .ref g1, .ref g2, .ref g3, .ref g4, .int w5, .int w6, .int w7, .int w8, .int w9, .int w10, .int w11, .int w12, .int w13, .int w14, .ref g15, .int w16, .ref g17, .int w18, .int w19, .ref g20, .int w21, .ref g22, .ref g23, .ref g24, .int w25, .int w26, .int w27, .ref g28, .ref g29, .int w30, .ref g31, .ref g32, .ref g33])), (g1, .inl (T 0, 282, .inl fa))] (q_m_blowersOf T o i w0 g1 g2 g3 g4 w5 w6 w7 w8 w9 w10 w11 w12 w13 w14 g15 w16 g17 w18 w19 g20 w21 g22 g23 g24 w25 w26 w27 g28 g29 w30 g31 g32 g33 fa) := by
  refine Ct.of (cc := cX8_blowersOf) (maxL := 4) (ret := (some .int)) (by decide) (Nat.le_of_ble_eq_true rfl) ?_
  intro p e s m args below meth c A ls hC hnm V hl
  obtain ⟨hx, hb, hr, hml, hown, hts, hlocks⟩ := id hC
  generalize hH : s.heap = H at V ⊢
  clear hH
  have hl : lv_has ls 4 [(0, .ref o), (1, .int i)] := hl
  generalize hlo : ([] : List Loc) = locs at V ⊢
  clear hlo
  refine lv_iconst (v := (nI 0)) hx hb dX8_blowersOf_0 (by decide +kernel) ?_
  refine lv_istore_n (lv' := [(2, .int (nI 0)), (0, .ref o), (1, .int i)]) hx hb dX8_blowersOf_1 rfl hl (by decide) rfl (fun ls hl => ?_)
  refine lv_iconst (v := (nI 0)) hx hb dX8_blowersOf_2 (by decide +kernel) ?_
  refine lv_istore_n (lv' := [(3, .int (nI 0)), (2, .int (nI 0)), (0, .ref o), (1, .int i)]) hx hb dX8_blowersOf_3 rfl hl (by decide) rfl (fun ls hl => ?_)
  refine lv_iload_n hx hb dX8_blowersOf_4 rfl (lv_at hl 0 rfl) ?_
  refine lv_aload_n hx hb dX8_blowersOf_5 rfl (lv_at hl 2 rfl) ?_
  refine g_get hC V (ci := 8) uwX8 0 rfl rfl 1 (by decide) w_913 rfl rfl dX8_blowersOf_6 ?_
  refine lv_iconst (v := (nI 0)) hx hb dX8_blowersOf_9 (by decide +kernel) ?_
  refine g_iald hC V 1 rfl (vp_in_nI (by decide) (by decide)) (v := (nI 0)) (by rw [nI_clamp (by decide)]; first | rfl | exact h_a) dX8_blowersOf_10 ?_
  refine lv_icmp_ge (tgt := 43) hx hb dX8_blowersOf_11 (by decide) (fun _ => ?_) (fun c => absurd (show (nI 0) ≤ (nI 0) by first | rfl | decide +kernel) c)
  refine lv_iload_n hx hb dX8_blowersOf_43 rfl (lv_at hl 1 rfl) ?_
  exact g_iret (Qr := (q_m_blowersOf T o i w0 g1 g2 g3 g4 w5 w6 w7 w8 w9 w10 w11 w12 w13 w14 g15 w16 g17 w18 w19 g20 w21 g22 g23 g24 w25 w26 w27 g28 g29 w30 g31 g32 g33 fa)) hC V ⟨(Nat.le_of_ble_eq_true rfl), (Nat.le_of_ble_eq_true rfl)⟩ ⟨rfl, rfl⟩ dX8_blowersOf_44

def q_m_pulling (T : Nat → ClassId) (o : Nat) (i : Int32) (w0 : Int32) (g1 : Nat) (g2 : Nat) (g3 : Nat) (g4 : Nat) (w5 : Int32) (w6 : Int32) (w7 : Int32) (w8 : Int32) (w9 : Int32) (w10 : Int32) (w11 : Int32) (w12 : Int32) (w13 : Int32) (w14 : Int32) (g15 : Nat) (w16 : Int32) (g17 : Nat) (w18 : Int32) (w19 : Int32) (g20 : Nat) (w21 : Int32) (g22 : Nat) (g23 : Nat) (g24 : Nat) (w25 : Int32) (w26 : Int32) (w27 : Int32) (g28 : Nat) (g29 : Nat) (w30 : Int32) (g31 : Nat) (g32 : Nat) (g33 : Nat) (fa : Nat → Int32) : Option Value → va_W → Prop := fun rr ww => (rr = some (.int (nI 0)) ∧ ww = [(o, .inr (8, [.int w0, .ref g1, .ref g2, .ref g3, .ref g4, .int w5, .int w6, .int w7, .int w8, .int w9, .int w10, .int w11, .int w12, .int w13, .int w14, .ref g15, .int w16, .ref g17, .int w18, .int w19, .ref g20, .int w21, .ref g22, .ref g23, .ref g24, .int w25, .int w26, .int w27, .ref g28, .ref g29, .int w30, .ref g31, .ref g32, .ref g33])), (g1, .inl (T 0, 282, .inl fa))])
set_option maxHeartbeats 4000000 in
set_option maxRecDepth 100000 in
theorem m_pulling (l : Launch) (D : va_G) (T : Nat → ClassId) (o : Nat) (i : Int32) (w0 : Int32) (g1 : Nat) (g2 : Nat) (g3 : Nat) (g4 : Nat) (w5 : Int32) (w6 : Int32) (w7 : Int32) (w8 : Int32) (w9 : Int32) (w10 : Int32) (w11 : Int32) (w12 : Int32) (w13 : Int32) (w14 : Int32) (g15 : Nat) (w16 : Int32) (g17 : Nat) (w18 : Int32) (w19 : Int32) (g20 : Nat) (w21 : Int32) (g22 : Nat) (g23 : Nat) (g24 : Nat) (w25 : Int32) (w26 : Int32) (w27 : Int32) (g28 : Nat) (g29 : Nat) (w30 : Int32) (g31 : Nat) (g32 : Nat) (g33 : Nat) (fa : Nat → Int32) (h_a : fa 0 = nI 0) : Ct l yX8_pulling cX8_pulling 4 (some .int) 1 0 0 D T [.ref o, .int i] [(o, .inr (8, [.int w0, .ref g1, .ref g2, .ref g3, .ref g4, .int w5, .int w6, .int w7, .int w8, .int w9, .int w10, .int w11, .int w12, .int w13, .int w14, .ref g15, .int w16, .ref g17, .int w18, .int w19, .ref g20, .int w21, .ref g22, .ref g23, .ref g24, .int w25, .int w26, .int w27, .ref g28, .ref g29, .int w30, .ref g31, .ref g32, .ref g33])), (g1, .inl (T 0, 282, .inl fa))] (q_m_pulling T o i w0 g1 g2 g3 g4 w5 w6 w7 w8 w9 w10 w11 w12 w13 w14 g15 w16 g17 w18 w19 g20 w21 g22 g23 g24 w25 w26 w27 g28 g29 w30 g31 g32 g33 fa) := by
  refine Ct.of (cc := cX8_pulling) (maxL := 4) (ret := (some .int)) (by decide) (Nat.le_of_ble_eq_true rfl) ?_
  intro p e s m args below meth c A ls hC hnm V hl
  obtain ⟨hx, hb, hr, hml, hown, hts, hlocks⟩ := id hC
  generalize hH : s.heap = H at V ⊢
  clear hH
  have hl : lv_has ls 4 [(0, .ref o), (1, .int i)] := hl
  generalize hlo : ([] : List Loc) = locs at V ⊢
  clear hlo
  refine lv_iconst (v := (nI 0)) hx hb dX8_pulling_0 (by decide +kernel) ?_
  refine lv_istore_n (lv' := [(2, .int (nI 0)), (0, .ref o), (1, .int i)]) hx hb dX8_pulling_1 rfl hl (by decide) rfl (fun ls hl => ?_)
  refine lv_iconst (v := (nI 0)) hx hb dX8_pulling_2 (by decide +kernel) ?_
  refine lv_istore_n (lv' := [(3, .int (nI 0)), (2, .int (nI 0)), (0, .ref o), (1, .int i)]) hx hb dX8_pulling_3 rfl hl (by decide) rfl (fun ls hl => ?_)
  refine lv_iload_n hx hb dX8_pulling_4 rfl (lv_at hl 0 rfl) ?_
  refine lv_aload_n hx hb dX8_pulling_5 rfl (lv_at hl 2 rfl) ?_
  refine g_get hC V (ci := 8) uwX8 0 rfl rfl 1 (by decide) w_913 rfl rfl dX8_pulling_6 ?_
  refine lv_iconst (v := (nI 0)) hx hb dX8_pulling_9 (by decide +kernel) ?_
  refine g_iald hC V 1 rfl (vp_in_nI (by decide) (by decide)) (v := (nI 0)) (by rw [nI_clamp (by decide)]; first | rfl | exact h_a) dX8_pulling_10 ?_
  refine lv_icmp_ge (tgt := 43) hx hb dX8_pulling_11 (by decide) (fun _ => ?_) (fun c => absurd (show (nI 0) ≤ (nI 0) by first | rfl | decide +kernel) c)
  refine lv_iload_n hx hb dX8_pulling_43 rfl (lv_at hl 1 rfl) ?_
  exact g_iret (Qr := (q_m_pulling T o i w0 g1 g2 g3 g4 w5 w6 w7 w8 w9 w10 w11 w12 w13 w14 g15 w16 g17 w18 w19 g20 w21 g22 g23 g24 w25 w26 w27 g28 g29 w30 g31 g32 g33 fa)) hC V ⟨(Nat.le_of_ble_eq_true rfl), (Nat.le_of_ble_eq_true rfl)⟩ ⟨rfl, rfl⟩ dX8_pulling_44

def q_m_payOfAll (T : Nat → ClassId) (o : Nat) (i : Int32) (w0 : Int32) (g1 : Nat) (g2 : Nat) (g3 : Nat) (g4 : Nat) (w5 : Int32) (w6 : Int32) (w7 : Int32) (w8 : Int32) (w9 : Int32) (w10 : Int32) (w11 : Int32) (w12 : Int32) (w13 : Int32) (w14 : Int32) (g15 : Nat) (w16 : Int32) (g17 : Nat) (w18 : Int32) (w19 : Int32) (g20 : Nat) (w21 : Int32) (g22 : Nat) (g23 : Nat) (g24 : Nat) (w25 : Int32) (w26 : Int32) (w27 : Int32) (g28 : Nat) (g29 : Nat) (w30 : Int32) (g31 : Nat) (g32 : Nat) (g33 : Nat) (fa : Nat → Int32) : Option Value → va_W → Prop := fun rr ww => (rr = some (.int (nI 0)) ∧ ww = [(o, .inr (8, [.int w0, .ref g1, .ref g2, .ref g3, .ref g4, .int w5, .int w6, .int w7, .int w8, .int w9, .int w10, .int w11, .int w12, .int w13, .int w14, .ref g15, .int w16, .ref g17, .int w18, .int w19, .ref g20, .int w21, .ref g22, .ref g23, .ref g24, .int w25, .int w26, .int w27, .ref g28, .ref g29, .int w30, .ref g31, .ref g32, .ref g33])), (g1, .inl (T 0, 282, .inl fa))])
set_option maxHeartbeats 4000000 in
set_option maxRecDepth 100000 in
theorem m_payOfAll (l : Launch) (D : va_G) (T : Nat → ClassId) (o : Nat) (i : Int32) (w0 : Int32) (g1 : Nat) (g2 : Nat) (g3 : Nat) (g4 : Nat) (w5 : Int32) (w6 : Int32) (w7 : Int32) (w8 : Int32) (w9 : Int32) (w10 : Int32) (w11 : Int32) (w12 : Int32) (w13 : Int32) (w14 : Int32) (g15 : Nat) (w16 : Int32) (g17 : Nat) (w18 : Int32) (w19 : Int32) (g20 : Nat) (w21 : Int32) (g22 : Nat) (g23 : Nat) (g24 : Nat) (w25 : Int32) (w26 : Int32) (w27 : Int32) (g28 : Nat) (g29 : Nat) (w30 : Int32) (g31 : Nat) (g32 : Nat) (g33 : Nat) (fa : Nat → Int32) (h_a : fa 0 = nI 0) : Ct l yX8_payOfAll cX8_payOfAll 4 (some .int) 1 0 0 D T [.ref o, .int i] [(o, .inr (8, [.int w0, .ref g1, .ref g2, .ref g3, .ref g4, .int w5, .int w6, .int w7, .int w8, .int w9, .int w10, .int w11, .int w12, .int w13, .int w14, .ref g15, .int w16, .ref g17, .int w18, .int w19, .ref g20, .int w21, .ref g22, .ref g23, .ref g24, .int w25, .int w26, .int w27, .ref g28, .ref g29, .int w30, .ref g31, .ref g32, .ref g33])), (g1, .inl (T 0, 282, .inl fa))] (q_m_payOfAll T o i w0 g1 g2 g3 g4 w5 w6 w7 w8 w9 w10 w11 w12 w13 w14 g15 w16 g17 w18 w19 g20 w21 g22 g23 g24 w25 w26 w27 g28 g29 w30 g31 g32 g33 fa) := by
  refine Ct.of (cc := cX8_payOfAll) (maxL := 4) (ret := (some .int)) (by decide) (Nat.le_of_ble_eq_true rfl) ?_
  intro p e s m args below meth c A ls hC hnm V hl
  obtain ⟨hx, hb, hr, hml, hown, hts, hlocks⟩ := id hC
  generalize hH : s.heap = H at V ⊢
  clear hH
  have hl : lv_has ls 4 [(0, .ref o), (1, .int i)] := hl
  generalize hlo : ([] : List Loc) = locs at V ⊢
  clear hlo
  refine lv_iconst (v := (nI 0)) hx hb dX8_payOfAll_0 (by decide +kernel) ?_
  refine lv_istore_n (lv' := [(2, .int (nI 0)), (0, .ref o), (1, .int i)]) hx hb dX8_payOfAll_1 rfl hl (by decide) rfl (fun ls hl => ?_)
  refine lv_iconst (v := (nI 0)) hx hb dX8_payOfAll_2 (by decide +kernel) ?_
  refine lv_istore_n (lv' := [(3, .int (nI 0)), (2, .int (nI 0)), (0, .ref o), (1, .int i)]) hx hb dX8_payOfAll_3 rfl hl (by decide) rfl (fun ls hl => ?_)
  refine lv_iload_n hx hb dX8_payOfAll_4 rfl (lv_at hl 0 rfl) ?_
  refine lv_aload_n hx hb dX8_payOfAll_5 rfl (lv_at hl 2 rfl) ?_
  refine g_get hC V (ci := 8) uwX8 0 rfl rfl 1 (by decide) w_913 rfl rfl dX8_payOfAll_6 ?_
  refine lv_iconst (v := (nI 0)) hx hb dX8_payOfAll_9 (by decide +kernel) ?_
  refine g_iald hC V 1 rfl (vp_in_nI (by decide) (by decide)) (v := (nI 0)) (by rw [nI_clamp (by decide)]; first | rfl | exact h_a) dX8_payOfAll_10 ?_
  refine lv_icmp_ge (tgt := 29) hx hb dX8_payOfAll_11 (by decide) (fun _ => ?_) (fun c => absurd (show (nI 0) ≤ (nI 0) by first | rfl | decide +kernel) c)
  refine lv_iload_n hx hb dX8_payOfAll_29 rfl (lv_at hl 1 rfl) ?_
  exact g_iret (Qr := (q_m_payOfAll T o i w0 g1 g2 g3 g4 w5 w6 w7 w8 w9 w10 w11 w12 w13 w14 g15 w16 g17 w18 w19 g20 w21 g22 g23 g24 w25 w26 w27 g28 g29 w30 g31 g32 g33 fa)) hC V ⟨(Nat.le_of_ble_eq_true rfl), (Nat.le_of_ble_eq_true rfl)⟩ ⟨rfl, rfl⟩ dX8_payOfAll_30

def q_m_sumOf (T : Nat → ClassId) (o : Nat) (i : Int32) (w0 : Int32) (g1 : Nat) (g2 : Nat) (g3 : Nat) (g4 : Nat) (w5 : Int32) (w6 : Int32) (w7 : Int32) (w8 : Int32) (w9 : Int32) (w10 : Int32) (w11 : Int32) (w12 : Int32) (w13 : Int32) (w14 : Int32) (g15 : Nat) (w16 : Int32) (g17 : Nat) (w18 : Int32) (w19 : Int32) (g20 : Nat) (w21 : Int32) (g22 : Nat) (g23 : Nat) (g24 : Nat) (w25 : Int32) (w26 : Int32) (w27 : Int32) (g28 : Nat) (g29 : Nat) (w30 : Int32) (g31 : Nat) (g32 : Nat) (g33 : Nat) (fa : Nat → Int32) : Option Value → va_W → Prop := fun rr ww => (rr = some (.int (nI 0)) ∧ ww = [(o, .inr (8, [.int w0, .ref g1, .ref g2, .ref g3, .ref g4, .int w5, .int w6, .int w7, .int w8, .int w9, .int w10, .int w11, .int w12, .int w13, .int w14, .ref g15, .int w16, .ref g17, .int w18, .int w19, .ref g20, .int w21, .ref g22, .ref g23, .ref g24, .int w25, .int w26, .int w27, .ref g28, .ref g29, .int w30, .ref g31, .ref g32, .ref g33])), (g1, .inl (T 0, 282, .inl fa))])
set_option maxHeartbeats 4000000 in
set_option maxRecDepth 100000 in
theorem m_sumOf (l : Launch) (D : va_G) (T : Nat → ClassId) (o : Nat) (i : Int32) (w0 : Int32) (g1 : Nat) (g2 : Nat) (g3 : Nat) (g4 : Nat) (w5 : Int32) (w6 : Int32) (w7 : Int32) (w8 : Int32) (w9 : Int32) (w10 : Int32) (w11 : Int32) (w12 : Int32) (w13 : Int32) (w14 : Int32) (g15 : Nat) (w16 : Int32) (g17 : Nat) (w18 : Int32) (w19 : Int32) (g20 : Nat) (w21 : Int32) (g22 : Nat) (g23 : Nat) (g24 : Nat) (w25 : Int32) (w26 : Int32) (w27 : Int32) (g28 : Nat) (g29 : Nat) (w30 : Int32) (g31 : Nat) (g32 : Nat) (g33 : Nat) (fa : Nat → Int32) (h_a : fa 0 = nI 0) : Ct l yX8_sumOf cX8_sumOf 4 (some .int) 1 0 0 D T [.ref o, .int i] [(o, .inr (8, [.int w0, .ref g1, .ref g2, .ref g3, .ref g4, .int w5, .int w6, .int w7, .int w8, .int w9, .int w10, .int w11, .int w12, .int w13, .int w14, .ref g15, .int w16, .ref g17, .int w18, .int w19, .ref g20, .int w21, .ref g22, .ref g23, .ref g24, .int w25, .int w26, .int w27, .ref g28, .ref g29, .int w30, .ref g31, .ref g32, .ref g33])), (g1, .inl (T 0, 282, .inl fa))] (q_m_sumOf T o i w0 g1 g2 g3 g4 w5 w6 w7 w8 w9 w10 w11 w12 w13 w14 g15 w16 g17 w18 w19 g20 w21 g22 g23 g24 w25 w26 w27 g28 g29 w30 g31 g32 g33 fa) := by
  refine Ct.of (cc := cX8_sumOf) (maxL := 4) (ret := (some .int)) (by decide) (Nat.le_of_ble_eq_true rfl) ?_
  intro p e s m args below meth c A ls hC hnm V hl
  obtain ⟨hx, hb, hr, hml, hown, hts, hlocks⟩ := id hC
  generalize hH : s.heap = H at V ⊢
  clear hH
  have hl : lv_has ls 4 [(0, .ref o), (1, .int i)] := hl
  generalize hlo : ([] : List Loc) = locs at V ⊢
  clear hlo
  refine lv_iconst (v := (nI 0)) hx hb dX8_sumOf_0 (by decide +kernel) ?_
  refine lv_istore_n (lv' := [(2, .int (nI 0)), (0, .ref o), (1, .int i)]) hx hb dX8_sumOf_1 rfl hl (by decide) rfl (fun ls hl => ?_)
  refine lv_iconst (v := (nI 0)) hx hb dX8_sumOf_2 (by decide +kernel) ?_
  refine lv_istore_n (lv' := [(3, .int (nI 0)), (2, .int (nI 0)), (0, .ref o), (1, .int i)]) hx hb dX8_sumOf_3 rfl hl (by decide) rfl (fun ls hl => ?_)
  refine lv_iload_n hx hb dX8_sumOf_4 rfl (lv_at hl 0 rfl) ?_
  refine lv_aload_n hx hb dX8_sumOf_5 rfl (lv_at hl 2 rfl) ?_
  refine g_get hC V (ci := 8) uwX8 0 rfl rfl 1 (by decide) w_913 rfl rfl dX8_sumOf_6 ?_
  refine lv_iconst (v := (nI 0)) hx hb dX8_sumOf_9 (by decide +kernel) ?_
  refine g_iald hC V 1 rfl (vp_in_nI (by decide) (by decide)) (v := (nI 0)) (by rw [nI_clamp (by decide)]; first | rfl | exact h_a) dX8_sumOf_10 ?_
  refine lv_icmp_ge (tgt := 31) hx hb dX8_sumOf_11 (by decide) (fun _ => ?_) (fun c => absurd (show (nI 0) ≤ (nI 0) by first | rfl | decide +kernel) c)
  refine lv_iload_n hx hb dX8_sumOf_31 rfl (lv_at hl 1 rfl) ?_
  exact g_iret (Qr := (q_m_sumOf T o i w0 g1 g2 g3 g4 w5 w6 w7 w8 w9 w10 w11 w12 w13 w14 g15 w16 g17 w18 w19 g20 w21 g22 g23 g24 w25 w26 w27 g28 g29 w30 g31 g32 g33 fa)) hC V ⟨(Nat.le_of_ble_eq_true rfl), (Nat.le_of_ble_eq_true rfl)⟩ ⟨rfl, rfl⟩ dX8_sumOf_32

def q_m_warmOnes (T : Nat → ClassId) (o : Nat) (w0 : Int32) (g1 : Nat) (g2 : Nat) (g3 : Nat) (g4 : Nat) (w5 : Int32) (w6 : Int32) (w7 : Int32) (w8 : Int32) (w9 : Int32) (w10 : Int32) (w11 : Int32) (w12 : Int32) (w13 : Int32) (w14 : Int32) (g15 : Nat) (w16 : Int32) (g17 : Nat) (w18 : Int32) (w19 : Int32) (g20 : Nat) (w21 : Int32) (g22 : Nat) (g23 : Nat) (g24 : Nat) (w25 : Int32) (w26 : Int32) (w27 : Int32) (g28 : Nat) (g29 : Nat) (w30 : Int32) (g31 : Nat) (g32 : Nat) (g33 : Nat) (fa : Nat → Int32) : Option Value → va_W → Prop := fun rr ww => (rr = some (.int (nI 0)) ∧ ww = [(o, .inr (8, [.int w0, .ref g1, .ref g2, .ref g3, .ref g4, .int w5, .int w6, .int w7, .int w8, .int w9, .int w10, .int w11, .int w12, .int w13, .int w14, .ref g15, .int w16, .ref g17, .int w18, .int w19, .ref g20, .int w21, .ref g22, .ref g23, .ref g24, .int w25, .int w26, .int w27, .ref g28, .ref g29, .int w30, .ref g31, .ref g32, .ref g33])), (g1, .inl (T 0, 282, .inl fa))])
set_option maxHeartbeats 4000000 in
set_option maxRecDepth 100000 in
theorem m_warmOnes (l : Launch) (D : va_G) (T : Nat → ClassId) (o : Nat) (w0 : Int32) (g1 : Nat) (g2 : Nat) (g3 : Nat) (g4 : Nat) (w5 : Int32) (w6 : Int32) (w7 : Int32) (w8 : Int32) (w9 : Int32) (w10 : Int32) (w11 : Int32) (w12 : Int32) (w13 : Int32) (w14 : Int32) (g15 : Nat) (w16 : Int32) (g17 : Nat) (w18 : Int32) (w19 : Int32) (g20 : Nat) (w21 : Int32) (g22 : Nat) (g23 : Nat) (g24 : Nat) (w25 : Int32) (w26 : Int32) (w27 : Int32) (g28 : Nat) (g29 : Nat) (w30 : Int32) (g31 : Nat) (g32 : Nat) (g33 : Nat) (fa : Nat → Int32) (h_a : fa 0 = nI 0) : Ct l yX8_warmOnes cX8_warmOnes 3 (some .int) 1 0 0 D T [.ref o] [(o, .inr (8, [.int w0, .ref g1, .ref g2, .ref g3, .ref g4, .int w5, .int w6, .int w7, .int w8, .int w9, .int w10, .int w11, .int w12, .int w13, .int w14, .ref g15, .int w16, .ref g17, .int w18, .int w19, .ref g20, .int w21, .ref g22, .ref g23, .ref g24, .int w25, .int w26, .int w27, .ref g28, .ref g29, .int w30, .ref g31, .ref g32, .ref g33])), (g1, .inl (T 0, 282, .inl fa))] (q_m_warmOnes T o w0 g1 g2 g3 g4 w5 w6 w7 w8 w9 w10 w11 w12 w13 w14 g15 w16 g17 w18 w19 g20 w21 g22 g23 g24 w25 w26 w27 g28 g29 w30 g31 g32 g33 fa) := by
  refine Ct.of (cc := cX8_warmOnes) (maxL := 3) (ret := (some .int)) (by decide) (Nat.le_of_ble_eq_true rfl) ?_
  intro p e s m args below meth c A ls hC hnm V hl
  obtain ⟨hx, hb, hr, hml, hown, hts, hlocks⟩ := id hC
  generalize hH : s.heap = H at V ⊢
  clear hH
  have hl : lv_has ls 3 [(0, .ref o)] := hl
  generalize hlo : ([] : List Loc) = locs at V ⊢
  clear hlo
  refine lv_iconst (v := (nI 0)) hx hb dX8_warmOnes_0 (by decide +kernel) ?_
  refine lv_istore_n (lv' := [(1, .int (nI 0)), (0, .ref o)]) hx hb dX8_warmOnes_1 rfl hl (by decide) rfl (fun ls hl => ?_)
  refine lv_iconst (v := (nI 0)) hx hb dX8_warmOnes_2 (by decide +kernel) ?_
  refine lv_istore_n (lv' := [(2, .int (nI 0)), (1, .int (nI 0)), (0, .ref o)]) hx hb dX8_warmOnes_3 rfl hl (by decide) rfl (fun ls hl => ?_)
  refine lv_iload_n hx hb dX8_warmOnes_4 rfl (lv_at hl 0 rfl) ?_
  refine lv_aload_n hx hb dX8_warmOnes_5 rfl (lv_at hl 2 rfl) ?_
  refine g_get hC V (ci := 8) uwX8 0 rfl rfl 1 (by decide) w_913 rfl rfl dX8_warmOnes_6 ?_
  refine lv_iconst (v := (nI 0)) hx hb dX8_warmOnes_9 (by decide +kernel) ?_
  refine g_iald hC V 1 rfl (vp_in_nI (by decide) (by decide)) (v := (nI 0)) (by rw [nI_clamp (by decide)]; first | rfl | exact h_a) dX8_warmOnes_10 ?_
  refine lv_icmp_ge (tgt := 38) hx hb dX8_warmOnes_11 (by decide) (fun _ => ?_) (fun c => absurd (show (nI 0) ≤ (nI 0) by first | rfl | decide +kernel) c)
  refine lv_iload_n hx hb dX8_warmOnes_38 rfl (lv_at hl 1 rfl) ?_
  exact g_iret (Qr := (q_m_warmOnes T o w0 g1 g2 g3 g4 w5 w6 w7 w8 w9 w10 w11 w12 w13 w14 g15 w16 g17 w18 w19 g20 w21 g22 g23 g24 w25 w26 w27 g28 g29 w30 g31 g32 g33 fa)) hC V ⟨(Nat.le_of_ble_eq_true rfl), (Nat.le_of_ble_eq_true rfl)⟩ ⟨rfl, rfl⟩ dX8_warmOnes_39

def q_m_goes (T : Nat → ClassId) (o : Nat) (pl : Int32) (sk : Int32) (fi : Int32) (mr : Int32) (w0 : Int32) (g1 : Nat) (g2 : Nat) (g3 : Nat) (g4 : Nat) (w5 : Int32) (w6 : Int32) (w7 : Int32) (w8 : Int32) (w9 : Int32) (w10 : Int32) (w11 : Int32) (w12 : Int32) (w13 : Int32) (w14 : Int32) (g15 : Nat) (w16 : Int32) (g17 : Nat) (w18 : Int32) (w19 : Int32) (g20 : Nat) (w21 : Int32) (g22 : Nat) (g23 : Nat) (g24 : Nat) (w25 : Int32) (w26 : Int32) (w27 : Int32) (g28 : Nat) (g29 : Nat) (w30 : Int32) (g31 : Nat) (g32 : Nat) (g33 : Nat) (fa : Nat → Int32) : Option Value → va_W → Prop := fun rr ww => (∃ (ga : Nat → Int32), rr = some (.int (nI 0)) ∧ ww = [(o, .inr (8, [.int w0, .ref g1, .ref g2, .ref g3, .ref g4, .int w5, .int w6, .int w7, .int w8, .int w9, .int w10, .int w11, .int w12, .int w13, .int w14, .ref g15, .int w16, .ref g17, .int w18, .int w19, .ref g20, .int w21, .ref g22, .ref g23, .ref g24, .int w25, .int w26, .int w27, .ref g28, .ref g29, .int w30, .ref g31, .ref g32, .ref g33])), (g1, .inl (T 0, 282, .inl ga))] ∧ ga 0 = nI 0)
set_option maxHeartbeats 4000000 in
set_option maxRecDepth 100000 in
theorem m_goes (l : Launch) (D : va_G) (T : Nat → ClassId) (o : Nat) (pl : Int32) (sk : Int32) (fi : Int32) (mr : Int32) (w0 : Int32) (g1 : Nat) (g2 : Nat) (g3 : Nat) (g4 : Nat) (w5 : Int32) (w6 : Int32) (w7 : Int32) (w8 : Int32) (w9 : Int32) (w10 : Int32) (w11 : Int32) (w12 : Int32) (w13 : Int32) (w14 : Int32) (g15 : Nat) (w16 : Int32) (g17 : Nat) (w18 : Int32) (w19 : Int32) (g20 : Nat) (w21 : Int32) (g22 : Nat) (g23 : Nat) (g24 : Nat) (w25 : Int32) (w26 : Int32) (w27 : Int32) (g28 : Nat) (g29 : Nat) (w30 : Int32) (g31 : Nat) (g32 : Nat) (g33 : Nat) (fa : Nat → Int32) (h_a : fa 0 = nI 0) : Ct l yX8_goes cX8_goes 7 (some .int) 1 0 0 D T [.ref o, .int pl, .int sk, .int fi, .int mr] [(o, .inr (8, [.int w0, .ref g1, .ref g2, .ref g3, .ref g4, .int w5, .int w6, .int w7, .int w8, .int w9, .int w10, .int w11, .int w12, .int w13, .int w14, .ref g15, .int w16, .ref g17, .int w18, .int w19, .ref g20, .int w21, .ref g22, .ref g23, .ref g24, .int w25, .int w26, .int w27, .ref g28, .ref g29, .int w30, .ref g31, .ref g32, .ref g33])), (g1, .inl (T 0, 282, .inl fa))] (q_m_goes T o pl sk fi mr w0 g1 g2 g3 g4 w5 w6 w7 w8 w9 w10 w11 w12 w13 w14 g15 w16 g17 w18 w19 g20 w21 g22 g23 g24 w25 w26 w27 g28 g29 w30 g31 g32 g33 fa) := by
  refine Ct.of (cc := cX8_goes) (maxL := 7) (ret := (some .int)) (by decide) (Nat.le_of_ble_eq_true rfl) ?_
  intro p e s m args below meth c A ls hC hnm V hl
  obtain ⟨hx, hb, hr, hml, hown, hts, hlocks⟩ := id hC
  generalize hH : s.heap = H at V ⊢
  clear hH
  have hl : lv_has ls 7 [(0, .ref o), (1, .int pl), (2, .int sk), (3, .int fi), (4, .int mr)] := hl
  generalize hlo : ([] : List Loc) = locs at V ⊢
  clear hlo
  refine lv_iconst (v := (nI 0)) hx hb dX8_goes_0 (by decide +kernel) ?_
  refine lv_istore (lv' := [(5, .int (nI 0)), (0, .ref o), (1, .int pl), (2, .int sk), (3, .int fi), (4, .int mr)]) hx hb dX8_goes_1 hl (by decide) rfl (fun ls hl => ?_)
  refine lv_iconst (v := (nI 0)) hx hb dX8_goes_3 (by decide +kernel) ?_
  refine lv_istore (lv' := [(6, .int (nI 0)), (5, .int (nI 0)), (0, .ref o), (1, .int pl), (2, .int sk), (3, .int fi), (4, .int mr)]) hx hb dX8_goes_4 hl (by decide) rfl (fun ls hl => ?_)
  refine lv_iload hx hb dX8_goes_6 (lv_at hl 0 rfl) ?_
  refine lv_aload_n hx hb dX8_goes_8 rfl (lv_at hl 2 rfl) ?_
  refine g_get hC V (ci := 8) uwX8 0 rfl rfl 1 (by decide) w_913 rfl rfl dX8_goes_9 ?_
  refine lv_iconst (v := (nI 0)) hx hb dX8_goes_12 (by decide +kernel) ?_
  refine g_iald hC V 1 rfl (vp_in_nI (by decide) (by decide)) (v := (nI 0)) (by rw [nI_clamp (by decide)]; first | rfl | exact h_a) dX8_goes_13 ?_
  refine lv_icmp_ge (tgt := 97) hx hb dX8_goes_14 (by decide) (fun _ => ?_) (fun c => absurd (show (nI 0) ≤ (nI 0) by first | rfl | decide +kernel) c)
  refine lv_iconst (v := (nI 0)) hx hb dX8_goes_97 (by decide +kernel) ?_
  refine lv_istore (lv' := [(6, .int (nI 0)), (5, .int (nI 0)), (0, .ref o), (1, .int pl), (2, .int sk), (3, .int fi), (4, .int mr)]) hx hb dX8_goes_98 hl (by decide) rfl (fun ls hl => ?_)
  refine lv_iload hx hb dX8_goes_100 (lv_at hl 0 rfl) ?_
  refine lv_aload_n hx hb dX8_goes_102 rfl (lv_at hl 2 rfl) ?_
  refine g_get hC V (ci := 8) uwX8 0 rfl rfl 1 (by decide) w_913 rfl rfl dX8_goes_103 ?_
  refine lv_iconst (v := (nI 0)) hx hb dX8_goes_106 (by decide +kernel) ?_
  refine g_iald hC V 1 rfl (vp_in_nI (by decide) (by decide)) (v := (nI 0)) (by rw [nI_clamp (by decide)]; first | rfl | exact h_a) dX8_goes_107 ?_
  refine lv_icmp_ge (tgt := 253) hx hb dX8_goes_108 (by decide) (fun _ => ?_) (fun c => absurd (show (nI 0) ≤ (nI 0) by first | rfl | decide +kernel) c)
  refine lv_aload_n hx hb dX8_goes_253 rfl (lv_at hl 2 rfl) ?_
  refine g_get hC V (ci := 8) uwX8 0 rfl rfl 1 (by decide) w_913 rfl rfl dX8_goes_254 ?_
  refine lv_iconst (v := (nI 1)) hx hb dX8_goes_257 (by decide +kernel) ?_
  refine lv_dup2_11 hx hb dX8_goes_258 rfl rfl ?_
  refine g_iald hC V 1 rfl (vp_in_nI (by decide) (by decide)) (v := (fa 1)) (congrArg _ (nI_clamp (by decide))) dX8_goes_259 ?_
  refine lv_iconst (v := (nI 1)) hx hb dX8_goes_260 (by decide +kernel) ?_
  refine lv_iadd hx hb dX8_goes_261 ?_
  refine g_iast hC V 1 rfl (vp_in_nI (by decide) (by decide)) (f' := (upd fa 1 ((fa 1) + (nI 1)))) (by rw [nI_clamp (by decide)]) (ws' := [(o, .inr (8, [.int w0, .ref g1, .ref g2, .ref g3, .ref g4, .int w5, .int w6, .int w7, .int w8, .int w9, .int w10, .int w11, .int w12, .int w13, .int w14, .ref g15, .int w16, .ref g17, .int w18, .int w19, .ref g20, .int w21, .ref g22, .ref g23, .ref g24, .int w25, .int w26, .int w27, .ref g28, .ref g29, .int w30, .ref g31, .ref g32, .ref g33])), (g1, .inl (T 0, 282, .inl (upd fa 1 ((fa 1) + (nI 1)))))]) rfl dX8_goes_262 (fun H locs V => ?_)
  refine lv_iload hx hb dX8_goes_263 (lv_at hl 1 rfl) ?_
  exact g_iret (Qr := (q_m_goes T o pl sk fi mr w0 g1 g2 g3 g4 w5 w6 w7 w8 w9 w10 w11 w12 w13 w14 g15 w16 g17 w18 w19 g20 w21 g22 g23 g24 w25 w26 w27 g28 g29 w30 g31 g32 g33 fa)) hC V ⟨(Nat.le_of_ble_eq_true rfl), (Nat.le_of_ble_eq_true rfl)⟩ ⟨(upd fa 1 ((fa 1) + (nI 1))), rfl, rfl, (up_ne h_a (fun h => absurd h (by decide)))⟩ dX8_goes_265

def q_m_keeps (T : Nat → ClassId) (o : Nat) (w0 : Int32) (g1 : Nat) (g2 : Nat) (g3 : Nat) (g4 : Nat) (w5 : Int32) (w6 : Int32) (w7 : Int32) (w8 : Int32) (w9 : Int32) (w10 : Int32) (w11 : Int32) (w12 : Int32) (w13 : Int32) (w14 : Int32) (g15 : Nat) (w16 : Int32) (g17 : Nat) (w18 : Int32) (w19 : Int32) (g20 : Nat) (w21 : Int32) (g22 : Nat) (g23 : Nat) (g24 : Nat) (w25 : Int32) (w26 : Int32) (w27 : Int32) (g28 : Nat) (g29 : Nat) (w30 : Int32) (g31 : Nat) (g32 : Nat) (g33 : Nat) (fa : Nat → Int32) (fk : Nat → Int32) : Option Value → va_W → Prop := fun rr ww => (∃ (gk : Nat → Int32), rr = none ∧ ww = [(o, .inr (8, [.int w0, .ref g1, .ref g2, .ref g3, .ref g4, .int w5, .int w6, .int w7, .int w8, .int w9, .int w10, .int w11, .int w12, .int w13, .int w14, .ref g15, .int w16, .ref g17, .int w18, .int w19, .ref g20, .int w21, .ref g22, .ref g23, .ref g24, .int w25, .int w26, .int w27, .ref g28, .ref g29, .int w30, .ref g31, .ref g32, .ref g33])), (g1, .inl (T 0, 282, .inl fa)), (g17, .inl (T 0, 94, .inl gk))] ∧ gk 0 = nI 0)
set_option maxHeartbeats 4000000 in
set_option maxRecDepth 100000 in
theorem m_keeps (l : Launch) (D : va_G) (T : Nat → ClassId) (o : Nat) (w0 : Int32) (g1 : Nat) (g2 : Nat) (g3 : Nat) (g4 : Nat) (w5 : Int32) (w6 : Int32) (w7 : Int32) (w8 : Int32) (w9 : Int32) (w10 : Int32) (w11 : Int32) (w12 : Int32) (w13 : Int32) (w14 : Int32) (g15 : Nat) (w16 : Int32) (g17 : Nat) (w18 : Int32) (w19 : Int32) (g20 : Nat) (w21 : Int32) (g22 : Nat) (g23 : Nat) (g24 : Nat) (w25 : Int32) (w26 : Int32) (w27 : Int32) (g28 : Nat) (g29 : Nat) (w30 : Int32) (g31 : Nat) (g32 : Nat) (g33 : Nat) (fa : Nat → Int32) (fk : Nat → Int32) (h_a : fa 0 = nI 0) : Ct l yX8_keeps cX8_keeps 2 none 1 0 0 D T [.ref o] [(o, .inr (8, [.int w0, .ref g1, .ref g2, .ref g3, .ref g4, .int w5, .int w6, .int w7, .int w8, .int w9, .int w10, .int w11, .int w12, .int w13, .int w14, .ref g15, .int w16, .ref g17, .int w18, .int w19, .ref g20, .int w21, .ref g22, .ref g23, .ref g24, .int w25, .int w26, .int w27, .ref g28, .ref g29, .int w30, .ref g31, .ref g32, .ref g33])), (g1, .inl (T 0, 282, .inl fa)), (g17, .inl (T 0, 94, .inl fk))] (q_m_keeps T o w0 g1 g2 g3 g4 w5 w6 w7 w8 w9 w10 w11 w12 w13 w14 g15 w16 g17 w18 w19 g20 w21 g22 g23 g24 w25 w26 w27 g28 g29 w30 g31 g32 g33 fa fk) := by
  refine Ct.of (cc := cX8_keeps) (maxL := 2) (ret := none) (by decide) (Nat.le_of_ble_eq_true rfl) ?_
  intro p e s m args below meth c A ls hC hnm V hl
  obtain ⟨hx, hb, hr, hml, hown, hts, hlocks⟩ := id hC
  generalize hH : s.heap = H at V ⊢
  clear hH
  have hl : lv_has ls 2 [(0, .ref o)] := hl
  generalize hlo : ([] : List Loc) = locs at V ⊢
  clear hlo
  refine lv_iconst (v := (nI 0)) hx hb dX8_keeps_0 (by decide +kernel) ?_
  refine lv_istore_n (lv' := [(1, .int (nI 0)), (0, .ref o)]) hx hb dX8_keeps_1 rfl hl (by decide) rfl (fun ls hl => ?_)
  have L_1 : ∀ (fu : Nat) (k : Nat) (f : Nat → Int32), k ≤ 94 → k = 0 ∨ f 0 = nI 0 → 94 - k < fu → ∀ (H : Heap) (locs : List Loc) (ls : Array Slot), gW D T A s [(o, .inr (8, [.int w0, .ref g1, .ref g2, .ref g3, .ref g4, .int w5, .int w6, .int w7, .int w8, .int w9, .int w10, .int w11, .int w12, .int w13, .int w14, .ref g15, .int w16, .ref g17, .int w18, .int w19, .ref g20, .int w21, .ref g22, .ref g23, .ref g24, .int w25, .int w26, .int w27, .ref g28, .ref g29, .int w30, .ref g31, .ref g32, .ref g33])), (g1, .inl (T 0, 282, .inl fa)), (g17, .inl (T 0, 94, .inl f))] H locs → lv_has ls 2 [(1, .int (nI k)), (0, .ref o)] → W p l e (rmD 1 0 0) s m args below meth c H locs 0 0 (MQ below (gQ D A (q_m_keeps T o w0 g1 g2 g3 g4 w5 w6 w7 w8 w9 w10 w11 w12 w13 w14 g15 w16 g17 w18 w19 g20 w21 g22 g23 g24 w25 w26 w27 g28 g29 w30 g31 g32 g33 fa fk)) args s 0 0 A) (F0 m 2 ls []) := by
    intro fu
    induction fu with
    | zero => intro k f hk hf hmu; exact absurd hmu (Nat.not_lt_zero _)
    | succ fu ih =>
      intro k f hk hf hmu H locs ls V hl
      refine lv_iload_n hx hb dX8_keeps_2 rfl (lv_at hl 0 rfl) ?_
      refine lv_bipush (v := (nI 94)) hx hb dX8_keeps_3 (by decide +kernel) ?_
      refine lv_icmp_ge (tgt := 26) hx hb dX8_keeps_5 (by decide) (fun c_2 => ?_) (fun c_2 => ?_)
      · skip
        have c_2 := b_le (by omega) (by omega) c_2
        exact g_vret (Qr := (q_m_keeps T o w0 g1 g2 g3 g4 w5 w6 w7 w8 w9 w10 w11 w12 w13 w14 g15 w16 g17 w18 w19 g20 w21 g22 g23 g24 w25 w26 w27 g28 g29 w30 g31 g32 g33 fa fk)) hC V ⟨(Nat.le_of_ble_eq_true rfl), (Nat.le_of_ble_eq_true rfl)⟩ ⟨f, rfl, rfl, (hf.resolve_left (by omega))⟩ dX8_keeps_26
      · skip
        have c_2 := b_nle (by omega) (by omega) c_2
        refine lv_aload_n hx hb dX8_keeps_8 rfl (lv_at hl 1 rfl) ?_
        refine g_get hC V (ci := 8) uwX8 0 rfl rfl 17 (by decide) w_929 rfl rfl dX8_keeps_9 ?_
        refine lv_iload_n hx hb dX8_keeps_12 rfl (lv_at hl 0 rfl) ?_
        refine lv_aload_n hx hb dX8_keeps_13 rfl (lv_at hl 1 rfl) ?_
        refine g_get hC V (ci := 8) uwX8 0 rfl rfl 1 (by decide) w_913 rfl rfl dX8_keeps_14 ?_
        refine lv_iload_n hx hb dX8_keeps_17 rfl (lv_at hl 0 rfl) ?_
        refine g_iald hC V 1 rfl (vp_in_nI (by omega) (by omega)) (v := (fa k)) (congrArg _ (nI_clamp (by omega))) dX8_keeps_18 ?_
        refine g_iast hC V 2 rfl (vp_in_nI (by omega) (by omega)) (f' := (upd f k (fa k))) (by rw [nI_clamp (by omega)]) (ws' := [(o, .inr (8, [.int w0, .ref g1, .ref g2, .ref g3, .ref g4, .int w5, .int w6, .int w7, .int w8, .int w9, .int w10, .int w11, .int w12, .int w13, .int w14, .ref g15, .int w16, .ref g17, .int w18, .int w19, .ref g20, .int w21, .ref g22, .ref g23, .ref g24, .int w25, .int w26, .int w27, .ref g28, .ref g29, .int w30, .ref g31, .ref g32, .ref g33])), (g1, .inl (T 0, 282, .inl fa)), (g17, .inl (T 0, 94, .inl (upd f k (fa k))))]) rfl dX8_keeps_19 (fun H locs V => ?_)
        refine lv_iinc (v := (nI (k + 1))) (lv' := [(1, .int (nI (k + 1))), (0, .ref o)]) hx hb dX8_keeps_20 hl (k := 0) rfl (nI_1 _) (by decide) rfl (fun ls hl => ?_)
        refine lv_goto (tgt := 2) hx hb dX8_keeps_23 (by decide) ?_
        exact ih (k + 1) (upd f k (fa k)) (by omega) (Or.inr (kp_step hf (fun e => by subst e; exact h_a))) (by omega) _ _ _ V (lv_sub hl [0, 1] rfl)
  exact L_1 _ 0 fk (Nat.zero_le _) (Or.inl rfl) (Nat.lt_succ_self _) _ _ _ V (lv_sub hl [0, 1] rfl)

def q_m_isAgain (T : Nat → ClassId) (o : Nat) (w0 : Int32) (g1 : Nat) (g2 : Nat) (g3 : Nat) (g4 : Nat) (w5 : Int32) (w6 : Int32) (w7 : Int32) (w8 : Int32) (w9 : Int32) (w10 : Int32) (w11 : Int32) (w12 : Int32) (w13 : Int32) (w14 : Int32) (g15 : Nat) (w16 : Int32) (g17 : Nat) (w18 : Int32) (w19 : Int32) (g20 : Nat) (w21 : Int32) (g22 : Nat) (g23 : Nat) (g24 : Nat) (w25 : Int32) (w26 : Int32) (w27 : Int32) (g28 : Nat) (g29 : Nat) (w30 : Int32) (g31 : Nat) (g32 : Nat) (g33 : Nat) (fa : Nat → Int32) (fk : Nat → Int32) : Option Value → va_W → Prop := fun rr ww => (∃ (ga : Nat → Int32), rr = none ∧ ww = [(o, .inr (8, [.int w0, .ref g1, .ref g2, .ref g3, .ref g4, .int w5, .int w6, .int w7, .int w8, .int w9, .int w10, .int w11, .int w12, .int w13, .int w14, .ref g15, .int w16, .ref g17, .int w18, .int w19, .ref g20, .int w21, .ref g22, .ref g23, .ref g24, .int w25, .int w26, .int w27, .ref g28, .ref g29, .int w30, .ref g31, .ref g32, .ref g33])), (g1, .inl (T 0, 282, .inl ga)), (g17, .inl (T 0, 94, .inl fk))] ∧ ga 0 = nI 0)
set_option maxHeartbeats 4000000 in
set_option maxRecDepth 100000 in
theorem m_isAgain (l : Launch) (D : va_G) (T : Nat → ClassId) (o : Nat) (w0 : Int32) (g1 : Nat) (g2 : Nat) (g3 : Nat) (g4 : Nat) (w5 : Int32) (w6 : Int32) (w7 : Int32) (w8 : Int32) (w9 : Int32) (w10 : Int32) (w11 : Int32) (w12 : Int32) (w13 : Int32) (w14 : Int32) (g15 : Nat) (w16 : Int32) (g17 : Nat) (w18 : Int32) (w19 : Int32) (g20 : Nat) (w21 : Int32) (g22 : Nat) (g23 : Nat) (g24 : Nat) (w25 : Int32) (w26 : Int32) (w27 : Int32) (g28 : Nat) (g29 : Nat) (w30 : Int32) (g31 : Nat) (g32 : Nat) (g33 : Nat) (fa : Nat → Int32) (fk : Nat → Int32) (h_a : fa 0 = nI 0) (h_k : fk 0 = nI 0) : Ct l yX8_isAgain cX8_isAgain 2 none 1 0 0 D T [.ref o] [(o, .inr (8, [.int w0, .ref g1, .ref g2, .ref g3, .ref g4, .int w5, .int w6, .int w7, .int w8, .int w9, .int w10, .int w11, .int w12, .int w13, .int w14, .ref g15, .int w16, .ref g17, .int w18, .int w19, .ref g20, .int w21, .ref g22, .ref g23, .ref g24, .int w25, .int w26, .int w27, .ref g28, .ref g29, .int w30, .ref g31, .ref g32, .ref g33])), (g1, .inl (T 0, 282, .inl fa)), (g17, .inl (T 0, 94, .inl fk))] (q_m_isAgain T o w0 g1 g2 g3 g4 w5 w6 w7 w8 w9 w10 w11 w12 w13 w14 g15 w16 g17 w18 w19 g20 w21 g22 g23 g24 w25 w26 w27 g28 g29 w30 g31 g32 g33 fa fk) := by
  refine Ct.of (cc := cX8_isAgain) (maxL := 2) (ret := none) (by decide) (Nat.le_of_ble_eq_true rfl) ?_
  intro p e s m args below meth c A ls hC hnm V hl
  obtain ⟨hx, hb, hr, hml, hown, hts, hlocks⟩ := id hC
  generalize hH : s.heap = H at V ⊢
  clear hH
  have hl : lv_has ls 2 [(0, .ref o)] := hl
  generalize hlo : ([] : List Loc) = locs at V ⊢
  clear hlo
  refine lv_iconst (v := (nI 0)) hx hb dX8_isAgain_0 (by decide +kernel) ?_
  refine lv_istore_n (lv' := [(1, .int (nI 0)), (0, .ref o)]) hx hb dX8_isAgain_1 rfl hl (by decide) rfl (fun ls hl => ?_)
  have L_1 : ∀ (fu : Nat) (k : Nat) (f : Nat → Int32), k ≤ 94 → f 0 = nI 0 → 94 - k < fu → ∀ (H : Heap) (locs : List Loc) (ls : Array Slot), gW D T A s [(o, .inr (8, [.int w0, .ref g1, .ref g2, .ref g3, .ref g4, .int w5, .int w6, .int w7, .int w8, .int w9, .int w10, .int w11, .int w12, .int w13, .int w14, .ref g15, .int w16, .ref g17, .int w18, .int w19, .ref g20, .int w21, .ref g22, .ref g23, .ref g24, .int w25, .int w26, .int w27, .ref g28, .ref g29, .int w30, .ref g31, .ref g32, .ref g33])), (g1, .inl (T 0, 282, .inl f)), (g17, .inl (T 0, 94, .inl fk))] H locs → lv_has ls 2 [(1, .int (nI k)), (0, .ref o)] → W p l e (rmD 1 0 0) s m args below meth c H locs 0 0 (MQ below (gQ D A (q_m_isAgain T o w0 g1 g2 g3 g4 w5 w6 w7 w8 w9 w10 w11 w12 w13 w14 g15 w16 g17 w18 w19 g20 w21 g22 g23 g24 w25 w26 w27 g28 g29 w30 g31 g32 g33 fa fk)) args s 0 0 A) (F0 m 2 ls []) := by
    intro fu
    induction fu with
    | zero => intro k f hk hf hmu; exact absurd hmu (Nat.not_lt_zero _)
    | succ fu ih =>
      intro k f hk hf hmu H locs ls V hl
      refine lv_iload_n hx hb dX8_isAgain_2 rfl (lv_at hl 0 rfl) ?_
      refine lv_bipush (v := (nI 94)) hx hb dX8_isAgain_3 (by decide +kernel) ?_
      refine lv_icmp_ge (tgt := 26) hx hb dX8_isAgain_5 (by decide) (fun c_2 => ?_) (fun c_2 => ?_)
      · skip
        have c_2 := b_le (by omega) (by omega) c_2
        exact g_vret (Qr := (q_m_isAgain T o w0 g1 g2 g3 g4 w5 w6 w7 w8 w9 w10 w11 w12 w13 w14 g15 w16 g17 w18 w19 g20 w21 g22 g23 g24 w25 w26 w27 g28 g29 w30 g31 g32 g33 fa fk)) hC V ⟨(Nat.le_of_ble_eq_true rfl), (Nat.le_of_ble_eq_true rfl)⟩ ⟨f, rfl, rfl, (by first | assumption | rfl | omega | (simp_all; done))⟩ dX8_isAgain_26
      · skip
        have c_2 := b_nle (by omega) (by omega) c_2
        refine lv_aload_n hx hb dX8_isAgain_8 rfl (lv_at hl 1 rfl) ?_
        refine g_get hC V (ci := 8) uwX8 0 rfl rfl 1 (by decide) w_913 rfl rfl dX8_isAgain_9 ?_
        refine lv_iload_n hx hb dX8_isAgain_12 rfl (lv_at hl 0 rfl) ?_
        refine lv_aload_n hx hb dX8_isAgain_13 rfl (lv_at hl 1 rfl) ?_
        refine g_get hC V (ci := 8) uwX8 0 rfl rfl 17 (by decide) w_929 rfl rfl dX8_isAgain_14 ?_
        refine lv_iload_n hx hb dX8_isAgain_17 rfl (lv_at hl 0 rfl) ?_
        refine g_iald hC V 2 rfl (vp_in_nI (by omega) (by omega)) (v := (fk k)) (congrArg _ (nI_clamp (by omega))) dX8_isAgain_18 ?_
        refine g_iast hC V 1 rfl (vp_in_nI (by omega) (by omega)) (f' := (upd f k (fk k))) (by rw [nI_clamp (by omega)]) (ws' := [(o, .inr (8, [.int w0, .ref g1, .ref g2, .ref g3, .ref g4, .int w5, .int w6, .int w7, .int w8, .int w9, .int w10, .int w11, .int w12, .int w13, .int w14, .ref g15, .int w16, .ref g17, .int w18, .int w19, .ref g20, .int w21, .ref g22, .ref g23, .ref g24, .int w25, .int w26, .int w27, .ref g28, .ref g29, .int w30, .ref g31, .ref g32, .ref g33])), (g1, .inl (T 0, 282, .inl (upd f k (fk k)))), (g17, .inl (T 0, 94, .inl fk))]) rfl dX8_isAgain_19 (fun H locs V => ?_)
        refine lv_iinc (v := (nI (k + 1))) (lv' := [(1, .int (nI (k + 1))), (0, .ref o)]) hx hb dX8_isAgain_20 hl (k := 0) rfl (nI_1 _) (by decide) rfl (fun ls hl => ?_)
        refine lv_goto (tgt := 2) hx hb dX8_isAgain_23 (by decide) ?_
        exact ih (k + 1) (upd f k (fk k)) (by omega) (up_ne hf (fun h => by subst h; exact h_k)) (by omega) _ _ _ V (lv_sub hl [0, 1] rfl)
  exact L_1 _ 0 fa (Nat.zero_le _) h_a (Nat.lt_succ_self _) _ _ _ V (lv_sub hl [0, 1] rfl)

def q_m_lives (T : Nat → ClassId) (o : Nat) (n : Nat) (lz : Int32) (w0 : Int32) (g1 : Nat) (g2 : Nat) (g3 : Nat) (g4 : Nat) (w5 : Int32) (w6 : Int32) (w7 : Int32) (w8 : Int32) (w9 : Int32) (w10 : Int32) (w11 : Int32) (w12 : Int32) (w13 : Int32) (w14 : Int32) (g15 : Nat) (w16 : Int32) (g17 : Nat) (w18 : Int32) (w19 : Int32) (g20 : Nat) (w21 : Int32) (g22 : Nat) (g23 : Nat) (g24 : Nat) (w25 : Int32) (w26 : Int32) (w27 : Int32) (g28 : Nat) (g29 : Nat) (w30 : Int32) (g31 : Nat) (g32 : Nat) (g33 : Nat) (fa : Nat → Int32) : Option Value → va_W → Prop := fun rr ww => (∃ (ga : Nat → Int32), rr = some (.int (nI 0)) ∧ ww = [(o, .inr (8, [.int w0, .ref g1, .ref g2, .ref g3, .ref g4, .int w5, .int w6, .int w7, .int w8, .int w9, .int w10, .int w11, .int w12, .int w13, .int w14, .ref g15, .int w16, .ref g17, .int w18, .int w19, .ref g20, .int w21, .ref g22, .ref g23, .ref g24, .int w25, .int w26, .int w27, .ref g28, .ref g29, .int w30, .ref g31, .ref g32, .ref g33])), (g1, .inl (T 0, 282, .inl ga))] ∧ ga 0 = nI 0)
set_option maxHeartbeats 4000000 in
set_option maxRecDepth 100000 in
theorem m_lives (l : Launch) (D : va_G) (T : Nat → ClassId) (o : Nat) (n : Nat) (lz : Int32) (w0 : Int32) (g1 : Nat) (g2 : Nat) (g3 : Nat) (g4 : Nat) (w5 : Int32) (w6 : Int32) (w7 : Int32) (w8 : Int32) (w9 : Int32) (w10 : Int32) (w11 : Int32) (w12 : Int32) (w13 : Int32) (w14 : Int32) (g15 : Nat) (w16 : Int32) (g17 : Nat) (w18 : Int32) (w19 : Int32) (g20 : Nat) (w21 : Int32) (g22 : Nat) (g23 : Nat) (g24 : Nat) (w25 : Int32) (w26 : Int32) (w27 : Int32) (g28 : Nat) (g29 : Nat) (w30 : Int32) (g31 : Nat) (g32 : Nat) (g33 : Nat) (fa : Nat → Int32) (h_a : fa 0 = nI 0) (h_n : n ≤ 200) : Ct l yX8_lives cX8_lives 11 (some .int) 2 0 0 D T [.ref o, .int (nI n), .int lz, .int (-1), .int (nI 0)] [(o, .inr (8, [.int w0, .ref g1, .ref g2, .ref g3, .ref g4, .int w5, .int w6, .int w7, .int w8, .int w9, .int w10, .int w11, .int w12, .int w13, .int w14, .ref g15, .int w16, .ref g17, .int w18, .int w19, .ref g20, .int w21, .ref g22, .ref g23, .ref g24, .int w25, .int w26, .int w27, .ref g28, .ref g29, .int w30, .ref g31, .ref g32, .ref g33])), (g1, .inl (T 0, 282, .inl fa))] (q_m_lives T o n lz w0 g1 g2 g3 g4 w5 w6 w7 w8 w9 w10 w11 w12 w13 w14 g15 w16 g17 w18 w19 g20 w21 g22 g23 g24 w25 w26 w27 g28 g29 w30 g31 g32 g33 fa) := by
  refine Ct.of (cc := cX8_lives) (maxL := 11) (ret := (some .int)) (by decide) (Nat.le_of_ble_eq_true rfl) ?_
  intro p e s m args below meth c A ls hC hnm V hl
  obtain ⟨hx, hb, hr, hml, hown, hts, hlocks⟩ := id hC
  generalize hH : s.heap = H at V ⊢
  clear hH
  have hl : lv_has ls 11 [(0, .ref o), (1, .int (nI n)), (2, .int lz), (3, .int (-1)), (4, .int (nI 0))] := hl
  generalize hlo : ([] : List Loc) = locs at V ⊢
  clear hlo
  refine lv_iconst (v := (nI 0)) hx hb dX8_lives_0 (by decide +kernel) ?_
  refine lv_istore (lv' := [(5, .int (nI 0)), (0, .ref o), (1, .int (nI n)), (2, .int lz), (3, .int (-1)), (4, .int (nI 0))]) hx hb dX8_lives_1 hl (by decide) rfl (fun ls hl => ?_)
  refine lv_iconst (v := (nI 0)) hx hb dX8_lives_3 (by decide +kernel) ?_
  refine lv_istore (lv' := [(6, .int (nI 0)), (5, .int (nI 0)), (0, .ref o), (1, .int (nI n)), (2, .int lz), (3, .int (-1)), (4, .int (nI 0))]) hx hb dX8_lives_4 hl (by decide) rfl (fun ls hl => ?_)
  have L_1 : ∀ (fu : Nat) (k : Nat) (f : Nat → Int32), k ≤ n → f 0 = nI 0 → n - k < fu → ∀ (H : Heap) (locs : List Loc) (ls : Array Slot), gW D T A s [(o, .inr (8, [.int w0, .ref g1, .ref g2, .ref g3, .ref g4, .int w5, .int w6, .int w7, .int w8, .int w9, .int w10, .int w11, .int w12, .int w13, .int w14, .ref g15, .int w16, .ref g17, .int w18, .int w19, .ref g20, .int w21, .ref g22, .ref g23, .ref g24, .int w25, .int w26, .int w27, .ref g28, .ref g29, .int w30, .ref g31, .ref g32, .ref g33])), (g1, .inl (T 0, 282, .inl f))] H locs → lv_has ls 11 [(6, .int (nI k)), (5, .int (nI 0)), (0, .ref o), (1, .int (nI n)), (2, .int lz), (3, .int (-1)), (4, .int (nI 0))] → W p l e (rmD 2 0 0) s m args below meth c H locs 0 0 (MQ below (gQ D A (q_m_lives T o n lz w0 g1 g2 g3 g4 w5 w6 w7 w8 w9 w10 w11 w12 w13 w14 g15 w16 g17 w18 w19 g20 w21 g22 g23 g24 w25 w26 w27 g28 g29 w30 g31 g32 g33 fa)) args s 0 0 A) (F0 m 6 ls []) := by
    intro fu
    induction fu with
    | zero => intro k f hk hf hmu; exact absurd hmu (Nat.not_lt_zero _)
    | succ fu ih =>
      intro k f hk hf hmu H locs ls V hl
      refine lv_iload hx hb dX8_lives_6 (lv_at hl 0 rfl) ?_
      refine lv_iload_n hx hb dX8_lives_8 rfl (lv_at hl 3 rfl) ?_
      refine lv_icmp_ge (tgt := 198) hx hb dX8_lives_9 (by decide) (fun c_2 => ?_) (fun c_2 => ?_)
      · skip
        have c_2 := b_le (by omega) (by omega) c_2
        refine lv_iload hx hb dX8_lives_198 (lv_at hl 1 rfl) ?_
        exact g_iret (Qr := (q_m_lives T o n lz w0 g1 g2 g3 g4 w5 w6 w7 w8 w9 w10 w11 w12 w13 w14 g15 w16 g17 w18 w19 g20 w21 g22 g23 g24 w25 w26 w27 g28 g29 w30 g31 g32 g33 fa)) hC V ⟨(Nat.le_of_ble_eq_true rfl), (Nat.le_of_ble_eq_true rfl)⟩ ⟨f, rfl, rfl, (by first | assumption | rfl | omega | (simp_all; done))⟩ dX8_lives_200
      · skip
        have c_2 := b_nle (by omega) (by omega) c_2
        refine lv_iconst (v := (nI 0)) hx hb dX8_lives_12 (by decide +kernel) ?_
        refine lv_istore (lv' := [(7, .int (nI 0)), (6, .int (nI k)), (5, .int (nI 0)), (0, .ref o), (1, .int (nI n)), (2, .int lz), (3, .int (-1)), (4, .int (nI 0))]) hx hb dX8_lives_13 hl (by decide) rfl (fun ls hl => ?_)
        refine lv_iconst (v := (nI 0)) hx hb dX8_lives_15 (by decide +kernel) ?_
        refine lv_istore (lv' := [(8, .int (nI 0)), (7, .int (nI 0)), (6, .int (nI k)), (5, .int (nI 0)), (0, .ref o), (1, .int (nI n)), (2, .int lz), (3, .int (-1)), (4, .int (nI 0))]) hx hb dX8_lives_16 hl (by decide) rfl (fun ls hl => ?_)
        refine lv_iconst (v := (nI 0)) hx hb dX8_lives_18 (by decide +kernel) ?_
        refine lv_istore (lv' := [(9, .int (nI 0)), (8, .int (nI 0)), (7, .int (nI 0)), (6, .int (nI k)), (5, .int (nI 0)), (0, .ref o), (1, .int (nI n)), (2, .int lz), (3, .int (-1)), (4, .int (nI 0))]) hx hb dX8_lives_19 hl (by decide) rfl (fun ls hl => ?_)
        refine lv_iload hx hb dX8_lives_21 (lv_at hl 0 rfl) ?_
        refine lv_aload_n hx hb dX8_lives_23 rfl (lv_at hl 5 rfl) ?_
        refine g_get hC V (ci := 8) uwX8 0 rfl rfl 1 (by decide) w_913 rfl rfl dX8_lives_24 ?_
        refine lv_iconst (v := (nI 0)) hx hb dX8_lives_27 (by decide +kernel) ?_
        refine g_iald hC V 1 rfl (vp_in_nI (by decide) (by decide)) (v := (nI 0)) (by rw [nI_clamp (by decide)]; first | rfl | exact hf) dX8_lives_28 ?_
        refine lv_icmp_ge (tgt := 131) hx hb dX8_lives_29 (by decide) (fun _ => ?_) (fun c => absurd (show (nI 0) ≤ (nI 0) by first | rfl | decide +kernel) c)
        refine lv_iload_n hx hb dX8_lives_131 rfl (lv_at hl 8 rfl) ?_
        refine lv_iconst (v := (-1)) hx hb dX8_lives_132 (by decide +kernel) ?_
        refine lv_icmp_eq (tgt := 164) hx hb dX8_lives_133 (by decide) (fun _ => ?_) (fun c => absurd (show (-1 : Int32) = (-1 : Int32) by first | rfl | decide +kernel) c)
        refine lv_iconst (v := (nI 0)) hx hb dX8_lives_164 (by decide +kernel) ?_
        refine lv_istore (lv' := [(9, .int (nI 0)), (8, .int (nI 0)), (7, .int (nI 0)), (6, .int (nI k)), (5, .int (nI 0)), (0, .ref o), (1, .int (nI n)), (2, .int lz), (3, .int (-1)), (4, .int (nI 0))]) hx hb dX8_lives_165 hl (by decide) rfl (fun ls hl => ?_)
        refine lv_iload hx hb dX8_lives_167 (lv_at hl 4 rfl) ?_
        refine lv_aload_n hx hb dX8_lives_169 rfl (lv_at hl 5 rfl) ?_
        refine lv_iload hx hb dX8_lives_170 (lv_at hl 2 rfl) ?_
        refine lv_iload hx hb dX8_lives_172 (lv_at hl 1 rfl) ?_
        refine lv_iload_n hx hb dX8_lives_174 rfl (lv_at hl 8 rfl) ?_
        refine lv_iload hx hb dX8_lives_175 (lv_at hl 0 rfl) ?_
        refine lv_if_eq (tgt := 185) hx hb dX8_lives_177 (by decide) (fun _ => ?_) (fun c => absurd (show (nI 0) = 0 by decide +kernel) c)
        refine lv_iconst (v := (nI 0)) hx hb dX8_lives_185 (by decide +kernel) ?_
        refine g_callV (wr := []) (nA := 4) hC V hl.1 (m_goes l D T o (nI 0) (nI 0) (-1) (nI 0) w0 g1 g2 g3 g4 w5 w6 w7 w8 w9 w10 w11 w12 w13 w14 g15 w16 g17 w18 w19 g20 w21 g22 g23 g24 w25 w26 w27 g28 g29 w30 g31 g32 g33 f hf) w_1122 w_1124 w_s50 w_9 w_1125 (by decide +kernel) rfl ⟨(Nat.le_of_ble_eq_true rfl), (Nat.le_of_ble_eq_true rfl)⟩ 0 (ci := 8) rfl rfl [0, 1] [] rfl rfl rfl rfl (by decide) (Nat.le_of_ble_eq_true rfl) dX8_lives_186 ⟨(Nat.le_of_ble_eq_true rfl), (Nat.le_of_ble_eq_true rfl)⟩ rfl (fun r w1 H locs hQ V => ?_)
        obtain ⟨ga_3, rfl, rfl, f_4⟩ := hQ
        have V : gW D T A s [(o, .inr (8, [.int w0, .ref g1, .ref g2, .ref g3, .ref g4, .int w5, .int w6, .int w7, .int w8, .int w9, .int w10, .int w11, .int w12, .int w13, .int w14, .ref g15, .int w16, .ref g17, .int w18, .int w19, .ref g20, .int w21, .ref g22, .ref g23, .ref g24, .int w25, .int w26, .int w27, .ref g28, .ref g29, .int w30, .ref g31, .ref g32, .ref g33])), (g1, .inl (T 0, 282, .inl ga_3))] H locs := V
        show W p l e _ s m args below meth c H locs _ _ _ (F0 m 189 ls [.int (nI 0), .int (nI 0)])
        refine lv_iadd hx hb dX8_lives_189 ?_
        refine g_vi (y := (nI 0)) (by decide +kernel) ?_
        refine lv_istore (lv' := [(5, .int (nI 0)), (9, .int (nI 0)), (8, .int (nI 0)), (7, .int (nI 0)), (6, .int (nI k)), (0, .ref o), (1, .int (nI n)), (2, .int lz), (3, .int (-1)), (4, .int (nI 0))]) hx hb dX8_lives_190 hl (by decide) rfl (fun ls hl => ?_)
        refine lv_iinc (v := (nI (k + 1))) (lv' := [(6, .int (nI (k + 1))), (5, .int (nI 0)), (9, .int (nI 0)), (8, .int (nI 0)), (7, .int (nI 0)), (0, .ref o), (1, .int (nI n)), (2, .int lz), (3, .int (-1)), (4, .int (nI 0))]) hx hb dX8_lives_192 hl (k := 4) rfl (nI_1 _) (by decide) rfl (fun ls hl => ?_)
        refine lv_goto (tgt := 6) hx hb dX8_lives_195 (by decide) ?_
        exact ih (k + 1) ga_3 (by omega) (by assumption) (by omega) _ _ _ V (lv_sub hl [0, 1, 5, 6, 7, 8, 9] rfl)
  exact L_1 _ 0 fa (Nat.zero_le _) h_a (Nat.lt_succ_self _) _ _ _ V (lv_sub hl [0, 1, 2, 3, 4, 5, 6] rfl)

def q_m_doneBy (T : Nat → ClassId) (o : Nat) (n : Nat) (lz : Int32) (w0 : Int32) (g1 : Nat) (g2 : Nat) (g3 : Nat) (g4 : Nat) (w5 : Int32) (w6 : Int32) (w7 : Int32) (w8 : Int32) (w9 : Int32) (w10 : Int32) (w11 : Int32) (w12 : Int32) (w13 : Int32) (w14 : Int32) (g15 : Nat) (w16 : Int32) (g17 : Nat) (w18 : Int32) (w19 : Int32) (g20 : Nat) (w21 : Int32) (g22 : Nat) (g23 : Nat) (g24 : Nat) (w25 : Int32) (w26 : Int32) (w27 : Int32) (g28 : Nat) (g29 : Nat) (w30 : Int32) (g31 : Nat) (g32 : Nat) (g33 : Nat) (fa : Nat → Int32) (fk : Nat → Int32) : Option Value → va_W → Prop := fun rr ww => (∃ (ga : Nat → Int32) (gk : Nat → Int32), rr = some (.int (nI 0)) ∧ ww = [(o, .inr (8, [.int w0, .ref g1, .ref g2, .ref g3, .ref g4, .int w5, .int w6, .int w7, .int w8, .int w9, .int w10, .int w11, .int w12, .int w13, .int w14, .ref g15, .int w16, .ref g17, .int w18, .int w19, .ref g20, .int w21, .ref g22, .ref g23, .ref g24, .int w25, .int w26, .int w27, .ref g28, .ref g29, .int w30, .ref g31, .ref g32, .ref g33])), (g1, .inl (T 0, 282, .inl ga)), (g17, .inl (T 0, 94, .inl gk))] ∧ ga 0 = nI 0)
set_option maxHeartbeats 4000000 in
set_option maxRecDepth 100000 in
theorem m_doneBy (l : Launch) (D : va_G) (T : Nat → ClassId) (o : Nat) (n : Nat) (lz : Int32) (w0 : Int32) (g1 : Nat) (g2 : Nat) (g3 : Nat) (g4 : Nat) (w5 : Int32) (w6 : Int32) (w7 : Int32) (w8 : Int32) (w9 : Int32) (w10 : Int32) (w11 : Int32) (w12 : Int32) (w13 : Int32) (w14 : Int32) (g15 : Nat) (w16 : Int32) (g17 : Nat) (w18 : Int32) (w19 : Int32) (g20 : Nat) (w21 : Int32) (g22 : Nat) (g23 : Nat) (g24 : Nat) (w25 : Int32) (w26 : Int32) (w27 : Int32) (g28 : Nat) (g29 : Nat) (w30 : Int32) (g31 : Nat) (g32 : Nat) (g33 : Nat) (fa : Nat → Int32) (fk : Nat → Int32) (h_a : fa 0 = nI 0) (h_n : n ≤ 200) : Ct l yX8_doneBy cX8_doneBy 6 (some .int) 3 0 0 D T [.ref o, .int (nI n), .int lz, .int (-1), .int (nI 0)] [(o, .inr (8, [.int w0, .ref g1, .ref g2, .ref g3, .ref g4, .int w5, .int w6, .int w7, .int w8, .int w9, .int w10, .int w11, .int w12, .int w13, .int w14, .ref g15, .int w16, .ref g17, .int w18, .int w19, .ref g20, .int w21, .ref g22, .ref g23, .ref g24, .int w25, .int w26, .int w27, .ref g28, .ref g29, .int w30, .ref g31, .ref g32, .ref g33])), (g1, .inl (T 0, 282, .inl fa)), (g17, .inl (T 0, 94, .inl fk))] (q_m_doneBy T o n lz w0 g1 g2 g3 g4 w5 w6 w7 w8 w9 w10 w11 w12 w13 w14 g15 w16 g17 w18 w19 g20 w21 g22 g23 g24 w25 w26 w27 g28 g29 w30 g31 g32 g33 fa fk) := by
  refine Ct.of (cc := cX8_doneBy) (maxL := 6) (ret := (some .int)) (by decide) (Nat.le_of_ble_eq_true rfl) ?_
  intro p e s m args below meth c A ls hC hnm V hl
  obtain ⟨hx, hb, hr, hml, hown, hts, hlocks⟩ := id hC
  generalize hH : s.heap = H at V ⊢
  clear hH
  have hl : lv_has ls 6 [(0, .ref o), (1, .int (nI n)), (2, .int lz), (3, .int (-1)), (4, .int (nI 0))] := hl
  generalize hlo : ([] : List Loc) = locs at V ⊢
  clear hlo
  refine lv_aload_n hx hb dX8_doneBy_0 rfl (lv_at hl 0 rfl) ?_
  refine g_callV (wr := []) (nA := 0) hC V hl.1 (m_keeps l D T o w0 g1 g2 g3 g4 w5 w6 w7 w8 w9 w10 w11 w12 w13 w14 g15 w16 g17 w18 w19 g20 w21 g22 g23 g24 w25 w26 w27 g28 g29 w30 g31 g32 g33 fa fk (by first | assumption | omega | decide)) w_1146 w_1148 w_s53 w_9 w_1149 (by decide +kernel) rfl ⟨(Nat.le_of_ble_eq_true rfl), (Nat.le_of_ble_eq_true rfl)⟩ 0 (ci := 8) rfl rfl [0, 1, 2] [] rfl rfl rfl rfl (by decide) (Nat.le_of_ble_eq_true rfl) dX8_doneBy_1 ⟨(Nat.le_of_ble_eq_true rfl), (Nat.le_of_ble_eq_true rfl)⟩ rfl (fun r w1 H locs hQ V => ?_)
  obtain ⟨gk_1, rfl, rfl, f_2⟩ := hQ
  have V : gW D T A s [(o, .inr (8, [.int w0, .ref g1, .ref g2, .ref g3, .ref g4, .int w5, .int w6, .int w7, .int w8, .int w9, .int w10, .int w11, .int w12, .int w13, .int w14, .ref g15, .int w16, .ref g17, .int w18, .int w19, .ref g20, .int w21, .ref g22, .ref g23, .ref g24, .int w25, .int w26, .int w27, .ref g28, .ref g29, .int w30, .ref g31, .ref g32, .ref g33])), (g1, .inl (T 0, 282, .inl fa)), (g17, .inl (T 0, 94, .inl gk_1))] H locs := V
  show W p l e _ s m args below meth c H locs _ _ _ (F0 m 4 ls [])
  refine lv_aload_n hx hb dX8_doneBy_4 rfl (lv_at hl 0 rfl) ?_
  refine lv_iload_n hx hb dX8_doneBy_5 rfl (lv_at hl 1 rfl) ?_
  refine lv_iload_n hx hb dX8_doneBy_6 rfl (lv_at hl 2 rfl) ?_
  refine lv_iload_n hx hb dX8_doneBy_7 rfl (lv_at hl 3 rfl) ?_
  refine lv_iload hx hb dX8_doneBy_8 (lv_at hl 4 rfl) ?_
  refine g_callV (wr := [(g17, .inl (T 0, 94, .inl gk_1))]) (nA := 4) hC V hl.1 (m_lives l D T o n lz w0 g1 g2 g3 g4 w5 w6 w7 w8 w9 w10 w11 w12 w13 w14 g15 w16 g17 w18 w19 g20 w21 g22 g23 g24 w25 w26 w27 g28 g29 w30 g31 g32 g33 fa (by first | assumption | omega | decide) (by first | assumption | omega | decide)) w_1183 w_1185 w_s60 w_9 w_1186 (by decide +kernel) rfl ⟨(Nat.le_of_ble_eq_true rfl), (Nat.le_of_ble_eq_true rfl)⟩ 0 (ci := 8) rfl rfl [0, 1] [2] rfl rfl rfl rfl (by decide) (Nat.le_of_ble_eq_true rfl) dX8_doneBy_10 ⟨(Nat.le_of_ble_eq_true rfl), (Nat.le_of_ble_eq_true rfl)⟩ rfl (fun r w1 H locs hQ V => ?_)
  obtain ⟨ga_3, rfl, rfl, f_4⟩ := hQ
  have V : gW D T A s [(g17, .inl (T 0, 94, .inl gk_1)), (o, .inr (8, [.int w0, .ref g1, .ref g2, .ref g3, .ref g4, .int w5, .int w6, .int w7, .int w8, .int w9, .int w10, .int w11, .int w12, .int w13, .int w14, .ref g15, .int w16, .ref g17, .int w18, .int w19, .ref g20, .int w21, .ref g22, .ref g23, .ref g24, .int w25, .int w26, .int w27, .ref g28, .ref g29, .int w30, .ref g31, .ref g32, .ref g33])), (g1, .inl (T 0, 282, .inl ga_3))] H locs := V
  show W p l e _ s m args below meth c H locs _ _ _ (F0 m 13 ls [.int (nI 0)])
  refine lv_pop hx hb dX8_doneBy_13 rfl ?_
  refine lv_aload_n hx hb dX8_doneBy_14 rfl (lv_at hl 0 rfl) ?_
  refine g_callV (wr := [(g17, .inl (T 0, 94, .inl gk_1))]) (nA := 0) hC V hl.1 (m_doneMany l D T o w0 g1 g2 g3 g4 w5 w6 w7 w8 w9 w10 w11 w12 w13 w14 g15 w16 g17 w18 w19 g20 w21 g22 g23 g24 w25 w26 w27 g28 g29 w30 g31 g32 g33 ga_3 (by first | assumption | omega | decide)) w_1158 w_1160 w_s56 w_9 w_1161 (by decide +kernel) rfl ⟨(Nat.le_of_ble_eq_true rfl), (Nat.le_of_ble_eq_true rfl)⟩ 1 (ci := 8) rfl rfl [1, 2] [0] rfl rfl rfl rfl (by decide) (Nat.le_of_ble_eq_true rfl) dX8_doneBy_15 ⟨(Nat.le_of_ble_eq_true rfl), (Nat.le_of_ble_eq_true rfl)⟩ rfl (fun r w1 H locs hQ V => ?_)
  obtain ⟨rfl, rfl⟩ := hQ
  have V : gW D T A s [(g17, .inl (T 0, 94, .inl gk_1)), (o, .inr (8, [.int w0, .ref g1, .ref g2, .ref g3, .ref g4, .int w5, .int w6, .int w7, .int w8, .int w9, .int w10, .int w11, .int w12, .int w13, .int w14, .ref g15, .int w16, .ref g17, .int w18, .int w19, .ref g20, .int w21, .ref g22, .ref g23, .ref g24, .int w25, .int w26, .int w27, .ref g28, .ref g29, .int w30, .ref g31, .ref g32, .ref g33])), (g1, .inl (T 0, 282, .inl ga_3))] H locs := V
  show W p l e _ s m args below meth c H locs _ _ _ (F0 m 18 ls [.int (nI 0)])
  refine lv_istore (lv' := [(5, .int (nI 0)), (0, .ref o), (1, .int (nI n)), (2, .int lz), (3, .int (-1)), (4, .int (nI 0))]) hx hb dX8_doneBy_18 hl (by decide) rfl (fun ls hl => ?_)
  refine lv_aload_n hx hb dX8_doneBy_20 rfl (lv_at hl 1 rfl) ?_
  refine g_callV (wr := []) (nA := 0) hC V hl.1 (m_isAgain l D T o w0 g1 g2 g3 g4 w5 w6 w7 w8 w9 w10 w11 w12 w13 w14 g15 w16 g17 w18 w19 g20 w21 g22 g23 g24 w25 w26 w27 g28 g29 w30 g31 g32 g33 ga_3 gk_1 (by first | assumption | omega | decide) (by first | assumption | omega | decide)) w_1162 w_1164 w_s57 w_9 w_1165 (by decide +kernel) rfl ⟨(Nat.le_of_ble_eq_true rfl), (Nat.le_of_ble_eq_true rfl)⟩ 1 (ci := 8) rfl rfl [1, 2, 0] [] rfl rfl rfl rfl (by decide) (Nat.le_of_ble_eq_true rfl) dX8_doneBy_21 ⟨(Nat.le_of_ble_eq_true rfl), (Nat.le_of_ble_eq_true rfl)⟩ rfl (fun r w1 H locs hQ V => ?_)
  obtain ⟨ga_5, rfl, rfl, f_6⟩ := hQ
  have V : gW D T A s [(o, .inr (8, [.int w0, .ref g1, .ref g2, .ref g3, .ref g4, .int w5, .int w6, .int w7, .int w8, .int w9, .int w10, .int w11, .int w12, .int w13, .int w14, .ref g15, .int w16, .ref g17, .int w18, .int w19, .ref g20, .int w21, .ref g22, .ref g23, .ref g24, .int w25, .int w26, .int w27, .ref g28, .ref g29, .int w30, .ref g31, .ref g32, .ref g33])), (g1, .inl (T 0, 282, .inl ga_5)), (g17, .inl (T 0, 94, .inl gk_1))] H locs := V
  show W p l e _ s m args below meth c H locs _ _ _ (F0 m 24 ls [])
  refine lv_iload hx hb dX8_doneBy_24 (lv_at hl 0 rfl) ?_
  exact g_iret (Qr := (q_m_doneBy T o n lz w0 g1 g2 g3 g4 w5 w6 w7 w8 w9 w10 w11 w12 w13 w14 g15 w16 g17 w18 w19 g20 w21 g22 g23 g24 w25 w26 w27 g28 g29 w30 g31 g32 g33 fa fk)) hC V ⟨(Nat.le_of_ble_eq_true rfl), (Nat.le_of_ble_eq_true rfl)⟩ ⟨ga_5, gk_1, rfl, rfl, (by first | assumption | rfl | omega | (simp_all; done))⟩ dX8_doneBy_26

def q_m_refusesTime (T : Nat → ClassId) (o : Nat) (v : Int32) (w0 : Int32) (g1 : Nat) (g2 : Nat) (g3 : Nat) (g4 : Nat) (w5 : Int32) (w6 : Int32) (w7 : Int32) (w8 : Int32) (w9 : Int32) (w10 : Int32) (w11 : Int32) (w12 : Int32) (w13 : Int32) (w14 : Int32) (g15 : Nat) (w16 : Int32) (g17 : Nat) (w18 : Int32) (w19 : Int32) (g20 : Nat) (w21 : Int32) (g22 : Nat) (g23 : Nat) (g24 : Nat) (w25 : Int32) (w26 : Int32) (w27 : Int32) (g28 : Nat) (g29 : Nat) (w30 : Int32) (g31 : Nat) (g32 : Nat) (g33 : Nat) : Option Value → va_W → Prop := fun rr ww => (rr = some (.int (-3)) ∧ ww = [(o, .inr (8, [.int w0, .ref g1, .ref g2, .ref g3, .ref g4, .int w5, .int w6, .int w7, .int w8, .int w9, .int w10, .int w11, .int w12, .int w13, .int w14, .ref g15, .int w16, .ref g17, .int w18, .int w19, .ref g20, .int w21, .ref g22, .ref g23, .ref g24, .int w25, .int w26, .int w27, .ref g28, .ref g29, .int w30, .ref g31, .ref g32, .ref g33])), (g1, .inl (T 0, 282, .inl (upd (fun _ => nI 0) 2 (nI 20))))] ∧ (v < nI 1 ∨ nI 200 < v)) ∨ (∃ (j : Nat), rr = some (.int (nI 0)) ∧ ww = [(o, .inr (8, [.int w0, .ref g1, .ref g2, .ref g3, .ref g4, .int w5, .int w6, .int w7, .int w8, .int w9, .int w10, .int w11, .int w12, .int w13, .int w14, .ref g15, .int w16, .ref g17, .int w18, .int w19, .ref g20, .int w21, .ref g22, .ref g23, .ref g24, .int w25, .int w26, .int w27, .ref g28, .ref g29, .int w30, .ref g31, .ref g32, .ref g33])), (g1, .inl (T 0, 282, .inl (upd (fun _ => nI 0) 2 (nI 20))))] ∧ ¬ v < nI 1 ∧ ¬ nI 200 < v ∧ 1 ≤ j ∧ j ≤ 200 ∧ v = nI j)
set_option maxHeartbeats 4000000 in
set_option maxRecDepth 100000 in
theorem m_refusesTime (l : Launch) (D : va_G) (T : Nat → ClassId) (o : Nat) (v : Int32) (w0 : Int32) (g1 : Nat) (g2 : Nat) (g3 : Nat) (g4 : Nat) (w5 : Int32) (w6 : Int32) (w7 : Int32) (w8 : Int32) (w9 : Int32) (w10 : Int32) (w11 : Int32) (w12 : Int32) (w13 : Int32) (w14 : Int32) (g15 : Nat) (w16 : Int32) (g17 : Nat) (w18 : Int32) (w19 : Int32) (g20 : Nat) (w21 : Int32) (g22 : Nat) (g23 : Nat) (g24 : Nat) (w25 : Int32) (w26 : Int32) (w27 : Int32) (g28 : Nat) (g29 : Nat) (w30 : Int32) (g31 : Nat) (g32 : Nat) (g33 : Nat) : Ct l yX8_refusesTime cX8_refusesTime 2 (some .int) 1 0 0 D T [.ref o, .int v] [(o, .inr (8, [.int w0, .ref g1, .ref g2, .ref g3, .ref g4, .int w5, .int w6, .int w7, .int w8, .int w9, .int w10, .int w11, .int w12, .int w13, .int w14, .ref g15, .int w16, .ref g17, .int w18, .int w19, .ref g20, .int w21, .ref g22, .ref g23, .ref g24, .int w25, .int w26, .int w27, .ref g28, .ref g29, .int w30, .ref g31, .ref g32, .ref g33])), (g1, .inl (T 0, 282, .inl (upd (fun _ => nI 0) 2 (nI 20))))] (q_m_refusesTime T o v w0 g1 g2 g3 g4 w5 w6 w7 w8 w9 w10 w11 w12 w13 w14 g15 w16 g17 w18 w19 g20 w21 g22 g23 g24 w25 w26 w27 g28 g29 w30 g31 g32 g33) := by
  refine Ct.of (cc := cX8_refusesTime) (maxL := 2) (ret := (some .int)) (by decide) (Nat.le_of_ble_eq_true rfl) ?_
  intro p e s m args below meth c A ls hC hnm V hl
  obtain ⟨hx, hb, hr, hml, hown, hts, hlocks⟩ := id hC
  generalize hH : s.heap = H at V ⊢
  clear hH
  have hl : lv_has ls 2 [(0, .ref o), (1, .int v)] := hl
  generalize hlo : ([] : List Loc) = locs at V ⊢
  clear hlo
  refine lv_iload_n hx hb dX8_refusesTime_0 rfl (lv_at hl 1 rfl) ?_
  refine lv_i2l (v := v.toInt64) hx hb dX8_refusesTime_1 rfl ?_
  refine lv_lconst (v := (nI 1).toInt64) hx hb dX8_refusesTime_2 (by decide +kernel) ?_
  refine lv_ldc2 (v := (200)) hx hb hown (hts _ w_1178) dX8_refusesTime_3 ?_
  refine g_vl (y := (nI 200).toInt64) (by decide +kernel) ?_
  refine g_callS (wr := [(o, .inr (8, [.int w0, .ref g1, .ref g2, .ref g3, .ref g4, .int w5, .int w6, .int w7, .int w8, .int w9, .int w10, .int w11, .int w12, .int w13, .int w14, .ref g15, .int w16, .ref g17, .int w18, .int w19, .ref g20, .int w21, .ref g22, .ref g23, .ref g24, .int w25, .int w26, .int w27, .ref g28, .ref g29, .int w30, .ref g31, .ref g32, .ref g33])), (g1, .inl (T 0, 282, .inl (upd (fun _ => nI 0) 2 (nI 20))))]) (nA := 3) hC V hl.1 (c_within l D T v (nI 1) (nI 200)) w_1023 w_1024 w_9 w_1025 (by decide +kernel) rfl ⟨(Nat.le_of_ble_eq_true rfl), (Nat.le_of_ble_eq_true rfl)⟩ [] [0, 1] rfl rfl rfl rfl (by decide) (Nat.le_of_ble_eq_true rfl) dX8_refusesTime_6 ⟨(Nat.le_of_ble_eq_true rfl), (Nat.le_of_ble_eq_true rfl)⟩ rfl (fun r w1 H locs hQ V => ?_)
  rcases hQ with ⟨rfl, rfl, f_1, f_2⟩ | ⟨rfl, rfl, f_3⟩
  · have V : gW D T A s [(o, .inr (8, [.int w0, .ref g1, .ref g2, .ref g3, .ref g4, .int w5, .int w6, .int w7, .int w8, .int w9, .int w10, .int w11, .int w12, .int w13, .int w14, .ref g15, .int w16, .ref g17, .int w18, .int w19, .ref g20, .int w21, .ref g22, .ref g23, .ref g24, .int w25, .int w26, .int w27, .ref g28, .ref g29, .int w30, .ref g31, .ref g32, .ref g33])), (g1, .inl (T 0, 282, .inl (upd (fun _ => nI 0) 2 (nI 20))))] H locs := V
    show W p l e _ s m args below meth c H locs _ _ _ (F0 m 9 ls [.int (nI 1)])
    obtain ⟨i, hi1, hi2, ei⟩ := g_rng (by first | decide | omega) (by first | decide | omega) f_1 f_2
    rw [ei] at hl
    refine lv_if_ne (tgt := 17) hx hb dX8_refusesTime_9 (by decide) (fun _ => ?_) (fun c => absurd (show (nI 1) = 0 from c) (by decide +kernel))
    refine lv_aload_n hx hb dX8_refusesTime_17 rfl (lv_at hl 0 rfl) ?_
    refine g_get hC V (ci := 8) uwX8 0 rfl rfl 1 (by decide) w_913 rfl rfl dX8_refusesTime_18 ?_
    refine lv_iconst (v := (nI 1)) hx hb dX8_refusesTime_21 (by decide +kernel) ?_
    refine g_iald hC V 1 rfl (vp_in_nI (by decide) (by decide)) (v := (nI 0)) (by rw [nI_clamp (by decide)]; rfl) dX8_refusesTime_22 ?_
    refine lv_iload_n hx hb dX8_refusesTime_23 rfl (lv_at hl 1 rfl) ?_
    refine lv_iadd hx hb dX8_refusesTime_24 ?_
    refine g_vi (y := (nI (0 + i))) (nI_add _ _) ?_
    refine lv_sipush (v := (nI 9999)) hx hb dX8_refusesTime_25 (by decide +kernel) ?_
    refine lv_icmp_le (tgt := 36) hx hb dX8_refusesTime_28 (by decide) (fun c_4 => ?_) (fun c_4 => ?_)
    · skip
      have c_4 := b_le (by omega) (by omega) c_4
      refine lv_iconst (v := (nI 0)) hx hb dX8_refusesTime_36 (by decide +kernel) ?_
      exact g_iret (Qr := (q_m_refusesTime T o v w0 g1 g2 g3 g4 w5 w6 w7 w8 w9 w10 w11 w12 w13 w14 g15 w16 g17 w18 w19 g20 w21 g22 g23 g24 w25 w26 w27 g28 g29 w30 g31 g32 g33)) hC V ⟨(Nat.le_of_ble_eq_true rfl), (Nat.le_of_ble_eq_true rfl)⟩ (.inr ⟨i, rfl, rfl, (by assumption), (by assumption), (by assumption), (by assumption), (by assumption)⟩) dX8_refusesTime_37
    · skip
      have c_4 := b_nle (by omega) (by omega) c_4
      exact (by omega : False).elim
  · have V : gW D T A s [(o, .inr (8, [.int w0, .ref g1, .ref g2, .ref g3, .ref g4, .int w5, .int w6, .int w7, .int w8, .int w9, .int w10, .int w11, .int w12, .int w13, .int w14, .ref g15, .int w16, .ref g17, .int w18, .int w19, .ref g20, .int w21, .ref g22, .ref g23, .ref g24, .int w25, .int w26, .int w27, .ref g28, .ref g29, .int w30, .ref g31, .ref g32, .ref g33])), (g1, .inl (T 0, 282, .inl (upd (fun _ => nI 0) 2 (nI 20))))] H locs := V
    show W p l e _ s m args below meth c H locs _ _ _ (F0 m 9 ls [.int (nI 0)])
    refine lv_if_ne (tgt := 17) hx hb dX8_refusesTime_9 (by decide) (fun c => absurd (show (nI 0) = 0 by decide +kernel) c) (fun _ => ?_)
    refine lv_bipush (v := (-3)) hx hb dX8_refusesTime_12 (by decide +kernel) ?_
    refine lv_goto (tgt := 37) hx hb dX8_refusesTime_14 (by decide) ?_
    exact g_iret (Qr := (q_m_refusesTime T o v w0 g1 g2 g3 g4 w5 w6 w7 w8 w9 w10 w11 w12 w13 w14 g15 w16 g17 w18 w19 g20 w21 g22 g23 g24 w25 w26 w27 g28 g29 w30 g31 g32 g33)) hC V ⟨(Nat.le_of_ble_eq_true rfl), (Nat.le_of_ble_eq_true rfl)⟩ (.inl ⟨rfl, rfl, (by assumption)⟩) dX8_refusesTime_37

def q_m_holdsBy (T : Nat → ClassId) (o : Nat) (le : Nat) (w0 : Int32) (g1 : Nat) (g2 : Nat) (g3 : Nat) (g4 : Nat) (w5 : Int32) (w6 : Int32) (w7 : Int32) (w8 : Int32) (w9 : Int32) (w10 : Int32) (w11 : Int32) (w12 : Int32) (w13 : Int32) (w14 : Int32) (g15 : Nat) (w16 : Int32) (g17 : Nat) (w18 : Int32) (w19 : Int32) (g20 : Nat) (w21 : Int32) (g22 : Nat) (g23 : Nat) (g24 : Nat) (w25 : Int32) (w26 : Int32) (w27 : Int32) (g28 : Nat) (g29 : Nat) (w30 : Int32) (g31 : Nat) (g32 : Nat) (g33 : Nat) (fa : Nat → Int32) (fk : Nat → Int32) : Option Value → va_W → Prop := fun rr ww => (∃ (ga : Nat → Int32) (gk : Nat → Int32), rr = some (.int (-1)) ∧ ww = [(o, .inr (8, [.int w0, .ref g1, .ref g2, .ref g3, .ref g4, .int w5, .int w6, .int w7, .int w8, .int w9, .int w10, .int w11, .int w12, .int w13, .int w14, .ref g15, .int w16, .ref g17, .int w18, .int w19, .ref g20, .int (-1), .ref g22, .ref g23, .ref g24, .int w25, .int w26, .int w27, .ref g28, .ref g29, .int w30, .ref g31, .ref g32, .ref g33])), (g1, .inl (T 0, 282, .inl ga)), (g17, .inl (T 0, 94, .inl gk))] ∧ ga 0 = nI 0)
set_option maxHeartbeats 4000000 in
set_option maxRecDepth 100000 in
theorem m_holdsBy (l : Launch) (D : va_G) (T : Nat → ClassId) (o : Nat) (le : Nat) (w0 : Int32) (g1 : Nat) (g2 : Nat) (g3 : Nat) (g4 : Nat) (w5 : Int32) (w6 : Int32) (w7 : Int32) (w8 : Int32) (w9 : Int32) (w10 : Int32) (w11 : Int32) (w12 : Int32) (w13 : Int32) (w14 : Int32) (g15 : Nat) (w16 : Int32) (g17 : Nat) (w18 : Int32) (w19 : Int32) (g20 : Nat) (w21 : Int32) (g22 : Nat) (g23 : Nat) (g24 : Nat) (w25 : Int32) (w26 : Int32) (w27 : Int32) (g28 : Nat) (g29 : Nat) (w30 : Int32) (g31 : Nat) (g32 : Nat) (g33 : Nat) (fa : Nat → Int32) (fk : Nat → Int32) (h_a : fa 0 = nI 0) (h_l : 1 ≤ le ∧ le ≤ 12) : Ct l yX8_holdsBy cX8_holdsBy 6 (some .int) 2 0 0 D T [.ref o, .int (nI le)] [(o, .inr (8, [.int w0, .ref g1, .ref g2, .ref g3, .ref g4, .int w5, .int w6, .int w7, .int w8, .int w9, .int w10, .int w11, .int w12, .int w13, .int w14, .ref g15, .int w16, .ref g17, .int w18, .int w19, .ref g20, .int w21, .ref g22, .ref g23, .ref g24, .int w25, .int w26, .int w27, .ref g28, .ref g29, .int w30, .ref g31, .ref g32, .ref g33])), (g1, .inl (T 0, 282, .inl fa)), (g17, .inl (T 0, 94, .inl fk))] (q_m_holdsBy T o le w0 g1 g2 g3 g4 w5 w6 w7 w8 w9 w10 w11 w12 w13 w14 g15 w16 g17 w18 w19 g20 w21 g22 g23 g24 w25 w26 w27 g28 g29 w30 g31 g32 g33 fa fk) := by
  refine Ct.of (cc := cX8_holdsBy) (maxL := 6) (ret := (some .int)) (by decide) (Nat.le_of_ble_eq_true rfl) ?_
  intro p e s m args below meth c A ls hC hnm V hl
  obtain ⟨hx, hb, hr, hml, hown, hts, hlocks⟩ := id hC
  generalize hH : s.heap = H at V ⊢
  clear hH
  have hl : lv_has ls 6 [(0, .ref o), (1, .int (nI le))] := hl
  generalize hlo : ([] : List Loc) = locs at V ⊢
  clear hlo
  refine lv_aload_n hx hb dX8_holdsBy_0 rfl (lv_at hl 0 rfl) ?_
  refine g_callV (wr := []) (nA := 0) hC V hl.1 (m_keeps l D T o w0 g1 g2 g3 g4 w5 w6 w7 w8 w9 w10 w11 w12 w13 w14 g15 w16 g17 w18 w19 g20 w21 g22 g23 g24 w25 w26 w27 g28 g29 w30 g31 g32 g33 fa fk (by first | assumption | omega | decide)) w_1146 w_1148 w_s53 w_9 w_1149 (by decide +kernel) rfl ⟨(Nat.le_of_ble_eq_true rfl), (Nat.le_of_ble_eq_true rfl)⟩ 0 (ci := 8) rfl rfl [0, 1, 2] [] rfl rfl rfl rfl (by decide) (Nat.le_of_ble_eq_true rfl) dX8_holdsBy_1 ⟨(Nat.le_of_ble_eq_true rfl), (Nat.le_of_ble_eq_true rfl)⟩ rfl (fun r w1 H locs hQ V => ?_)
  obtain ⟨gk_1, rfl, rfl, f_2⟩ := hQ
  have V : gW D T A s [(o, .inr (8, [.int w0, .ref g1, .ref g2, .ref g3, .ref g4, .int w5, .int w6, .int w7, .int w8, .int w9, .int w10, .int w11, .int w12, .int w13, .int w14, .ref g15, .int w16, .ref g17, .int w18, .int w19, .ref g20, .int w21, .ref g22, .ref g23, .ref g24, .int w25, .int w26, .int w27, .ref g28, .ref g29, .int w30, .ref g31, .ref g32, .ref g33])), (g1, .inl (T 0, 282, .inl fa)), (g17, .inl (T 0, 94, .inl gk_1))] H locs := V
  show W p l e _ s m args below meth c H locs _ _ _ (F0 m 4 ls [])
  refine lv_iconst (v := (-1)) hx hb dX8_holdsBy_4 (by decide +kernel) ?_
  refine lv_istore_n (lv' := [(2, .int (-1)), (0, .ref o), (1, .int (nI le))]) hx hb dX8_holdsBy_5 rfl hl (by decide) rfl (fun ls hl => ?_)
  refine lv_aload_n hx hb dX8_holdsBy_6 rfl (lv_at hl 1 rfl) ?_
  refine lv_iconst (v := (-1)) hx hb dX8_holdsBy_7 (by decide +kernel) ?_
  refine g_put hC V (ci := 8) uwX8 tyX8 tyX8_ok nmX8 0 rfl rfl 21 (by decide) w_933 rfl rfl rfl rfl (Nat.le_of_ble_eq_true rfl) (ws' := [(o, .inr (8, [.int w0, .ref g1, .ref g2, .ref g3, .ref g4, .int w5, .int w6, .int w7, .int w8, .int w9, .int w10, .int w11, .int w12, .int w13, .int w14, .ref g15, .int w16, .ref g17, .int w18, .int w19, .ref g20, .int (-1), .ref g22, .ref g23, .ref g24, .int w25, .int w26, .int w27, .ref g28, .ref g29, .int w30, .ref g31, .ref g32, .ref g33])), (g1, .inl (T 0, 282, .inl fa)), (g17, .inl (T 0, 94, .inl gk_1))]) rfl dX8_holdsBy_8 (fun H locs V => ?_)
  refine lv_iconst (v := (nI 0)) hx hb dX8_holdsBy_11 (by decide +kernel) ?_
  refine lv_istore_n (lv' := [(3, .int (nI 0)), (2, .int (-1)), (0, .ref o), (1, .int (nI le))]) hx hb dX8_holdsBy_12 rfl hl (by decide) rfl (fun ls hl => ?_)
  have L_3 : ∀ (fu : Nat) (k : Nat), k ≤ 201 * le + 2 → 201 * le + 2 - k < fu → ∀ (H : Heap) (locs : List Loc) (ls : Array Slot), gW D T A s [(o, .inr (8, [.int w0, .ref g1, .ref g2, .ref g3, .ref g4, .int w5, .int w6, .int w7, .int w8, .int w9, .int w10, .int w11, .int w12, .int w13, .int w14, .ref g15, .int w16, .ref g17, .int w18, .int w19, .ref g20, .int (-1), .ref g22, .ref g23, .ref g24, .int w25, .int w26, .int w27, .ref g28, .ref g29, .int w30, .ref g31, .ref g32, .ref g33])), (g1, .inl (T 0, 282, .inl fa)), (g17, .inl (T 0, 94, .inl gk_1))] H locs → lv_has ls 6 [(3, .int (nI k)), (2, .int (-1)), (0, .ref o), (1, .int (nI le))] → W p l e (rmD 2 0 0) s m args below meth c H locs 0 0 (MQ below (gQ D A (q_m_holdsBy T o le w0 g1 g2 g3 g4 w5 w6 w7 w8 w9 w10 w11 w12 w13 w14 g15 w16 g17 w18 w19 g20 w21 g22 g23 g24 w25 w26 w27 g28 g29 w30 g31 g32 g33 fa fk)) args s 0 0 A) (F0 m 13 ls []) := by
    intro fu
    induction fu with
    | zero => intro k hk hmu; exact absurd hmu (Nat.not_lt_zero _)
    | succ fu ih =>
      intro k hk hmu H locs ls V hl
      refine lv_iload_n hx hb dX8_holdsBy_13 rfl (lv_at hl 0 rfl) ?_
      refine lv_sipush (v := (nI 201)) hx hb dX8_holdsBy_14 (by decide +kernel) ?_
      refine lv_iload_n hx hb dX8_holdsBy_17 rfl (lv_at hl 3 rfl) ?_
      refine lv_imul hx hb dX8_holdsBy_18 ?_
      refine g_vi (y := (nI (201 * le))) (pk_mul _ _) ?_
      refine lv_iconst (v := (nI 2)) hx hb dX8_holdsBy_19 (by decide +kernel) ?_
      refine lv_iadd hx hb dX8_holdsBy_20 ?_
      refine g_vi (y := (nI ((201 * le) + 2))) (nI_add _ _) ?_
      refine lv_icmp_ge (tgt := 140) hx hb dX8_holdsBy_21 (by decide) (fun c_4 => ?_) (fun c_4 => ?_)
      · skip
        have c_4 := b_le (by omega) (by omega) c_4
        refine lv_aload_n hx hb dX8_holdsBy_140 rfl (lv_at hl 2 rfl) ?_
        refine g_callV (wr := []) (nA := 0) hC V hl.1 (m_isAgain l D T o w0 g1 g2 g3 g4 w5 w6 w7 w8 w9 w10 w11 w12 w13 w14 g15 w16 g17 w18 w19 g20 (-1) g22 g23 g24 w25 w26 w27 g28 g29 w30 g31 g32 g33 fa gk_1 (by first | assumption | omega | decide) (by first | assumption | omega | decide)) w_1162 w_1164 w_s57 w_9 w_1165 (by decide +kernel) rfl ⟨(Nat.le_of_ble_eq_true rfl), (Nat.le_of_ble_eq_true rfl)⟩ 0 (ci := 8) rfl rfl [0, 1, 2] [] rfl rfl rfl rfl (by decide) (Nat.le_of_ble_eq_true rfl) dX8_holdsBy_141 ⟨(Nat.le_of_ble_eq_true rfl), (Nat.le_of_ble_eq_true rfl)⟩ rfl (fun r w1 H locs hQ V => ?_)
        obtain ⟨ga_5, rfl, rfl, f_6⟩ := hQ
        have V : gW D T A s [(o, .inr (8, [.int w0, .ref g1, .ref g2, .ref g3, .ref g4, .int w5, .int w6, .int w7, .int w8, .int w9, .int w10, .int w11, .int w12, .int w13, .int w14, .ref g15, .int w16, .ref g17, .int w18, .int w19, .ref g20, .int (-1), .ref g22, .ref g23, .ref g24, .int w25, .int w26, .int w27, .ref g28, .ref g29, .int w30, .ref g31, .ref g32, .ref g33])), (g1, .inl (T 0, 282, .inl ga_5)), (g17, .inl (T 0, 94, .inl gk_1))] H locs := V
        show W p l e _ s m args below meth c H locs _ _ _ (F0 m 144 ls [])
        refine lv_iload_n hx hb dX8_holdsBy_144 rfl (lv_at hl 1 rfl) ?_
        exact g_iret (Qr := (q_m_holdsBy T o le w0 g1 g2 g3 g4 w5 w6 w7 w8 w9 w10 w11 w12 w13 w14 g15 w16 g17 w18 w19 g20 w21 g22 g23 g24 w25 w26 w27 g28 g29 w30 g31 g32 g33 fa fk)) hC V ⟨(Nat.le_of_ble_eq_true rfl), (Nat.le_of_ble_eq_true rfl)⟩ ⟨ga_5, gk_1, rfl, rfl, (by first | assumption | rfl | omega | (simp_all; done))⟩ dX8_holdsBy_145
      · skip
        have c_4 := b_nle (by omega) (by omega) c_4
        refine lv_iload_n hx hb dX8_holdsBy_24 rfl (lv_at hl 1 rfl) ?_
        refine lv_iconst (v := (-1)) hx hb dX8_holdsBy_25 (by decide +kernel) ?_
        refine lv_icmp_ne (tgt := 140) hx hb dX8_holdsBy_26 (by decide) (fun c => absurd (show (-1 : Int32) = (-1 : Int32) by first | rfl | decide +kernel) c) (fun _ => ?_)
        refine lv_aload_n hx hb dX8_holdsBy_29 rfl (lv_at hl 2 rfl) ?_
        refine lv_iload_n hx hb dX8_holdsBy_30 rfl (lv_at hl 0 rfl) ?_
        refine lv_iload_n hx hb dX8_holdsBy_31 rfl (lv_at hl 3 rfl) ?_
        refine lv_irem hx hb dX8_holdsBy_32 (nI_ne0 (by omega) (by omega)) ?_
        refine g_callV (wr := [(g17, .inl (T 0, 94, .inl gk_1))]) (nA := 1) hC V hl.1 (m_pulling l D T o ((nI k) - (nI k) / (nI le) * (nI le)) w0 g1 g2 g3 g4 w5 w6 w7 w8 w9 w10 w11 w12 w13 w14 g15 w16 g17 w18 w19 g20 (-1) g22 g23 g24 w25 w26 w27 g28 g29 w30 g31 g32 g33 fa (by first | assumption | omega | decide)) w_1233 w_1235 w_s65 w_9 w_1236 (by decide +kernel) rfl ⟨(Nat.le_of_ble_eq_true rfl), (Nat.le_of_ble_eq_true rfl)⟩ 0 (ci := 8) rfl rfl [0, 1] [2] rfl rfl rfl rfl (by decide) (Nat.le_of_ble_eq_true rfl) dX8_holdsBy_33 ⟨(Nat.le_of_ble_eq_true rfl), (Nat.le_of_ble_eq_true rfl)⟩ rfl (fun r w1 H locs hQ V => ?_)
        obtain ⟨rfl, rfl⟩ := hQ
        have V : gW D T A s [(g17, .inl (T 0, 94, .inl gk_1)), (o, .inr (8, [.int w0, .ref g1, .ref g2, .ref g3, .ref g4, .int w5, .int w6, .int w7, .int w8, .int w9, .int w10, .int w11, .int w12, .int w13, .int w14, .ref g15, .int w16, .ref g17, .int w18, .int w19, .ref g20, .int (-1), .ref g22, .ref g23, .ref g24, .int w25, .int w26, .int w27, .ref g28, .ref g29, .int w30, .ref g31, .ref g32, .ref g33])), (g1, .inl (T 0, 282, .inl fa))] H locs := V
        show W p l e _ s m args below meth c H locs _ _ _ (F0 m 36 ls [.int (nI 0)])
        refine lv_istore (lv' := [(4, .int (nI 0)), (3, .int (nI k)), (2, .int (-1)), (0, .ref o), (1, .int (nI le))]) hx hb dX8_holdsBy_36 hl (by decide) rfl (fun ls hl => ?_)
        refine lv_iconst (v := (nI 0)) hx hb dX8_holdsBy_38 (by decide +kernel) ?_
        refine lv_istore (lv' := [(5, .int (nI 0)), (4, .int (nI 0)), (3, .int (nI k)), (2, .int (-1)), (0, .ref o), (1, .int (nI le))]) hx hb dX8_holdsBy_39 hl (by decide) rfl (fun ls hl => ?_)
        refine lv_iload hx hb dX8_holdsBy_41 (lv_at hl 0 rfl) ?_
        refine lv_aload_n hx hb dX8_holdsBy_43 rfl (lv_at hl 4 rfl) ?_
        refine g_get hC V (ci := 8) uwX8 1 rfl rfl 1 (by decide) w_913 rfl rfl dX8_holdsBy_44 ?_
        refine lv_iconst (v := (nI 0)) hx hb dX8_holdsBy_47 (by decide +kernel) ?_
        refine g_iald hC V 2 rfl (vp_in_nI (by decide) (by decide)) (v := (nI 0)) (by rw [nI_clamp (by decide)]; first | rfl | exact h_a) dX8_holdsBy_48 ?_
        refine lv_icmp_ge (tgt := 74) hx hb dX8_holdsBy_49 (by decide) (fun _ => ?_) (fun c => absurd (show (nI 0) ≤ (nI 0) by first | rfl | decide +kernel) c)
        refine lv_aload_n hx hb dX8_holdsBy_74 rfl (lv_at hl 4 rfl) ?_
        refine g_get hC V (ci := 8) uwX8 1 rfl rfl 1 (by decide) w_913 rfl rfl dX8_holdsBy_75 ?_
        refine lv_iconst (v := (nI 0)) hx hb dX8_holdsBy_78 (by decide +kernel) ?_
        refine g_iald hC V 2 rfl (vp_in_nI (by decide) (by decide)) (v := (nI 0)) (by rw [nI_clamp (by decide)]; first | rfl | exact h_a) dX8_holdsBy_79 ?_
        refine lv_iconst (v := (nI 1)) hx hb dX8_holdsBy_80 (by decide +kernel) ?_
        refine lv_isub hx hb dX8_holdsBy_81 ?_
        refine g_vi (y := (-1)) (by decide +kernel) ?_
        refine lv_istore (lv' := [(5, .int (-1)), (4, .int (nI 0)), (3, .int (nI k)), (2, .int (-1)), (0, .ref o), (1, .int (nI le))]) hx hb dX8_holdsBy_82 hl (by decide) rfl (fun ls hl => ?_)
        refine lv_iload hx hb dX8_holdsBy_84 (lv_at hl 0 rfl) ?_
        refine lv_if_lt (tgt := 134) hx hb dX8_holdsBy_86 (by decide) (fun _ => ?_) (fun c => absurd (show (-1 : Int32) < 0 by decide +kernel) c)
        refine lv_iinc (v := (nI (k + 1))) (lv' := [(3, .int (nI (k + 1))), (5, .int (-1)), (4, .int (nI 0)), (2, .int (-1)), (0, .ref o), (1, .int (nI le))]) hx hb dX8_holdsBy_134 hl (k := 2) rfl (nI_1 _) (by decide) rfl (fun ls hl => ?_)
        refine lv_goto (tgt := 13) hx hb dX8_holdsBy_137 (by decide) ?_
        exact ih (k + 1) (by omega) (by omega) _ _ _ (V.sub [1, 2, 0] rfl rfl) (lv_sub hl [0, 3, 4, 5] rfl)
  exact L_3 _ 0 (Nat.zero_le _) (Nat.lt_succ_self _) _ _ _ V (lv_sub hl [0, 1, 2, 3] rfl)

def q_m_waves (T : Nat → ClassId) (o : Nat) (le : Nat) (step : Int32) (w0 : Int32) (g1 : Nat) (g2 : Nat) (g3 : Nat) (g4 : Nat) (w5 : Int32) (w6 : Int32) (w7 : Int32) (w8 : Int32) (w9 : Int32) (w10 : Int32) (w11 : Int32) (w12 : Int32) (w13 : Int32) (w14 : Int32) (g15 : Nat) (w16 : Int32) (g17 : Nat) (w18 : Int32) (w19 : Int32) (g20 : Nat) (w21 : Int32) (g22 : Nat) (g23 : Nat) (g24 : Nat) (w25 : Int32) (w26 : Int32) (w27 : Int32) (g28 : Nat) (g29 : Nat) (w30 : Int32) (g31 : Nat) (g32 : Nat) (g33 : Nat) (fa : Nat → Int32) (fk : Nat → Int32) : Option Value → va_W → Prop := fun rr ww => (∃ (ga : Nat → Int32) (gk : Nat → Int32), rr = some (.int (-1)) ∧ ww = [(o, .inr (8, [.int w0, .ref g1, .ref g2, .ref g3, .ref g4, .int w5, .int w6, .int w7, .int w8, .int w9, .int w10, .int w11, .int w12, .int w13, .int w14, .ref g15, .int w16, .ref g17, .int w18, .int w19, .ref g20, .int (-1), .ref g22, .ref g23, .ref g24, .int w25, .int w26, .int w27, .ref g28, .ref g29, .int w30, .ref g31, .ref g32, .ref g33])), (g1, .inl (T 0, 282, .inl ga)), (g17, .inl (T 0, 94, .inl gk))] ∧ ga 0 = nI 0)
set_option maxHeartbeats 4000000 in
set_option maxRecDepth 100000 in
theorem m_waves (l : Launch) (D : va_G) (T : Nat → ClassId) (o : Nat) (le : Nat) (step : Int32) (w0 : Int32) (g1 : Nat) (g2 : Nat) (g3 : Nat) (g4 : Nat) (w5 : Int32) (w6 : Int32) (w7 : Int32) (w8 : Int32) (w9 : Int32) (w10 : Int32) (w11 : Int32) (w12 : Int32) (w13 : Int32) (w14 : Int32) (g15 : Nat) (w16 : Int32) (g17 : Nat) (w18 : Int32) (w19 : Int32) (g20 : Nat) (w21 : Int32) (g22 : Nat) (g23 : Nat) (g24 : Nat) (w25 : Int32) (w26 : Int32) (w27 : Int32) (g28 : Nat) (g29 : Nat) (w30 : Int32) (g31 : Nat) (g32 : Nat) (g33 : Nat) (fa : Nat → Int32) (fk : Nat → Int32) (h_a : fa 0 = nI 0) (h_l : 1 ≤ le ∧ le ≤ 12) : Ct l yX8_waves cX8_waves 4 (some .int) 3 0 0 D T [.ref o, .int (nI le), .int step] [(o, .inr (8, [.int w0, .ref g1, .ref g2, .ref g3, .ref g4, .int w5, .int w6, .int w7, .int w8, .int w9, .int w10, .int w11, .int w12, .int w13, .int w14, .ref g15, .int w16, .ref g17, .int w18, .int w19, .ref g20, .int w21, .ref g22, .ref g23, .ref g24, .int w25, .int w26, .int w27, .ref g28, .ref g29, .int w30, .ref g31, .ref g32, .ref g33])), (g1, .inl (T 0, 282, .inl fa)), (g17, .inl (T 0, 94, .inl fk))] (q_m_waves T o le step w0 g1 g2 g3 g4 w5 w6 w7 w8 w9 w10 w11 w12 w13 w14 g15 w16 g17 w18 w19 g20 w21 g22 g23 g24 w25 w26 w27 g28 g29 w30 g31 g32 g33 fa fk) := by
  refine Ct.of (cc := cX8_waves) (maxL := 4) (ret := (some .int)) (by decide) (Nat.le_of_ble_eq_true rfl) ?_
  intro p e s m args below meth c A ls hC hnm V hl
  obtain ⟨hx, hb, hr, hml, hown, hts, hlocks⟩ := id hC
  generalize hH : s.heap = H at V ⊢
  clear hH
  have hl : lv_has ls 4 [(0, .ref o), (1, .int (nI le)), (2, .int step)] := hl
  generalize hlo : ([] : List Loc) = locs at V ⊢
  clear hlo
  refine lv_iconst (v := (nI 0)) hx hb dX8_waves_0 (by decide +kernel) ?_
  refine lv_istore_n (lv' := [(3, .int (nI 0)), (0, .ref o), (1, .int (nI le)), (2, .int step)]) hx hb dX8_waves_1 rfl hl (by decide) rfl (fun ls hl => ?_)
  refine lv_iload_n hx hb dX8_waves_2 rfl (lv_at hl 0 rfl) ?_
  refine lv_aload_n hx hb dX8_waves_3 rfl (lv_at hl 1 rfl) ?_
  refine g_get hC V (ci := 8) uwX8 0 rfl rfl 1 (by decide) w_913 rfl rfl dX8_waves_4 ?_
  refine lv_iconst (v := (nI 0)) hx hb dX8_waves_7 (by decide +kernel) ?_
  refine g_iald hC V 1 rfl (vp_in_nI (by decide) (by decide)) (v := (nI 0)) (by rw [nI_clamp (by decide)]; first | rfl | exact h_a) dX8_waves_8 ?_
  refine lv_icmp_ge (tgt := 31) hx hb dX8_waves_9 (by decide) (fun _ => ?_) (fun c => absurd (show (nI 0) ≤ (nI 0) by first | rfl | decide +kernel) c)
  refine lv_aload_n hx hb dX8_waves_31 rfl (lv_at hl 1 rfl) ?_
  refine lv_iload_n hx hb dX8_waves_32 rfl (lv_at hl 2 rfl) ?_
  refine g_callV (wr := []) (nA := 1) hC V hl.1 (m_holdsBy l D T o le w0 g1 g2 g3 g4 w5 w6 w7 w8 w9 w10 w11 w12 w13 w14 g15 w16 g17 w18 w19 g20 w21 g22 g23 g24 w25 w26 w27 g28 g29 w30 g31 g32 g33 fa fk (by first | assumption | omega | decide) (by first | assumption | omega | decide)) w_1229 w_1231 w_s64 w_9 w_1232 (by decide +kernel) rfl ⟨(Nat.le_of_ble_eq_true rfl), (Nat.le_of_ble_eq_true rfl)⟩ 0 (ci := 8) rfl rfl [0, 1, 2] [] rfl rfl rfl rfl (by decide) (Nat.le_of_ble_eq_true rfl) dX8_waves_33 ⟨(Nat.le_of_ble_eq_true rfl), (Nat.le_of_ble_eq_true rfl)⟩ rfl (fun r w1 H locs hQ V => ?_)
  obtain ⟨ga_1, gk_2, rfl, rfl, f_3⟩ := hQ
  have V : gW D T A s [(o, .inr (8, [.int w0, .ref g1, .ref g2, .ref g3, .ref g4, .int w5, .int w6, .int w7, .int w8, .int w9, .int w10, .int w11, .int w12, .int w13, .int w14, .ref g15, .int w16, .ref g17, .int w18, .int w19, .ref g20, .int (-1), .ref g22, .ref g23, .ref g24, .int w25, .int w26, .int w27, .ref g28, .ref g29, .int w30, .ref g31, .ref g32, .ref g33])), (g1, .inl (T 0, 282, .inl ga_1)), (g17, .inl (T 0, 94, .inl gk_2))] H locs := V
  show W p l e _ s m args below meth c H locs _ _ _ (F0 m 36 ls [.int (-1)])
  exact g_iret (Qr := (q_m_waves T o le step w0 g1 g2 g3 g4 w5 w6 w7 w8 w9 w10 w11 w12 w13 w14 g15 w16 g17 w18 w19 g20 w21 g22 g23 g24 w25 w26 w27 g28 g29 w30 g31 g32 g33 fa fk)) hC V ⟨(Nat.le_of_ble_eq_true rfl), (Nat.le_of_ble_eq_true rfl)⟩ ⟨ga_1, gk_2, rfl, rfl, (by first | assumption | rfl | omega | (simp_all; done))⟩ dX8_waves_36

def q_m_isIn0 (T : Nat → ClassId) (i : Int32) : Option Value → va_W → Prop := fun rr ww => (rr = some (.int (nI 0)) ∧ ww = [])
set_option maxHeartbeats 4000000 in
set_option maxRecDepth 100000 in
theorem m_isIn0 (l : Launch) (D : va_G) (T : Nat → ClassId) (i : Int32) : Ct l yX8_isIn cX8_isIn 3 (some .boolean) 0 0 0 D T [.long (nI 0).toInt64, .int i] [] (q_m_isIn0 T i) := by
  refine Ct.of (cc := cX8_isIn) (maxL := 3) (ret := (some .boolean)) (by decide) (Nat.le_of_ble_eq_true rfl) ?_
  intro p e s m args below meth c A ls hC hnm V hl
  obtain ⟨hx, hb, hr, hml, hown, hts, hlocks⟩ := id hC
  generalize hH : s.heap = H at V ⊢
  clear hH
  have hl : lv_has ls 3 [(0, .long (nI 0).toInt64), (2, .int i)] := hl
  generalize hlo : ([] : List Loc) = locs at V ⊢
  clear hlo
  refine lv_lload_n hx hb dX8_isIn_0 rfl (lv_at hl 0 rfl) ?_
  refine lv_iload_n hx hb dX8_isIn_1 rfl (lv_at hl 1 rfl) ?_
  refine lv_lshr hx hb dX8_isIn_2 rfl ?_
  refine g_vl (y := (nI 0).toInt64) (by rw [show (nI 0).toInt64 = 0 by decide +kernel]; exact Int64.zero_shiftRight) ?_
  refine lv_lconst (v := (nI 1).toInt64) hx hb dX8_isIn_3 (by decide +kernel) ?_
  refine lv_land hx hb dX8_isIn_4 ?_
  refine g_vl (y := (nI 0).toInt64) (by decide +kernel) ?_
  refine lv_lconst (v := (nI 1).toInt64) hx hb dX8_isIn_5 (by decide +kernel) ?_
  refine W.lcmp hx hb dX8_isIn_6 ?_
  refine g_vi (y := (-1)) (by decide +kernel) ?_
  refine lv_if_ne (tgt := 14) hx hb dX8_isIn_7 (by decide) (fun _ => ?_) (fun c => absurd (show (-1 : Int32) = 0 from c) (by decide +kernel))
  refine lv_iconst (v := (nI 0)) hx hb dX8_isIn_14 (by decide +kernel) ?_
  exact g_zret (Qr := (q_m_isIn0 T i)) hC V ⟨(Nat.le_of_ble_eq_true rfl), (Nat.le_of_ble_eq_true rfl)⟩ (by first | decide +kernel | exact rfl) ⟨rfl, rfl⟩ dX8_isIn_15

def q_m_bits0 (T : Nat → ClassId)  : Option Value → va_W → Prop := fun rr ww => (rr = some (.int (nI 0)) ∧ ww = [])
set_option maxHeartbeats 4000000 in
set_option maxRecDepth 100000 in
theorem m_bits0 (l : Launch) (D : va_G) (T : Nat → ClassId)  : Ct l yX8_bitsOf cX8_bitsOf 4 (some .int) 1 0 0 D T [.long (nI 0).toInt64] [] (q_m_bits0 T) := by
  refine Ct.of (cc := cX8_bitsOf) (maxL := 4) (ret := (some .int)) (by decide) (Nat.le_of_ble_eq_true rfl) ?_
  intro p e s m args below meth c A ls hC hnm V hl
  obtain ⟨hx, hb, hr, hml, hown, hts, hlocks⟩ := id hC
  generalize hH : s.heap = H at V ⊢
  clear hH
  have hl : lv_has ls 4 [(0, .long (nI 0).toInt64)] := hl
  generalize hlo : ([] : List Loc) = locs at V ⊢
  clear hlo
  refine lv_iconst (v := (nI 0)) hx hb dX8_bitsOf_0 (by decide +kernel) ?_
  refine lv_istore_n (lv' := [(2, .int (nI 0)), (0, .long (nI 0).toInt64)]) hx hb dX8_bitsOf_1 rfl hl (by decide) rfl (fun ls hl => ?_)
  refine lv_iconst (v := (nI 0)) hx hb dX8_bitsOf_2 (by decide +kernel) ?_
  refine lv_istore_n (lv' := [(3, .int (nI 0)), (2, .int (nI 0)), (0, .long (nI 0).toInt64)]) hx hb dX8_bitsOf_3 rfl hl (by decide) rfl (fun ls hl => ?_)
  refine lv_iload_n hx hb dX8_bitsOf_4 rfl (lv_at hl 0 rfl) ?_
  refine lv_bipush (v := (nI 12)) hx hb dX8_bitsOf_5 (by decide +kernel) ?_
  refine lv_icmp_ge (tgt := 32) hx hb dX8_bitsOf_7 (by decide) (fun c => absurd (show (nI 12) ≤ (nI 0) from c) (by decide +kernel)) (fun _ => ?_)
  refine lv_iload_n hx hb dX8_bitsOf_10 rfl (lv_at hl 1 rfl) ?_
  refine lv_lload_n hx hb dX8_bitsOf_11 rfl (lv_at hl 2 rfl) ?_
  refine lv_iload_n hx hb dX8_bitsOf_12 rfl (lv_at hl 0 rfl) ?_
  refine g_callS (wr := []) (nA := 2) hC V hl.1 (m_isIn0 l D T (nI 0)) w_1130 w_1131 w_9 w_1132 (by decide +kernel) rfl ⟨(Nat.le_of_ble_eq_true rfl), (Nat.le_of_ble_eq_true rfl)⟩ [] [] rfl rfl rfl rfl (by decide) (Nat.le_of_ble_eq_true rfl) dX8_bitsOf_13 ⟨(Nat.le_of_ble_eq_true rfl), (Nat.le_of_ble_eq_true rfl)⟩ rfl (fun r w1 H locs hQ V => ?_)
  obtain ⟨rfl, rfl⟩ := hQ
  have V : gW D T A s [] H locs := V
  show W p l e _ s m args below meth c H locs _ _ _ (F0 m 16 ls [.int (nI 0), .int (nI 0)])
  refine lv_if_eq (tgt := 23) hx hb dX8_bitsOf_16 (by decide) (fun _ => ?_) (fun c => absurd (show (nI 0) = 0 by decide +kernel) c)
  refine lv_iconst (v := (nI 0)) hx hb dX8_bitsOf_23 (by decide +kernel) ?_
  refine lv_iadd hx hb dX8_bitsOf_24 ?_
  refine g_vi (y := (nI 0)) (by decide +kernel) ?_
  refine lv_istore_n (lv' := [(2, .int (nI 0)), (3, .int (nI 0)), (0, .long (nI 0).toInt64)]) hx hb dX8_bitsOf_25 rfl hl (by decide) rfl (fun ls hl => ?_)
  refine lv_iinc (v := (nI 1)) (lv' := [(3, .int (nI 1)), (2, .int (nI 0)), (0, .long (nI 0).toInt64)]) hx hb dX8_bitsOf_26 hl (k := 1) rfl (by decide +kernel) (by decide) rfl (fun ls hl => ?_)
  refine lv_goto (tgt := 4) hx hb dX8_bitsOf_29 (by decide) ?_
  refine lv_iload_n hx hb dX8_bitsOf_4 rfl (lv_at hl 0 rfl) ?_
  refine lv_bipush (v := (nI 12)) hx hb dX8_bitsOf_5 (by decide +kernel) ?_
  refine lv_icmp_ge (tgt := 32) hx hb dX8_bitsOf_7 (by decide) (fun c => absurd (show (nI 12) ≤ (nI 1) from c) (by decide +kernel)) (fun _ => ?_)
  refine lv_iload_n hx hb dX8_bitsOf_10 rfl (lv_at hl 1 rfl) ?_
  refine lv_lload_n hx hb dX8_bitsOf_11 rfl (lv_at hl 2 rfl) ?_
  refine lv_iload_n hx hb dX8_bitsOf_12 rfl (lv_at hl 0 rfl) ?_
  refine g_callS (wr := []) (nA := 2) hC V hl.1 (m_isIn0 l D T (nI 1)) w_1130 w_1131 w_9 w_1132 (by decide +kernel) rfl ⟨(Nat.le_of_ble_eq_true rfl), (Nat.le_of_ble_eq_true rfl)⟩ [] [] rfl rfl rfl rfl (by decide) (Nat.le_of_ble_eq_true rfl) dX8_bitsOf_13 ⟨(Nat.le_of_ble_eq_true rfl), (Nat.le_of_ble_eq_true rfl)⟩ rfl (fun r w1 H locs hQ V => ?_)
  obtain ⟨rfl, rfl⟩ := hQ
  have V : gW D T A s [] H locs := V
  show W p l e _ s m args below meth c H locs _ _ _ (F0 m 16 ls [.int (nI 0), .int (nI 0)])
  refine lv_if_eq (tgt := 23) hx hb dX8_bitsOf_16 (by decide) (fun _ => ?_) (fun c => absurd (show (nI 0) = 0 by decide +kernel) c)
  refine lv_iconst (v := (nI 0)) hx hb dX8_bitsOf_23 (by decide +kernel) ?_
  refine lv_iadd hx hb dX8_bitsOf_24 ?_
  refine g_vi (y := (nI 0)) (by decide +kernel) ?_
  refine lv_istore_n (lv' := [(2, .int (nI 0)), (3, .int (nI 1)), (0, .long (nI 0).toInt64)]) hx hb dX8_bitsOf_25 rfl hl (by decide) rfl (fun ls hl => ?_)
  refine lv_iinc (v := (nI 2)) (lv' := [(3, .int (nI 2)), (2, .int (nI 0)), (0, .long (nI 0).toInt64)]) hx hb dX8_bitsOf_26 hl (k := 1) rfl (by decide +kernel) (by decide) rfl (fun ls hl => ?_)
  refine lv_goto (tgt := 4) hx hb dX8_bitsOf_29 (by decide) ?_
  refine lv_iload_n hx hb dX8_bitsOf_4 rfl (lv_at hl 0 rfl) ?_
  refine lv_bipush (v := (nI 12)) hx hb dX8_bitsOf_5 (by decide +kernel) ?_
  refine lv_icmp_ge (tgt := 32) hx hb dX8_bitsOf_7 (by decide) (fun c => absurd (show (nI 12) ≤ (nI 2) from c) (by decide +kernel)) (fun _ => ?_)
  refine lv_iload_n hx hb dX8_bitsOf_10 rfl (lv_at hl 1 rfl) ?_
  refine lv_lload_n hx hb dX8_bitsOf_11 rfl (lv_at hl 2 rfl) ?_
  refine lv_iload_n hx hb dX8_bitsOf_12 rfl (lv_at hl 0 rfl) ?_
  refine g_callS (wr := []) (nA := 2) hC V hl.1 (m_isIn0 l D T (nI 2)) w_1130 w_1131 w_9 w_1132 (by decide +kernel) rfl ⟨(Nat.le_of_ble_eq_true rfl), (Nat.le_of_ble_eq_true rfl)⟩ [] [] rfl rfl rfl rfl (by decide) (Nat.le_of_ble_eq_true rfl) dX8_bitsOf_13 ⟨(Nat.le_of_ble_eq_true rfl), (Nat.le_of_ble_eq_true rfl)⟩ rfl (fun r w1 H locs hQ V => ?_)
  obtain ⟨rfl, rfl⟩ := hQ
  have V : gW D T A s [] H locs := V
  show W p l e _ s m args below meth c H locs _ _ _ (F0 m 16 ls [.int (nI 0), .int (nI 0)])
  refine lv_if_eq (tgt := 23) hx hb dX8_bitsOf_16 (by decide) (fun _ => ?_) (fun c => absurd (show (nI 0) = 0 by decide +kernel) c)
  refine lv_iconst (v := (nI 0)) hx hb dX8_bitsOf_23 (by decide +kernel) ?_
  refine lv_iadd hx hb dX8_bitsOf_24 ?_
  refine g_vi (y := (nI 0)) (by decide +kernel) ?_
  refine lv_istore_n (lv' := [(2, .int (nI 0)), (3, .int (nI 2)), (0, .long (nI 0).toInt64)]) hx hb dX8_bitsOf_25 rfl hl (by decide) rfl (fun ls hl => ?_)
  refine lv_iinc (v := (nI 3)) (lv' := [(3, .int (nI 3)), (2, .int (nI 0)), (0, .long (nI 0).toInt64)]) hx hb dX8_bitsOf_26 hl (k := 1) rfl (by decide +kernel) (by decide) rfl (fun ls hl => ?_)
  refine lv_goto (tgt := 4) hx hb dX8_bitsOf_29 (by decide) ?_
  refine lv_iload_n hx hb dX8_bitsOf_4 rfl (lv_at hl 0 rfl) ?_
  refine lv_bipush (v := (nI 12)) hx hb dX8_bitsOf_5 (by decide +kernel) ?_
  refine lv_icmp_ge (tgt := 32) hx hb dX8_bitsOf_7 (by decide) (fun c => absurd (show (nI 12) ≤ (nI 3) from c) (by decide +kernel)) (fun _ => ?_)
  refine lv_iload_n hx hb dX8_bitsOf_10 rfl (lv_at hl 1 rfl) ?_
  refine lv_lload_n hx hb dX8_bitsOf_11 rfl (lv_at hl 2 rfl) ?_
  refine lv_iload_n hx hb dX8_bitsOf_12 rfl (lv_at hl 0 rfl) ?_
  refine g_callS (wr := []) (nA := 2) hC V hl.1 (m_isIn0 l D T (nI 3)) w_1130 w_1131 w_9 w_1132 (by decide +kernel) rfl ⟨(Nat.le_of_ble_eq_true rfl), (Nat.le_of_ble_eq_true rfl)⟩ [] [] rfl rfl rfl rfl (by decide) (Nat.le_of_ble_eq_true rfl) dX8_bitsOf_13 ⟨(Nat.le_of_ble_eq_true rfl), (Nat.le_of_ble_eq_true rfl)⟩ rfl (fun r w1 H locs hQ V => ?_)
  obtain ⟨rfl, rfl⟩ := hQ
  have V : gW D T A s [] H locs := V
  show W p l e _ s m args below meth c H locs _ _ _ (F0 m 16 ls [.int (nI 0), .int (nI 0)])
  refine lv_if_eq (tgt := 23) hx hb dX8_bitsOf_16 (by decide) (fun _ => ?_) (fun c => absurd (show (nI 0) = 0 by decide +kernel) c)
  refine lv_iconst (v := (nI 0)) hx hb dX8_bitsOf_23 (by decide +kernel) ?_
  refine lv_iadd hx hb dX8_bitsOf_24 ?_
  refine g_vi (y := (nI 0)) (by decide +kernel) ?_
  refine lv_istore_n (lv' := [(2, .int (nI 0)), (3, .int (nI 3)), (0, .long (nI 0).toInt64)]) hx hb dX8_bitsOf_25 rfl hl (by decide) rfl (fun ls hl => ?_)
  refine lv_iinc (v := (nI 4)) (lv' := [(3, .int (nI 4)), (2, .int (nI 0)), (0, .long (nI 0).toInt64)]) hx hb dX8_bitsOf_26 hl (k := 1) rfl (by decide +kernel) (by decide) rfl (fun ls hl => ?_)
  refine lv_goto (tgt := 4) hx hb dX8_bitsOf_29 (by decide) ?_
  refine lv_iload_n hx hb dX8_bitsOf_4 rfl (lv_at hl 0 rfl) ?_
  refine lv_bipush (v := (nI 12)) hx hb dX8_bitsOf_5 (by decide +kernel) ?_
  refine lv_icmp_ge (tgt := 32) hx hb dX8_bitsOf_7 (by decide) (fun c => absurd (show (nI 12) ≤ (nI 4) from c) (by decide +kernel)) (fun _ => ?_)
  refine lv_iload_n hx hb dX8_bitsOf_10 rfl (lv_at hl 1 rfl) ?_
  refine lv_lload_n hx hb dX8_bitsOf_11 rfl (lv_at hl 2 rfl) ?_
  refine lv_iload_n hx hb dX8_bitsOf_12 rfl (lv_at hl 0 rfl) ?_
  refine g_callS (wr := []) (nA := 2) hC V hl.1 (m_isIn0 l D T (nI 4)) w_1130 w_1131 w_9 w_1132 (by decide +kernel) rfl ⟨(Nat.le_of_ble_eq_true rfl), (Nat.le_of_ble_eq_true rfl)⟩ [] [] rfl rfl rfl rfl (by decide) (Nat.le_of_ble_eq_true rfl) dX8_bitsOf_13 ⟨(Nat.le_of_ble_eq_true rfl), (Nat.le_of_ble_eq_true rfl)⟩ rfl (fun r w1 H locs hQ V => ?_)
  obtain ⟨rfl, rfl⟩ := hQ
  have V : gW D T A s [] H locs := V
  show W p l e _ s m args below meth c H locs _ _ _ (F0 m 16 ls [.int (nI 0), .int (nI 0)])
  refine lv_if_eq (tgt := 23) hx hb dX8_bitsOf_16 (by decide) (fun _ => ?_) (fun c => absurd (show (nI 0) = 0 by decide +kernel) c)
  refine lv_iconst (v := (nI 0)) hx hb dX8_bitsOf_23 (by decide +kernel) ?_
  refine lv_iadd hx hb dX8_bitsOf_24 ?_
  refine g_vi (y := (nI 0)) (by decide +kernel) ?_
  refine lv_istore_n (lv' := [(2, .int (nI 0)), (3, .int (nI 4)), (0, .long (nI 0).toInt64)]) hx hb dX8_bitsOf_25 rfl hl (by decide) rfl (fun ls hl => ?_)
  refine lv_iinc (v := (nI 5)) (lv' := [(3, .int (nI 5)), (2, .int (nI 0)), (0, .long (nI 0).toInt64)]) hx hb dX8_bitsOf_26 hl (k := 1) rfl (by decide +kernel) (by decide) rfl (fun ls hl => ?_)
  refine lv_goto (tgt := 4) hx hb dX8_bitsOf_29 (by decide) ?_
  refine lv_iload_n hx hb dX8_bitsOf_4 rfl (lv_at hl 0 rfl) ?_
  refine lv_bipush (v := (nI 12)) hx hb dX8_bitsOf_5 (by decide +kernel) ?_
  refine lv_icmp_ge (tgt := 32) hx hb dX8_bitsOf_7 (by decide) (fun c => absurd (show (nI 12) ≤ (nI 5) from c) (by decide +kernel)) (fun _ => ?_)
  refine lv_iload_n hx hb dX8_bitsOf_10 rfl (lv_at hl 1 rfl) ?_
  refine lv_lload_n hx hb dX8_bitsOf_11 rfl (lv_at hl 2 rfl) ?_
  refine lv_iload_n hx hb dX8_bitsOf_12 rfl (lv_at hl 0 rfl) ?_
  refine g_callS (wr := []) (nA := 2) hC V hl.1 (m_isIn0 l D T (nI 5)) w_1130 w_1131 w_9 w_1132 (by decide +kernel) rfl ⟨(Nat.le_of_ble_eq_true rfl), (Nat.le_of_ble_eq_true rfl)⟩ [] [] rfl rfl rfl rfl (by decide) (Nat.le_of_ble_eq_true rfl) dX8_bitsOf_13 ⟨(Nat.le_of_ble_eq_true rfl), (Nat.le_of_ble_eq_true rfl)⟩ rfl (fun r w1 H locs hQ V => ?_)
  obtain ⟨rfl, rfl⟩ := hQ
  have V : gW D T A s [] H locs := V
  show W p l e _ s m args below meth c H locs _ _ _ (F0 m 16 ls [.int (nI 0), .int (nI 0)])
  refine lv_if_eq (tgt := 23) hx hb dX8_bitsOf_16 (by decide) (fun _ => ?_) (fun c => absurd (show (nI 0) = 0 by decide +kernel) c)
  refine lv_iconst (v := (nI 0)) hx hb dX8_bitsOf_23 (by decide +kernel) ?_
  refine lv_iadd hx hb dX8_bitsOf_24 ?_
  refine g_vi (y := (nI 0)) (by decide +kernel) ?_
  refine lv_istore_n (lv' := [(2, .int (nI 0)), (3, .int (nI 5)), (0, .long (nI 0).toInt64)]) hx hb dX8_bitsOf_25 rfl hl (by decide) rfl (fun ls hl => ?_)
  refine lv_iinc (v := (nI 6)) (lv' := [(3, .int (nI 6)), (2, .int (nI 0)), (0, .long (nI 0).toInt64)]) hx hb dX8_bitsOf_26 hl (k := 1) rfl (by decide +kernel) (by decide) rfl (fun ls hl => ?_)
  refine lv_goto (tgt := 4) hx hb dX8_bitsOf_29 (by decide) ?_
  refine lv_iload_n hx hb dX8_bitsOf_4 rfl (lv_at hl 0 rfl) ?_
  refine lv_bipush (v := (nI 12)) hx hb dX8_bitsOf_5 (by decide +kernel) ?_
  refine lv_icmp_ge (tgt := 32) hx hb dX8_bitsOf_7 (by decide) (fun c => absurd (show (nI 12) ≤ (nI 6) from c) (by decide +kernel)) (fun _ => ?_)
  refine lv_iload_n hx hb dX8_bitsOf_10 rfl (lv_at hl 1 rfl) ?_
  refine lv_lload_n hx hb dX8_bitsOf_11 rfl (lv_at hl 2 rfl) ?_
  refine lv_iload_n hx hb dX8_bitsOf_12 rfl (lv_at hl 0 rfl) ?_
  refine g_callS (wr := []) (nA := 2) hC V hl.1 (m_isIn0 l D T (nI 6)) w_1130 w_1131 w_9 w_1132 (by decide +kernel) rfl ⟨(Nat.le_of_ble_eq_true rfl), (Nat.le_of_ble_eq_true rfl)⟩ [] [] rfl rfl rfl rfl (by decide) (Nat.le_of_ble_eq_true rfl) dX8_bitsOf_13 ⟨(Nat.le_of_ble_eq_true rfl), (Nat.le_of_ble_eq_true rfl)⟩ rfl (fun r w1 H locs hQ V => ?_)
  obtain ⟨rfl, rfl⟩ := hQ
  have V : gW D T A s [] H locs := V
  show W p l e _ s m args below meth c H locs _ _ _ (F0 m 16 ls [.int (nI 0), .int (nI 0)])
  refine lv_if_eq (tgt := 23) hx hb dX8_bitsOf_16 (by decide) (fun _ => ?_) (fun c => absurd (show (nI 0) = 0 by decide +kernel) c)
  refine lv_iconst (v := (nI 0)) hx hb dX8_bitsOf_23 (by decide +kernel) ?_
  refine lv_iadd hx hb dX8_bitsOf_24 ?_
  refine g_vi (y := (nI 0)) (by decide +kernel) ?_
  refine lv_istore_n (lv' := [(2, .int (nI 0)), (3, .int (nI 6)), (0, .long (nI 0).toInt64)]) hx hb dX8_bitsOf_25 rfl hl (by decide) rfl (fun ls hl => ?_)
  refine lv_iinc (v := (nI 7)) (lv' := [(3, .int (nI 7)), (2, .int (nI 0)), (0, .long (nI 0).toInt64)]) hx hb dX8_bitsOf_26 hl (k := 1) rfl (by decide +kernel) (by decide) rfl (fun ls hl => ?_)
  refine lv_goto (tgt := 4) hx hb dX8_bitsOf_29 (by decide) ?_
  refine lv_iload_n hx hb dX8_bitsOf_4 rfl (lv_at hl 0 rfl) ?_
  refine lv_bipush (v := (nI 12)) hx hb dX8_bitsOf_5 (by decide +kernel) ?_
  refine lv_icmp_ge (tgt := 32) hx hb dX8_bitsOf_7 (by decide) (fun c => absurd (show (nI 12) ≤ (nI 7) from c) (by decide +kernel)) (fun _ => ?_)
  refine lv_iload_n hx hb dX8_bitsOf_10 rfl (lv_at hl 1 rfl) ?_
  refine lv_lload_n hx hb dX8_bitsOf_11 rfl (lv_at hl 2 rfl) ?_
  refine lv_iload_n hx hb dX8_bitsOf_12 rfl (lv_at hl 0 rfl) ?_
  refine g_callS (wr := []) (nA := 2) hC V hl.1 (m_isIn0 l D T (nI 7)) w_1130 w_1131 w_9 w_1132 (by decide +kernel) rfl ⟨(Nat.le_of_ble_eq_true rfl), (Nat.le_of_ble_eq_true rfl)⟩ [] [] rfl rfl rfl rfl (by decide) (Nat.le_of_ble_eq_true rfl) dX8_bitsOf_13 ⟨(Nat.le_of_ble_eq_true rfl), (Nat.le_of_ble_eq_true rfl)⟩ rfl (fun r w1 H locs hQ V => ?_)
  obtain ⟨rfl, rfl⟩ := hQ
  have V : gW D T A s [] H locs := V
  show W p l e _ s m args below meth c H locs _ _ _ (F0 m 16 ls [.int (nI 0), .int (nI 0)])
  refine lv_if_eq (tgt := 23) hx hb dX8_bitsOf_16 (by decide) (fun _ => ?_) (fun c => absurd (show (nI 0) = 0 by decide +kernel) c)
  refine lv_iconst (v := (nI 0)) hx hb dX8_bitsOf_23 (by decide +kernel) ?_
  refine lv_iadd hx hb dX8_bitsOf_24 ?_
  refine g_vi (y := (nI 0)) (by decide +kernel) ?_
  refine lv_istore_n (lv' := [(2, .int (nI 0)), (3, .int (nI 7)), (0, .long (nI 0).toInt64)]) hx hb dX8_bitsOf_25 rfl hl (by decide) rfl (fun ls hl => ?_)
  refine lv_iinc (v := (nI 8)) (lv' := [(3, .int (nI 8)), (2, .int (nI 0)), (0, .long (nI 0).toInt64)]) hx hb dX8_bitsOf_26 hl (k := 1) rfl (by decide +kernel) (by decide) rfl (fun ls hl => ?_)
  refine lv_goto (tgt := 4) hx hb dX8_bitsOf_29 (by decide) ?_
  refine lv_iload_n hx hb dX8_bitsOf_4 rfl (lv_at hl 0 rfl) ?_
  refine lv_bipush (v := (nI 12)) hx hb dX8_bitsOf_5 (by decide +kernel) ?_
  refine lv_icmp_ge (tgt := 32) hx hb dX8_bitsOf_7 (by decide) (fun c => absurd (show (nI 12) ≤ (nI 8) from c) (by decide +kernel)) (fun _ => ?_)
  refine lv_iload_n hx hb dX8_bitsOf_10 rfl (lv_at hl 1 rfl) ?_
  refine lv_lload_n hx hb dX8_bitsOf_11 rfl (lv_at hl 2 rfl) ?_
  refine lv_iload_n hx hb dX8_bitsOf_12 rfl (lv_at hl 0 rfl) ?_
  refine g_callS (wr := []) (nA := 2) hC V hl.1 (m_isIn0 l D T (nI 8)) w_1130 w_1131 w_9 w_1132 (by decide +kernel) rfl ⟨(Nat.le_of_ble_eq_true rfl), (Nat.le_of_ble_eq_true rfl)⟩ [] [] rfl rfl rfl rfl (by decide) (Nat.le_of_ble_eq_true rfl) dX8_bitsOf_13 ⟨(Nat.le_of_ble_eq_true rfl), (Nat.le_of_ble_eq_true rfl)⟩ rfl (fun r w1 H locs hQ V => ?_)
  obtain ⟨rfl, rfl⟩ := hQ
  have V : gW D T A s [] H locs := V
  show W p l e _ s m args below meth c H locs _ _ _ (F0 m 16 ls [.int (nI 0), .int (nI 0)])
  refine lv_if_eq (tgt := 23) hx hb dX8_bitsOf_16 (by decide) (fun _ => ?_) (fun c => absurd (show (nI 0) = 0 by decide +kernel) c)
  refine lv_iconst (v := (nI 0)) hx hb dX8_bitsOf_23 (by decide +kernel) ?_
  refine lv_iadd hx hb dX8_bitsOf_24 ?_
  refine g_vi (y := (nI 0)) (by decide +kernel) ?_
  refine lv_istore_n (lv' := [(2, .int (nI 0)), (3, .int (nI 8)), (0, .long (nI 0).toInt64)]) hx hb dX8_bitsOf_25 rfl hl (by decide) rfl (fun ls hl => ?_)
  refine lv_iinc (v := (nI 9)) (lv' := [(3, .int (nI 9)), (2, .int (nI 0)), (0, .long (nI 0).toInt64)]) hx hb dX8_bitsOf_26 hl (k := 1) rfl (by decide +kernel) (by decide) rfl (fun ls hl => ?_)
  refine lv_goto (tgt := 4) hx hb dX8_bitsOf_29 (by decide) ?_
  refine lv_iload_n hx hb dX8_bitsOf_4 rfl (lv_at hl 0 rfl) ?_
  refine lv_bipush (v := (nI 12)) hx hb dX8_bitsOf_5 (by decide +kernel) ?_
  refine lv_icmp_ge (tgt := 32) hx hb dX8_bitsOf_7 (by decide) (fun c => absurd (show (nI 12) ≤ (nI 9) from c) (by decide +kernel)) (fun _ => ?_)
  refine lv_iload_n hx hb dX8_bitsOf_10 rfl (lv_at hl 1 rfl) ?_
  refine lv_lload_n hx hb dX8_bitsOf_11 rfl (lv_at hl 2 rfl) ?_
  refine lv_iload_n hx hb dX8_bitsOf_12 rfl (lv_at hl 0 rfl) ?_
  refine g_callS (wr := []) (nA := 2) hC V hl.1 (m_isIn0 l D T (nI 9)) w_1130 w_1131 w_9 w_1132 (by decide +kernel) rfl ⟨(Nat.le_of_ble_eq_true rfl), (Nat.le_of_ble_eq_true rfl)⟩ [] [] rfl rfl rfl rfl (by decide) (Nat.le_of_ble_eq_true rfl) dX8_bitsOf_13 ⟨(Nat.le_of_ble_eq_true rfl), (Nat.le_of_ble_eq_true rfl)⟩ rfl (fun r w1 H locs hQ V => ?_)
  obtain ⟨rfl, rfl⟩ := hQ
  have V : gW D T A s [] H locs := V
  show W p l e _ s m args below meth c H locs _ _ _ (F0 m 16 ls [.int (nI 0), .int (nI 0)])
  refine lv_if_eq (tgt := 23) hx hb dX8_bitsOf_16 (by decide) (fun _ => ?_) (fun c => absurd (show (nI 0) = 0 by decide +kernel) c)
  refine lv_iconst (v := (nI 0)) hx hb dX8_bitsOf_23 (by decide +kernel) ?_
  refine lv_iadd hx hb dX8_bitsOf_24 ?_
  refine g_vi (y := (nI 0)) (by decide +kernel) ?_
  refine lv_istore_n (lv' := [(2, .int (nI 0)), (3, .int (nI 9)), (0, .long (nI 0).toInt64)]) hx hb dX8_bitsOf_25 rfl hl (by decide) rfl (fun ls hl => ?_)
  refine lv_iinc (v := (nI 10)) (lv' := [(3, .int (nI 10)), (2, .int (nI 0)), (0, .long (nI 0).toInt64)]) hx hb dX8_bitsOf_26 hl (k := 1) rfl (by decide +kernel) (by decide) rfl (fun ls hl => ?_)
  refine lv_goto (tgt := 4) hx hb dX8_bitsOf_29 (by decide) ?_
  refine lv_iload_n hx hb dX8_bitsOf_4 rfl (lv_at hl 0 rfl) ?_
  refine lv_bipush (v := (nI 12)) hx hb dX8_bitsOf_5 (by decide +kernel) ?_
  refine lv_icmp_ge (tgt := 32) hx hb dX8_bitsOf_7 (by decide) (fun c => absurd (show (nI 12) ≤ (nI 10) from c) (by decide +kernel)) (fun _ => ?_)
  refine lv_iload_n hx hb dX8_bitsOf_10 rfl (lv_at hl 1 rfl) ?_
  refine lv_lload_n hx hb dX8_bitsOf_11 rfl (lv_at hl 2 rfl) ?_
  refine lv_iload_n hx hb dX8_bitsOf_12 rfl (lv_at hl 0 rfl) ?_
  refine g_callS (wr := []) (nA := 2) hC V hl.1 (m_isIn0 l D T (nI 10)) w_1130 w_1131 w_9 w_1132 (by decide +kernel) rfl ⟨(Nat.le_of_ble_eq_true rfl), (Nat.le_of_ble_eq_true rfl)⟩ [] [] rfl rfl rfl rfl (by decide) (Nat.le_of_ble_eq_true rfl) dX8_bitsOf_13 ⟨(Nat.le_of_ble_eq_true rfl), (Nat.le_of_ble_eq_true rfl)⟩ rfl (fun r w1 H locs hQ V => ?_)
  obtain ⟨rfl, rfl⟩ := hQ
  have V : gW D T A s [] H locs := V
  show W p l e _ s m args below meth c H locs _ _ _ (F0 m 16 ls [.int (nI 0), .int (nI 0)])
  refine lv_if_eq (tgt := 23) hx hb dX8_bitsOf_16 (by decide) (fun _ => ?_) (fun c => absurd (show (nI 0) = 0 by decide +kernel) c)
  refine lv_iconst (v := (nI 0)) hx hb dX8_bitsOf_23 (by decide +kernel) ?_
  refine lv_iadd hx hb dX8_bitsOf_24 ?_
  refine g_vi (y := (nI 0)) (by decide +kernel) ?_
  refine lv_istore_n (lv' := [(2, .int (nI 0)), (3, .int (nI 10)), (0, .long (nI 0).toInt64)]) hx hb dX8_bitsOf_25 rfl hl (by decide) rfl (fun ls hl => ?_)
  refine lv_iinc (v := (nI 11)) (lv' := [(3, .int (nI 11)), (2, .int (nI 0)), (0, .long (nI 0).toInt64)]) hx hb dX8_bitsOf_26 hl (k := 1) rfl (by decide +kernel) (by decide) rfl (fun ls hl => ?_)
  refine lv_goto (tgt := 4) hx hb dX8_bitsOf_29 (by decide) ?_
  refine lv_iload_n hx hb dX8_bitsOf_4 rfl (lv_at hl 0 rfl) ?_
  refine lv_bipush (v := (nI 12)) hx hb dX8_bitsOf_5 (by decide +kernel) ?_
  refine lv_icmp_ge (tgt := 32) hx hb dX8_bitsOf_7 (by decide) (fun c => absurd (show (nI 12) ≤ (nI 11) from c) (by decide +kernel)) (fun _ => ?_)
  refine lv_iload_n hx hb dX8_bitsOf_10 rfl (lv_at hl 1 rfl) ?_
  refine lv_lload_n hx hb dX8_bitsOf_11 rfl (lv_at hl 2 rfl) ?_
  refine lv_iload_n hx hb dX8_bitsOf_12 rfl (lv_at hl 0 rfl) ?_
  refine g_callS (wr := []) (nA := 2) hC V hl.1 (m_isIn0 l D T (nI 11)) w_1130 w_1131 w_9 w_1132 (by decide +kernel) rfl ⟨(Nat.le_of_ble_eq_true rfl), (Nat.le_of_ble_eq_true rfl)⟩ [] [] rfl rfl rfl rfl (by decide) (Nat.le_of_ble_eq_true rfl) dX8_bitsOf_13 ⟨(Nat.le_of_ble_eq_true rfl), (Nat.le_of_ble_eq_true rfl)⟩ rfl (fun r w1 H locs hQ V => ?_)
  obtain ⟨rfl, rfl⟩ := hQ
  have V : gW D T A s [] H locs := V
  show W p l e _ s m args below meth c H locs _ _ _ (F0 m 16 ls [.int (nI 0), .int (nI 0)])
  refine lv_if_eq (tgt := 23) hx hb dX8_bitsOf_16 (by decide) (fun _ => ?_) (fun c => absurd (show (nI 0) = 0 by decide +kernel) c)
  refine lv_iconst (v := (nI 0)) hx hb dX8_bitsOf_23 (by decide +kernel) ?_
  refine lv_iadd hx hb dX8_bitsOf_24 ?_
  refine g_vi (y := (nI 0)) (by decide +kernel) ?_
  refine lv_istore_n (lv' := [(2, .int (nI 0)), (3, .int (nI 11)), (0, .long (nI 0).toInt64)]) hx hb dX8_bitsOf_25 rfl hl (by decide) rfl (fun ls hl => ?_)
  refine lv_iinc (v := (nI 12)) (lv' := [(3, .int (nI 12)), (2, .int (nI 0)), (0, .long (nI 0).toInt64)]) hx hb dX8_bitsOf_26 hl (k := 1) rfl (by decide +kernel) (by decide) rfl (fun ls hl => ?_)
  refine lv_goto (tgt := 4) hx hb dX8_bitsOf_29 (by decide) ?_
  refine lv_iload_n hx hb dX8_bitsOf_4 rfl (lv_at hl 0 rfl) ?_
  refine lv_bipush (v := (nI 12)) hx hb dX8_bitsOf_5 (by decide +kernel) ?_
  refine lv_icmp_ge (tgt := 32) hx hb dX8_bitsOf_7 (by decide) (fun _ => ?_) (fun c => absurd (show (nI 12) ≤ (nI 12) by first | rfl | decide +kernel) c)
  refine lv_iload_n hx hb dX8_bitsOf_32 rfl (lv_at hl 1 rfl) ?_
  exact g_iret (Qr := (q_m_bits0 T)) hC V ⟨(Nat.le_of_ble_eq_true rfl), (Nat.le_of_ble_eq_true rfl)⟩ ⟨rfl, rfl⟩ dX8_bitsOf_33
