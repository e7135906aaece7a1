def q_m_see0 (T : Nat → ClassId) (o : Nat) (w0 : Int32) (g1 : Nat) (g2 : Nat) (g3 : Nat) (g4 : Nat) (w5 : Int32) (w6 : Int32) (w7 : Int32) (w9 : Int32) (w10 : Int32) (w11 : Int32) (w12 : Int32) (w13 : Int32) (w14 : Int32) (g15 : Nat) (w16 : Int32) (g17 : Nat) (w18 : Int32) (w19 : Int32) (g20 : Nat) (w21 : Int32) (g22 : Nat) (g23 : Nat) (g24 : Nat) (w25 : Int32) (w26 : Int32) (w27 : Int32) (g28 : Nat) (g29 : Nat) (w30 : Int32) (g31 : Nat) (g32 : Nat) (g33 : Nat) : Option Value → va_W → Prop := fun rr ww => (rr = some (.int (-1)) ∧ ww = [(o, .inr (8, [.int w0, .ref g1, .ref g2, .ref g3, .ref g4, .int w5, .int w6, .int w7, .int (nI 0), .int w9, .int w10, .int w11, .int w12, .int w13, .int w14, .ref g15, .int w16, .ref g17, .int w18, .int w19, .ref g20, .int w21, .ref g22, .ref g23, .ref g24, .int w25, .int w26, .int w27, .ref g28, .ref g29, .int w30, .ref g31, .ref g32, .ref g33]))])
set_option maxHeartbeats 4000000 in
set_option maxRecDepth 100000 in
theorem m_see0 (l : Launch) (D : va_G) (T : Nat → ClassId) (o : Nat) (w0 : Int32) (g1 : Nat) (g2 : Nat) (g3 : Nat) (g4 : Nat) (w5 : Int32) (w6 : Int32) (w7 : Int32) (w9 : Int32) (w10 : Int32) (w11 : Int32) (w12 : Int32) (w13 : Int32) (w14 : Int32) (g15 : Nat) (w16 : Int32) (g17 : Nat) (w18 : Int32) (w19 : Int32) (g20 : Nat) (w21 : Int32) (g22 : Nat) (g23 : Nat) (g24 : Nat) (w25 : Int32) (w26 : Int32) (w27 : Int32) (g28 : Nat) (g29 : Nat) (w30 : Int32) (g31 : Nat) (g32 : Nat) (g33 : Nat) : Ct l yX8_see cX8_see 2 (some .int) 0 0 0 D T [.ref o, .int (nI 0)] [(o, .inr (8, [.int w0, .ref g1, .ref g2, .ref g3, .ref g4, .int w5, .int w6, .int w7, .int (nI 0), .int w9, .int w10, .int w11, .int w12, .int w13, .int w14, .ref g15, .int w16, .ref g17, .int w18, .int w19, .ref g20, .int w21, .ref g22, .ref g23, .ref g24, .int w25, .int w26, .int w27, .ref g28, .ref g29, .int w30, .ref g31, .ref g32, .ref g33]))] (q_m_see0 T o w0 g1 g2 g3 g4 w5 w6 w7 w9 w10 w11 w12 w13 w14 g15 w16 g17 w18 w19 g20 w21 g22 g23 g24 w25 w26 w27 g28 g29 w30 g31 g32 g33) := by
  refine Ct.of (cc := cX8_see) (maxL := 2) (ret := (some .int)) (by decide) (Nat.le_of_ble_eq_true rfl) ?_
  intro p e s m args below meth c A ls hC hnm V hl
  obtain ⟨hx, hb, hr, hml, hown, hts, hlocks⟩ := id hC
  generalize hH : s.heap = H at V ⊢
  clear hH
  have hl : lv_has ls 2 [(0, .ref o), (1, .int (nI 0))] := hl
  generalize hlo : ([] : List Loc) = locs at V ⊢
  clear hlo
  refine lv_iload_n hx hb dX8_see_0 rfl (lv_at hl 1 rfl) ?_
  refine lv_aload_n hx hb dX8_see_1 rfl (lv_at hl 0 rfl) ?_
  refine g_get hC V (ci := 8) uwX8 0 rfl rfl 8 (by decide) w_920 rfl rfl dX8_see_2 ?_
  refine lv_icmp_ge (tgt := 17) hx hb dX8_see_5 (by decide) (fun _ => ?_) (fun c => absurd (show (nI 0) ≤ (nI 0) by first | rfl | decide +kernel) c)
  refine lv_iconst (v := (-1)) hx hb dX8_see_17 (by decide +kernel) ?_
  exact g_iret (Qr := (q_m_see0 T o w0 g1 g2 g3 g4 w5 w6 w7 w9 w10 w11 w12 w13 w14 g15 w16 g17 w18 w19 g20 w21 g22 g23 g24 w25 w26 w27 g28 g29 w30 g31 g32 g33)) hC V ⟨(Nat.le_of_ble_eq_true rfl), (Nat.le_of_ble_eq_true rfl)⟩ ⟨rfl, rfl⟩ dX8_see_18

def q_m_next (T : Nat → ClassId) (o : Nat) (w0 : Int32) (g1 : Nat) (g2 : Nat) (g3 : Nat) (g4 : Nat) (w5 : Int32) (w6 : Int32) (w9 : Int32) (w10 : Int32) (w11 : Int32) (w12 : Int32) (w13 : Int32) (w14 : Int32) (g15 : Nat) (w16 : Int32) (g17 : Nat) (w18 : Int32) (w19 : Int32) (g20 : Nat) (w21 : Int32) (g22 : Nat) (g23 : Nat) (g24 : Nat) (w25 : Int32) (w26 : Int32) (w27 : Int32) (g28 : Nat) (g29 : Nat) (w30 : Int32) (g31 : Nat) (g32 : Nat) (g33 : Nat) : Option Value → va_W → Prop := fun rr ww => (rr = none ∧ ww = [(o, .inr (8, [.int w0, .ref g1, .ref g2, .ref g3, .ref g4, .int w5, .int (nI 0), .int (nI 0), .int (nI 0), .int (nI 11), .int w10, .int w11, .int w12, .int w13, .int w14, .ref g15, .int w16, .ref g17, .int w18, .int w19, .ref g20, .int w21, .ref g22, .ref g23, .ref g24, .int w25, .int w26, .int w27, .ref g28, .ref g29, .int w30, .ref g31, .ref g32, .ref g33]))])
set_option maxHeartbeats 4000000 in
set_option maxRecDepth 100000 in
theorem m_next (l : Launch) (D : va_G) (T : Nat → ClassId) (o : Nat) (w0 : Int32) (g1 : Nat) (g2 : Nat) (g3 : Nat) (g4 : Nat) (w5 : Int32) (w6 : Int32) (w9 : Int32) (w10 : Int32) (w11 : Int32) (w12 : Int32) (w13 : Int32) (w14 : Int32) (g15 : Nat) (w16 : Int32) (g17 : Nat) (w18 : Int32) (w19 : Int32) (g20 : Nat) (w21 : Int32) (g22 : Nat) (g23 : Nat) (g24 : Nat) (w25 : Int32) (w26 : Int32) (w27 : Int32) (g28 : Nat) (g29 : Nat) (w30 : Int32) (g31 : Nat) (g32 : Nat) (g33 : Nat) : Ct l yX8_next cX8_next 1 none 1 0 0 D T [.ref o] [(o, .inr (8, [.int w0, .ref g1, .ref g2, .ref g3, .ref g4, .int w5, .int w6, .int (nI 0), .int (nI 0), .int w9, .int w10, .int w11, .int w12, .int w13, .int w14, .ref g15, .int w16, .ref g17, .int w18, .int w19, .ref g20, .int w21, .ref g22, .ref g23, .ref g24, .int w25, .int w26, .int w27, .ref g28, .ref g29, .int w30, .ref g31, .ref g32, .ref g33]))] (q_m_next T o w0 g1 g2 g3 g4 w5 w6 w9 w10 w11 w12 w13 w14 g15 w16 g17 w18 w19 g20 w21 g22 g23 g24 w25 w26 w27 g28 g29 w30 g31 g32 g33) := by
  refine Ct.of (cc := cX8_next) (maxL := 1) (ret := none) (by decide) (Nat.le_of_ble_eq_true rfl) ?_
  intro p e s m args below meth c A ls hC hnm V hl
  obtain ⟨hx, hb, hr, hml, hown, hts, hlocks⟩ := id hC
  generalize hH : s.heap = H at V ⊢
  clear hH
  have hl : lv_has ls 1 [(0, .ref o)] := hl
  generalize hlo : ([] : List Loc) = locs at V ⊢
  clear hlo
  refine lv_aload_n hx hb dX8_next_0 rfl (lv_at hl 0 rfl) ?_
  refine lv_aload_n hx hb dX8_next_1 rfl (lv_at hl 0 rfl) ?_
  refine g_get hC V (ci := 8) uwX8 0 rfl rfl 7 (by decide) w_919 rfl rfl dX8_next_2 ?_
  refine g_put hC V (ci := 8) uwX8 tyX8 tyX8_ok nmX8 0 rfl rfl 6 (by decide) w_918 rfl rfl rfl rfl (Nat.le_of_ble_eq_true rfl) (ws' := [(o, .inr (8, [.int w0, .ref g1, .ref g2, .ref g3, .ref g4, .int w5, .int (nI 0), .int (nI 0), .int (nI 0), .int w9, .int w10, .int w11, .int w12, .int w13, .int w14, .ref g15, .int w16, .ref g17, .int w18, .int w19, .ref g20, .int w21, .ref g22, .ref g23, .ref g24, .int w25, .int w26, .int w27, .ref g28, .ref g29, .int w30, .ref g31, .ref g32, .ref g33]))]) rfl dX8_next_5 (fun H locs V => ?_)
  refine lv_aload_n hx hb dX8_next_8 rfl (lv_at hl 0 rfl) ?_
  refine lv_aload_n hx hb dX8_next_9 rfl (lv_at hl 0 rfl) ?_
  refine g_get hC V (ci := 8) uwX8 0 rfl rfl 6 (by decide) w_918 rfl rfl dX8_next_10 ?_
  refine g_callV (wr := []) (nA := 1) hC V hl.1 (m_see0 l D T o w0 g1 g2 g3 g4 w5 (nI 0) (nI 0) w9 w10 w11 w12 w13 w14 g15 w16 g17 w18 w19 g20 w21 g22 g23 g24 w25 w26 w27 g28 g29 w30 g31 g32 g33) w_1030 w_1032 w_s37 w_9 w_1033 (by decide +kernel) rfl ⟨(Nat.le_of_ble_eq_true rfl), (Nat.le_of_ble_eq_true rfl)⟩ 0 (ci := 8) rfl rfl [0] [] rfl rfl rfl rfl (by decide) (Nat.le_of_ble_eq_true rfl) dX8_next_13 ⟨(Nat.le_of_ble_eq_true rfl), (Nat.le_of_ble_eq_true rfl)⟩ rfl (fun r w1 H locs hQ V => ?_)
  obtain ⟨rfl, rfl⟩ := hQ
  have V : gW D T A s [(o, .inr (8, [.int w0, .ref g1, .ref g2, .ref g3, .ref g4, .int w5, .int (nI 0), .int (nI 0), .int (nI 0), .int w9, .int w10, .int w11, .int w12, .int w13, .int w14, .ref g15, .int w16, .ref g17, .int w18, .int w19, .ref g20, .int w21, .ref g22, .ref g23, .ref g24, .int w25, .int w26, .int w27, .ref g28, .ref g29, .int w30, .ref g31, .ref g32, .ref g33]))] H locs := V
  show W p l e _ s m args below meth c H locs _ _ _ (F0 m 16 ls [.int (-1)])
  refine lv_bipush (v := (nI 10)) hx hb dX8_next_16 (by decide +kernel) ?_
  refine lv_icmp_eq (tgt := 34) hx hb dX8_next_18 (by decide) (fun c => absurd (show (-1 : Int32) = (nI 10) from c) (by decide +kernel)) (fun _ => ?_)
  refine lv_aload_n hx hb dX8_next_21 rfl (lv_at hl 0 rfl) ?_
  refine lv_aload_n hx hb dX8_next_22 rfl (lv_at hl 0 rfl) ?_
  refine g_get hC V (ci := 8) uwX8 0 rfl rfl 6 (by decide) w_918 rfl rfl dX8_next_23 ?_
  refine g_callV (wr := []) (nA := 1) hC V hl.1 (m_see0 l D T o w0 g1 g2 g3 g4 w5 (nI 0) (nI 0) w9 w10 w11 w12 w13 w14 g15 w16 g17 w18 w19 g20 w21 g22 g23 g24 w25 w26 w27 g28 g29 w30 g31 g32 g33) w_1030 w_1032 w_s37 w_9 w_1033 (by decide +kernel) rfl ⟨(Nat.le_of_ble_eq_true rfl), (Nat.le_of_ble_eq_true rfl)⟩ 0 (ci := 8) rfl rfl [0] [] rfl rfl rfl rfl (by decide) (Nat.le_of_ble_eq_true rfl) dX8_next_26 ⟨(Nat.le_of_ble_eq_true rfl), (Nat.le_of_ble_eq_true rfl)⟩ rfl (fun r w1 H locs hQ V => ?_)
  obtain ⟨rfl, rfl⟩ := hQ
  have V : gW D T A s [(o, .inr (8, [.int w0, .ref g1, .ref g2, .ref g3, .ref g4, .int w5, .int (nI 0), .int (nI 0), .int (nI 0), .int w9, .int w10, .int w11, .int w12, .int w13, .int w14, .ref g15, .int w16, .ref g17, .int w18, .int w19, .ref g20, .int w21, .ref g22, .ref g23, .ref g24, .int w25, .int w26, .int w27, .ref g28, .ref g29, .int w30, .ref g31, .ref g32, .ref g33]))] H locs := V
  show W p l e _ s m args below meth c H locs _ _ _ (F0 m 29 ls [.int (-1)])
  refine lv_bipush (v := (nI 32)) hx hb dX8_next_29 (by decide +kernel) ?_
  refine lv_icmp_ne (tgt := 47) hx hb dX8_next_31 (by decide) (fun _ => ?_) (fun c => absurd (show (-1 : Int32) = (nI 32) from c) (by decide +kernel))
  refine lv_aload_n hx hb dX8_next_47 rfl (lv_at hl 0 rfl) ?_
  refine lv_aload_n hx hb dX8_next_48 rfl (lv_at hl 0 rfl) ?_
  refine g_get hC V (ci := 8) uwX8 0 rfl rfl 6 (by decide) w_918 rfl rfl dX8_next_49 ?_
  refine g_put hC V (ci := 8) uwX8 tyX8 tyX8_ok nmX8 0 rfl rfl 7 (by decide) w_919 rfl rfl rfl rfl (Nat.le_of_ble_eq_true rfl) (ws' := [(o, .inr (8, [.int w0, .ref g1, .ref g2, .ref g3, .ref g4, .int w5, .int (nI 0), .int (nI 0), .int (nI 0), .int w9, .int w10, .int w11, .int w12, .int w13, .int w14, .ref g15, .int w16, .ref g17, .int w18, .int w19, .ref g20, .int w21, .ref g22, .ref g23, .ref g24, .int w25, .int w26, .int w27, .ref g28, .ref g29, .int w30, .ref g31, .ref g32, .ref g33]))]) rfl dX8_next_52 (fun H locs V => ?_)
  refine lv_aload_n hx hb dX8_next_55 rfl (lv_at hl 0 rfl) ?_
  refine g_get hC V (ci := 8) uwX8 0 rfl rfl 6 (by decide) w_918 rfl rfl dX8_next_56 ?_
  refine lv_aload_n hx hb dX8_next_59 rfl (lv_at hl 0 rfl) ?_
  refine g_get hC V (ci := 8) uwX8 0 rfl rfl 8 (by decide) w_920 rfl rfl dX8_next_60 ?_
  refine lv_icmp_lt (tgt := 75) hx hb dX8_next_63 (by decide) (fun c => absurd (show (nI 0) < (nI 0) from c) (by decide +kernel)) (fun _ => ?_)
  refine lv_aload_n hx hb dX8_next_66 rfl (lv_at hl 0 rfl) ?_
  refine lv_bipush (v := (nI 11)) hx hb dX8_next_67 (by decide +kernel) ?_
  refine g_put hC V (ci := 8) uwX8 tyX8 tyX8_ok nmX8 0 rfl rfl 9 (by decide) w_921 rfl rfl rfl rfl (Nat.le_of_ble_eq_true rfl) (ws' := [(o, .inr (8, [.int w0, .ref g1, .ref g2, .ref g3, .ref g4, .int w5, .int (nI 0), .int (nI 0), .int (nI 0), .int (nI 11), .int w10, .int w11, .int w12, .int w13, .int w14, .ref g15, .int w16, .ref g17, .int w18, .int w19, .ref g20, .int w21, .ref g22, .ref g23, .ref g24, .int w25, .int w26, .int w27, .ref g28, .ref g29, .int w30, .ref g31, .ref g32, .ref g33]))]) rfl dX8_next_69 (fun H locs V => ?_)
  refine lv_goto (tgt := 270) hx hb dX8_next_72 (by decide) ?_
  exact g_vret (Qr := (q_m_next T o w0 g1 g2 g3 g4 w5 w6 w9 w10 w11 w12 w13 w14 g15 w16 g17 w18 w19 g20 w21 g22 g23 g24 w25 w26 w27 g28 g29 w30 g31 g32 g33)) hC V ⟨(Nat.le_of_ble_eq_true rfl), (Nat.le_of_ble_eq_true rfl)⟩ ⟨rfl, rfl⟩ dX8_next_270

def q_pm_street (T : Nat → ClassId) (o : Nat) (n : Int32) (g1 : Nat) (g2 : Nat) (g3 : Nat) (g4 : Nat) (g15 : Nat) (g17 : Nat) (g20 : Nat) (g22 : Nat) (g23 : Nat) (g24 : Nat) (g28 : Nat) (g29 : Nat) (g31 : Nat) (g32 : Nat) (g33 : Nat) : Option Value → va_W → Prop := fun rr ww => (∃ (z : Int32), rr = some (.int z) ∧ ww = [] ∧ z = pf_street n)
set_option maxHeartbeats 4000000 in
set_option maxRecDepth 100000 in
theorem pm_street (l : Launch) (D : va_G) (T : Nat → ClassId) (o : Nat) (n : Int32) (g1 : Nat) (g2 : Nat) (g3 : Nat) (g4 : Nat) (g15 : Nat) (g17 : Nat) (g20 : Nat) (g22 : Nat) (g23 : Nat) (g24 : Nat) (g28 : Nat) (g29 : Nat) (g31 : Nat) (g32 : Nat) (g33 : Nat) : Ct l yX8_street cX8_street 3 (some .int) 2 0 0 D T [.ref o, .int n] [(o, .inr (8, [.int (nI 0), .ref g1, .ref g2, .ref g3, .ref g4, .int (nI 0), .int (nI 0), .int (nI 0), .int (nI 0), .int (nI 0), .int (nI 0), .int (nI 0), .int (nI 0), .int (nI 0), .int (-1), .ref g15, .int (nI 0), .ref g17, .int (nI 0), .int (nI 0), .ref g20, .int (nI 0), .ref g22, .ref g23, .ref g24, .int (nI 0), .int (nI 0), .int (nI 0), .ref g28, .ref g29, .int (nI 0), .ref g31, .ref g32, .ref g33])), (g1, .inl (T 0, 282, .inl (upd (fun _ => nI 0) 2 (nI 20)))), (g4, .inl (T 0, 94, .inl (fun _ => nI 0)))] (q_pm_street T o n g1 g2 g3 g4 g15 g17 g20 g22 g23 g24 g28 g29 g31 g32 g33) := by
  refine Ct.of (cc := cX8_street) (maxL := 3) (ret := (some .int)) (by decide) (Nat.le_of_ble_eq_true rfl) ?_
  intro p e s m args below meth c A ls hC hnm V hl
  obtain ⟨hx, hb, hr, hml, hown, hts, hlocks⟩ := id hC
  generalize hH : s.heap = H at V ⊢
  clear hH
  have hl : lv_has ls 3 [(0, .ref o), (1, .int n)] := hl
  generalize hlo : ([] : List Loc) = locs at V ⊢
  clear hlo
  refine lv_aload_n hx hb dX8_street_0 rfl (lv_at hl 0 rfl) ?_
  refine lv_iconst (v := (nI 0)) hx hb dX8_street_1 (by decide +kernel) ?_
  refine g_put hC V (ci := 8) uwX8 tyX8 tyX8_ok nmX8 0 rfl rfl 0 (by decide) w_912 rfl rfl rfl rfl (Nat.le_of_ble_eq_true rfl) (ws' := [(o, .inr (8, [.int (nI 0), .ref g1, .ref g2, .ref g3, .ref g4, .int (nI 0), .int (nI 0), .int (nI 0), .int (nI 0), .int (nI 0), .int (nI 0), .int (nI 0), .int (nI 0), .int (nI 0), .int (-1), .ref g15, .int (nI 0), .ref g17, .int (nI 0), .int (nI 0), .ref g20, .int (nI 0), .ref g22, .ref g23, .ref g24, .int (nI 0), .int (nI 0), .int (nI 0), .ref g28, .ref g29, .int (nI 0), .ref g31, .ref g32, .ref g33])), (g1, .inl (T 0, 282, .inl (upd (fun _ => nI 0) 2 (nI 20)))), (g4, .inl (T 0, 94, .inl (fun _ => nI 0)))]) rfl dX8_street_2 (fun H locs V => ?_)
  refine lv_iload_n hx hb dX8_street_5 rfl (lv_at hl 1 rfl) ?_
  refine lv_i2l (v := n.toInt64) hx hb dX8_street_6 rfl ?_
  refine lv_lconst (v := (nI 0).toInt64) hx hb dX8_street_7 (by decide +kernel) ?_
  refine lv_aload_n hx hb dX8_street_8 rfl (lv_at hl 0 rfl) ?_
  refine g_get hC V (ci := 8) uwX8 0 rfl rfl 5 (by decide) w_917 rfl rfl dX8_street_9 ?_
  refine lv_i2l (v := (nI 0).toInt64) hx hb dX8_street_12 rfl ?_
  refine g_callS (wr := [(o, .inr (8, [.int (nI 0), .ref g1, .ref g2, .ref g3, .ref g4, .int (nI 0), .int (nI 0), .int (nI 0), .int (nI 0), .int (nI 0), .int (nI 0), .int (nI 0), .int (nI 0), .int (nI 0), .int (-1), .ref g15, .int (nI 0), .ref g17, .int (nI 0), .int (nI 0), .ref g20, .int (nI 0), .ref g22, .ref g23, .ref g24, .int (nI 0), .int (nI 0), .int (nI 0), .ref g28, .ref g29, .int (nI 0), .ref g31, .ref g32, .ref g33])), (g1, .inl (T 0, 282, .inl (upd (fun _ => nI 0) 2 (nI 20)))), (g4, .inl (T 0, 94, .inl (fun _ => nI 0)))]) (nA := 3) hC V hl.1 (c_within l D T n (nI 0) (nI 0)) w_1023 w_1024 w_9 w_1025 (by decide +kernel) rfl ⟨(Nat.le_of_ble_eq_true rfl), (Nat.le_of_ble_eq_true rfl)⟩ [] [0, 1, 2] rfl rfl rfl rfl (by decide) (Nat.le_of_ble_eq_true rfl) dX8_street_13 ⟨(Nat.le_of_ble_eq_true rfl), (Nat.le_of_ble_eq_true rfl)⟩ rfl (fun r w1 H locs hQ V => ?_)
  rcases hQ with ⟨rfl, rfl, f_1, f_2⟩ | ⟨rfl, rfl, f_3⟩
  · have V : gW D T A s [(o, .inr (8, [.int (nI 0), .ref g1, .ref g2, .ref g3, .ref g4, .int (nI 0), .int (nI 0), .int (nI 0), .int (nI 0), .int (nI 0), .int (nI 0), .int (nI 0), .int (nI 0), .int (nI 0), .int (-1), .ref g15, .int (nI 0), .ref g17, .int (nI 0), .int (nI 0), .ref g20, .int (nI 0), .ref g22, .ref g23, .ref g24, .int (nI 0), .int (nI 0), .int (nI 0), .ref g28, .ref g29, .int (nI 0), .ref g31, .ref g32, .ref g33])), (g1, .inl (T 0, 282, .inl (upd (fun _ => nI 0) 2 (nI 20)))), (g4, .inl (T 0, 94, .inl (fun _ => nI 0)))] H locs := V
    show W p l e _ s m args below meth c H locs _ _ _ (F0 m 16 ls [.int (nI 1)])
    obtain ⟨j, hj1, hj2, ej⟩ := g_rng (by decide) (by decide) f_1 f_2
    obtain rfl : j = 0 := by omega
    rw [ej] at hl
    refine lv_if_ne (tgt := 22) hx hb dX8_street_16 (by decide) (fun _ => ?_) (fun c => absurd (show (nI 1) = 0 from c) (by decide +kernel))
    refine lv_aload_n hx hb dX8_street_22 rfl (lv_at hl 0 rfl) ?_
    refine lv_iload_n hx hb dX8_street_23 rfl (lv_at hl 1 rfl) ?_
    refine g_put hC V (ci := 8) uwX8 tyX8 tyX8_ok nmX8 0 rfl rfl 8 (by decide) w_920 rfl rfl rfl rfl (Nat.le_of_ble_eq_true rfl) (ws' := [(o, .inr (8, [.int (nI 0), .ref g1, .ref g2, .ref g3, .ref g4, .int (nI 0), .int (nI 0), .int (nI 0), .int (nI 0), .int (nI 0), .int (nI 0), .int (nI 0), .int (nI 0), .int (nI 0), .int (-1), .ref g15, .int (nI 0), .ref g17, .int (nI 0), .int (nI 0), .ref g20, .int (nI 0), .ref g22, .ref g23, .ref g24, .int (nI 0), .int (nI 0), .int (nI 0), .ref g28, .ref g29, .int (nI 0), .ref g31, .ref g32, .ref g33])), (g1, .inl (T 0, 282, .inl (upd (fun _ => nI 0) 2 (nI 20)))), (g4, .inl (T 0, 94, .inl (fun _ => nI 0)))]) rfl dX8_street_24 (fun H locs V => ?_)
    refine lv_aload_n hx hb dX8_street_27 rfl (lv_at hl 0 rfl) ?_
    refine lv_iconst (v := (nI 0)) hx hb dX8_street_28 (by decide +kernel) ?_
    refine g_put hC V (ci := 8) uwX8 tyX8 tyX8_ok nmX8 0 rfl rfl 5 (by decide) w_917 rfl rfl rfl rfl (Nat.le_of_ble_eq_true rfl) (ws' := [(o, .inr (8, [.int (nI 0), .ref g1, .ref g2, .ref g3, .ref g4, .int (nI 0), .int (nI 0), .int (nI 0), .int (nI 0), .int (nI 0), .int (nI 0), .int (nI 0), .int (nI 0), .int (nI 0), .int (-1), .ref g15, .int (nI 0), .ref g17, .int (nI 0), .int (nI 0), .ref g20, .int (nI 0), .ref g22, .ref g23, .ref g24, .int (nI 0), .int (nI 0), .int (nI 0), .ref g28, .ref g29, .int (nI 0), .ref g31, .ref g32, .ref g33])), (g1, .inl (T 0, 282, .inl (upd (fun _ => nI 0) 2 (nI 20)))), (g4, .inl (T 0, 94, .inl (fun _ => nI 0)))]) rfl dX8_street_29 (fun H locs V => ?_)
    refine lv_aload_n hx hb dX8_street_32 rfl (lv_at hl 0 rfl) ?_
    refine lv_iconst (v := (nI 0)) hx hb dX8_street_33 (by decide +kernel) ?_
    refine g_put hC V (ci := 8) uwX8 tyX8 tyX8_ok nmX8 0 rfl rfl 7 (by decide) w_919 rfl rfl rfl rfl (Nat.le_of_ble_eq_true rfl) (ws' := [(o, .inr (8, [.int (nI 0), .ref g1, .ref g2, .ref g3, .ref g4, .int (nI 0), .int (nI 0), .int (nI 0), .int (nI 0), .int (nI 0), .int (nI 0), .int (nI 0), .int (nI 0), .int (nI 0), .int (-1), .ref g15, .int (nI 0), .ref g17, .int (nI 0), .int (nI 0), .ref g20, .int (nI 0), .ref g22, .ref g23, .ref g24, .int (nI 0), .int (nI 0), .int (nI 0), .ref g28, .ref g29, .int (nI 0), .ref g31, .ref g32, .ref g33])), (g1, .inl (T 0, 282, .inl (upd (fun _ => nI 0) 2 (nI 20)))), (g4, .inl (T 0, 94, .inl (fun _ => nI 0)))]) rfl dX8_street_34 (fun H locs V => ?_)
    refine lv_aload_n hx hb dX8_street_37 rfl (lv_at hl 0 rfl) ?_
    refine lv_iconst (v := (nI 0)) hx hb dX8_street_38 (by decide +kernel) ?_
    refine g_put hC V (ci := 8) uwX8 tyX8 tyX8_ok nmX8 0 rfl rfl 11 (by decide) w_923 rfl rfl rfl rfl (Nat.le_of_ble_eq_true rfl) (ws' := [(o, .inr (8, [.int (nI 0), .ref g1, .ref g2, .ref g3, .ref g4, .int (nI 0), .int (nI 0), .int (nI 0), .int (nI 0), .int (nI 0), .int (nI 0), .int (nI 0), .int (nI 0), .int (nI 0), .int (-1), .ref g15, .int (nI 0), .ref g17, .int (nI 0), .int (nI 0), .ref g20, .int (nI 0), .ref g22, .ref g23, .ref g24, .int (nI 0), .int (nI 0), .int (nI 0), .ref g28, .ref g29, .int (nI 0), .ref g31, .ref g32, .ref g33])), (g1, .inl (T 0, 282, .inl (upd (fun _ => nI 0) 2 (nI 20)))), (g4, .inl (T 0, 94, .inl (fun _ => nI 0)))]) rfl dX8_street_39 (fun H locs V => ?_)
    refine lv_iconst (v := (nI 0)) hx hb dX8_street_42 (by decide +kernel) ?_
    refine lv_istore_n (lv' := [(2, .int (nI 0)), (0, .ref o), (1, .int (nI 0))]) hx hb dX8_street_43 rfl hl (by decide) rfl (fun ls hl => ?_)
    have L_4 : ∀ (fu : Nat) (k : Nat) (f : Nat → Int32), k ≤ 94 → f 0 = nI 0 ∧ f 3 = nI 0 → 94 - k < fu → ∀ (H : Heap) (locs : List Loc) (ls : Array Slot), gW D T A s [(o, .inr (8, [.int (nI 0), .ref g1, .ref g2, .ref g3, .ref g4, .int (nI 0), .int (nI 0), .int (nI 0), .int (nI 0), .int (nI 0), .int (nI 0), .int (nI 0), .int (nI 0), .int (nI 0), .int (-1), .ref g15, .int (nI 0), .ref g17, .int (nI 0), .int (nI 0), .ref g20, .int (nI 0), .ref g22, .ref g23, .ref g24, .int (nI 0), .int (nI 0), .int (nI 0), .ref g28, .ref g29, .int (nI 0), .ref g31, .ref g32, .ref g33])), (g1, .inl (T 0, 282, .inl (upd (fun _ => nI 0) 2 (nI 20)))), (g4, .inl (T 0, 94, .inl f))] H locs → lv_has ls 3 [(2, .int (nI k)), (0, .ref o), (1, .int (nI 0))] → W p l e (rmD 2 0 0) s m args below meth c H locs 0 0 (MQ below (gQ D A (q_pm_street T o n g1 g2 g3 g4 g15 g17 g20 g22 g23 g24 g28 g29 g31 g32 g33)) args s 0 0 A) (F0 m 44 ls []) := by
      intro fu
      induction fu with
      | zero => intro k f hk hf hmu; exact absurd hmu (Nat.not_lt_zero _)
      | succ fu ih =>
        intro k f hk hf hmu H locs ls V hl
        refine lv_iload_n hx hb dX8_street_44 rfl (lv_at hl 0 rfl) ?_
        refine lv_bipush (v := (nI 94)) hx hb dX8_street_45 (by decide +kernel) ?_
        refine lv_icmp_ge (tgt := 73) hx hb dX8_street_47 (by decide) (fun c_5 => ?_) (fun c_5 => ?_)
        · skip
          have c_5 := b_le (by omega) (by omega) c_5
          refine lv_aload_n hx hb dX8_street_73 rfl (lv_at hl 1 rfl) ?_
          refine g_callV (wr := [(g1, .inl (T 0, 282, .inl (upd (fun _ => nI 0) 2 (nI 20)))), (g4, .inl (T 0, 94, .inl f))]) (nA := 0) hC V hl.1 (m_next l D T o (nI 0) g1 g2 g3 g4 (nI 0) (nI 0) (nI 0) (nI 0) (nI 0) (nI 0) (nI 0) (-1) g15 (nI 0) g17 (nI 0) (nI 0) g20 (nI 0) g22 g23 g24 (nI 0) (nI 0) (nI 0) g28 g29 (nI 0) g31 g32 g33) w_1026 w_1028 w_s36 w_9 w_1029 (by decide +kernel) rfl ⟨(Nat.le_of_ble_eq_true rfl), (Nat.le_of_ble_eq_true rfl)⟩ 0 (ci := 8) rfl rfl [0] [1, 2] rfl rfl rfl rfl (by decide) (Nat.le_of_ble_eq_true rfl) dX8_street_74 ⟨(Nat.le_of_ble_eq_true rfl), (Nat.le_of_ble_eq_true rfl)⟩ rfl (fun r w1 H locs hQ V => ?_)
          obtain ⟨rfl, rfl⟩ := hQ
          have V : gW D T A s [(g1, .inl (T 0, 282, .inl (upd (fun _ => nI 0) 2 (nI 20)))), (g4, .inl (T 0, 94, .inl f)), (o, .inr (8, [.int (nI 0), .ref g1, .ref g2, .ref g3, .ref g4, .int (nI 0), .int (nI 0), .int (nI 0), .int (nI 0), .int (nI 11), .int (nI 0), .int (nI 0), .int (nI 0), .int (nI 0), .int (-1), .ref g15, .int (nI 0), .ref g17, .int (nI 0), .int (nI 0), .ref g20, .int (nI 0), .ref g22, .ref g23, .ref g24, .int (nI 0), .int (nI 0), .int (nI 0), .ref g28, .ref g29, .int (nI 0), .ref g31, .ref g32, .ref g33]))] H locs := V
          show W p l e _ s m args below meth c H locs _ _ _ (F0 m 77 ls [])
          refine lv_aload_n hx hb dX8_street_77 rfl (lv_at hl 1 rfl) ?_
          refine g_get hC V (ci := 8) uwX8 2 rfl rfl 11 (by decide) w_923 rfl rfl dX8_street_78 ?_
          refine lv_if_ne (tgt := 181) hx hb dX8_street_81 (by decide) (fun c => absurd (show (nI 0) = 0 by decide +kernel) c) (fun _ => ?_)
          refine lv_aload_n hx hb dX8_street_84 rfl (lv_at hl 1 rfl) ?_
          refine g_get hC V (ci := 8) uwX8 2 rfl rfl 9 (by decide) w_921 rfl rfl dX8_street_85 ?_
          refine lv_bipush (v := (nI 11)) hx hb dX8_street_88 (by decide +kernel) ?_
          refine lv_icmp_eq (tgt := 181) hx hb dX8_street_90 (by decide) (fun _ => ?_) (fun c => absurd (show (nI 11) = (nI 11) by first | rfl | decide +kernel) c)
          refine lv_aload_n hx hb dX8_street_181 rfl (lv_at hl 1 rfl) ?_
          refine lv_aload_n hx hb dX8_street_182 rfl (lv_at hl 1 rfl) ?_
          refine g_get hC V (ci := 8) uwX8 2 rfl rfl 11 (by decide) w_923 rfl rfl dX8_street_183 ?_
          refine g_put hC V (ci := 8) uwX8 tyX8 tyX8_ok nmX8 2 rfl rfl 13 (by decide) w_925 rfl rfl rfl rfl (Nat.le_of_ble_eq_true rfl) (ws' := [(g1, .inl (T 0, 282, .inl (upd (fun _ => nI 0) 2 (nI 20)))), (g4, .inl (T 0, 94, .inl f)), (o, .inr (8, [.int (nI 0), .ref g1, .ref g2, .ref g3, .ref g4, .int (nI 0), .int (nI 0), .int (nI 0), .int (nI 0), .int (nI 11), .int (nI 0), .int (nI 0), .int (nI 0), .int (nI 0), .int (-1), .ref g15, .int (nI 0), .ref g17, .int (nI 0), .int (nI 0), .ref g20, .int (nI 0), .ref g22, .ref g23, .ref g24, .int (nI 0), .int (nI 0), .int (nI 0), .ref g28, .ref g29, .int (nI 0), .ref g31, .ref g32, .ref g33]))]) rfl dX8_street_186 (fun H locs V => ?_)
          refine lv_aload_n hx hb dX8_street_189 rfl (lv_at hl 1 rfl) ?_
          refine lv_aload_n hx hb dX8_street_190 rfl (lv_at hl 1 rfl) ?_
          refine g_get hC V (ci := 8) uwX8 2 rfl rfl 11 (by decide) w_923 rfl rfl dX8_street_191 ?_
          refine lv_if_ne (tgt := 201) hx hb dX8_street_194 (by decide) (fun c => absurd (show (nI 0) = 0 by decide +kernel) c) (fun _ => ?_)
          refine lv_iconst (v := (-1)) hx hb dX8_street_197 (by decide +kernel) ?_
          refine lv_goto (tgt := 205) hx hb dX8_street_198 (by decide) ?_
          refine g_put hC V (ci := 8) uwX8 tyX8 tyX8_ok nmX8 2 rfl rfl 14 (by decide) w_926 rfl rfl rfl rfl (Nat.le_of_ble_eq_true rfl) (ws' := [(g1, .inl (T 0, 282, .inl (upd (fun _ => nI 0) 2 (nI 20)))), (g4, .inl (T 0, 94, .inl f)), (o, .inr (8, [.int (nI 0), .ref g1, .ref g2, .ref g3, .ref g4, .int (nI 0), .int (nI 0), .int (nI 0), .int (nI 0), .int (nI 11), .int (nI 0), .int (nI 0), .int (nI 0), .int (nI 0), .int (-1), .ref g15, .int (nI 0), .ref g17, .int (nI 0), .int (nI 0), .ref g20, .int (nI 0), .ref g22, .ref g23, .ref g24, .int (nI 0), .int (nI 0), .int (nI 0), .ref g28, .ref g29, .int (nI 0), .ref g31, .ref g32, .ref g33]))]) rfl dX8_street_205 (fun H locs V => ?_)
          refine lv_aload_n hx hb dX8_street_208 rfl (lv_at hl 1 rfl) ?_
          refine g_get hC V (ci := 8) uwX8 2 rfl rfl 11 (by decide) w_923 rfl rfl dX8_street_209 ?_
          refine lv_if_eq (tgt := 223) hx hb dX8_street_212 (by decide) (fun _ => ?_) (fun c => absurd (show (nI 0) = 0 by decide +kernel) c)
          refine lv_iconst (v := (nI 0)) hx hb dX8_street_223 (by decide +kernel) ?_
          refine lv_istore_n (lv' := [(2, .int (nI 0)), (0, .ref o), (1, .int (nI 0))]) hx hb dX8_street_224 rfl hl (by decide) rfl (fun ls hl => ?_)
          have L_6 : ∀ (fu : Nat) (k : Nat) (f2 : Nat → Int32), k ≤ 94 → f2 0 = nI 0 ∧ f2 3 = nI 0 → 94 - k < fu → ∀ (H : Heap) (locs : List Loc) (ls : Array Slot), gW D T A s [(g1, .inl (T 0, 282, .inl f2)), (g4, .inl (T 0, 94, .inl f)), (o, .inr (8, [.int (nI 0), .ref g1, .ref g2, .ref g3, .ref g4, .int (nI 0), .int (nI 0), .int (nI 0), .int (nI 0), .int (nI 11), .int (nI 0), .int (nI 0), .int (nI 0), .int (nI 0), .int (-1), .ref g15, .int (nI 0), .ref g17, .int (nI 0), .int (nI 0), .ref g20, .int (nI 0), .ref g22, .ref g23, .ref g24, .int (nI 0), .int (nI 0), .int (nI 0), .ref g28, .ref g29, .int (nI 0), .ref g31, .ref g32, .ref g33]))] H locs → lv_has ls 3 [(2, .int (nI k)), (0, .ref o), (1, .int (nI 0))] → W p l e (rmD 2 0 0) s m args below meth c H locs 0 0 (MQ below (gQ D A (q_pm_street T o n g1 g2 g3 g4 g15 g17 g20 g22 g23 g24 g28 g29 g31 g32 g33)) args s 0 0 A) (F0 m 225 ls []) := by
            intro fu
            induction fu with
            | zero => intro k f2 hk2 hf2 hmu; exact absurd hmu (Nat.not_lt_zero _)
            | succ fu ih =>
              intro k f2 hk2 hf2 hmu H locs ls V hl
              refine lv_iload_n hx hb dX8_street_225 rfl (lv_at hl 0 rfl) ?_
              refine lv_bipush (v := (nI 94)) hx hb dX8_street_226 (by decide +kernel) ?_
              refine lv_icmp_ge (tgt := 249) hx hb dX8_street_228 (by decide) (fun c_7 => ?_) (fun c_7 => ?_)
              · skip
                have c_7 := b_le (by omega) (by omega) c_7
                refine lv_iconst (v := (nI 0)) hx hb dX8_street_249 (by decide +kernel) ?_
                refine lv_istore_n (lv' := [(2, .int (nI 0)), (0, .ref o), (1, .int (nI 0))]) hx hb dX8_street_250 rfl hl (by decide) rfl (fun ls hl => ?_)
                refine lv_iload_n hx hb dX8_street_251 rfl (lv_at hl 0 rfl) ?_
                refine lv_aload_n hx hb dX8_street_252 rfl (lv_at hl 1 rfl) ?_
                refine g_get hC V (ci := 8) uwX8 2 rfl rfl 1 (by decide) w_913 rfl rfl dX8_street_253 ?_
                refine lv_iconst (v := (nI 0)) hx hb dX8_street_256 (by decide +kernel) ?_
                refine g_iald hC V 0 rfl (vp_in_nI (by decide) (by decide)) (v := (nI 0)) (by rw [nI_clamp (by decide)]; first | rfl | exact hf.1 | exact hf.2 | exact hf2.1 | exact hf2.2) dX8_street_257 ?_
                refine lv_icmp_ge (tgt := 312) hx hb dX8_street_258 (by decide) (fun _ => ?_) (fun c => absurd (show (nI 0) ≤ (nI 0) by first | rfl | decide +kernel) c)
                refine lv_aload_n hx hb dX8_street_312 rfl (lv_at hl 1 rfl) ?_
                refine g_get hC V (ci := 8) uwX8 2 rfl rfl 1 (by decide) w_913 rfl rfl dX8_street_313 ?_
                refine lv_iconst (v := (nI 3)) hx hb dX8_street_316 (by decide +kernel) ?_
                refine g_iald hC V 0 rfl (vp_in_nI (by decide) (by decide)) (v := (nI 0)) (by rw [nI_clamp (by decide)]; first | rfl | exact hf.1 | exact hf.2 | exact hf2.1 | exact hf2.2) dX8_street_317 ?_
                have V := V.sub (ws' := []) [] rfl rfl
                exact g_iret (Qr := (q_pm_street T o n g1 g2 g3 g4 g15 g17 g20 g22 g23 g24 g28 g29 g31 g32 g33)) hC V ⟨(Nat.le_of_ble_eq_true rfl), (Nat.le_of_ble_eq_true rfl)⟩ ⟨(nI 0), rfl, rfl, (by first | exact pf_street_1 ‹_› | exact pf_street_2 ‹_› ‹_›)⟩ dX8_street_318
              · skip
                have c_7 := b_nle (by omega) (by omega) c_7
                refine lv_aload_n hx hb dX8_street_231 rfl (lv_at hl 1 rfl) ?_
                refine g_get hC V (ci := 8) uwX8 2 rfl rfl 1 (by decide) w_913 rfl rfl dX8_street_232 ?_
                refine lv_iload_n hx hb dX8_street_235 rfl (lv_at hl 0 rfl) ?_
                refine lv_aload_n hx hb dX8_street_236 rfl (lv_at hl 1 rfl) ?_
                refine g_get hC V (ci := 8) uwX8 2 rfl rfl 4 (by decide) w_916 rfl rfl dX8_street_237 ?_
                refine lv_iload_n hx hb dX8_street_240 rfl (lv_at hl 0 rfl) ?_
                refine g_iald hC V 1 rfl (vp_in_nI (by omega) (by omega)) (v := (f k)) (congrArg _ (nI_clamp (by omega))) dX8_street_241 ?_
                refine g_iast hC V 0 rfl (vp_in_nI (by omega) (by omega)) (f' := (upd f2 k (f k))) (by rw [nI_clamp (by omega)]) (ws' := [(g1, .inl (T 0, 282, .inl (upd f2 k (f k)))), (g4, .inl (T 0, 94, .inl f)), (o, .inr (8, [.int (nI 0), .ref g1, .ref g2, .ref g3, .ref g4, .int (nI 0), .int (nI 0), .int (nI 0), .int (nI 0), .int (nI 11), .int (nI 0), .int (nI 0), .int (nI 0), .int (nI 0), .int (-1), .ref g15, .int (nI 0), .ref g17, .int (nI 0), .int (nI 0), .ref g20, .int (nI 0), .ref g22, .ref g23, .ref g24, .int (nI 0), .int (nI 0), .int (nI 0), .ref g28, .ref g29, .int (nI 0), .ref g31, .ref g32, .ref g33]))]) rfl dX8_street_242 (fun H locs V => ?_)
                refine lv_iinc (v := (nI (k + 1))) (lv' := [(2, .int (nI (k + 1))), (0, .ref o), (1, .int (nI 0))]) hx hb dX8_street_243 hl (k := 0) rfl (nI_1 _) (by decide) rfl (fun ls hl => ?_)
                refine lv_goto (tgt := 225) hx hb dX8_street_246 (by decide) ?_
                exact ih (k + 1) (upd f2 k (f k)) (by omega) ⟨up_ne hf2.1 (fun h => by subst h; exact hf.1), up_ne hf2.2 (fun h => by subst h; exact hf.2)⟩ (by omega) _ _ _ V (lv_sub hl [0, 1, 2] rfl)
          exact L_6 _ 0 (upd (fun _ => nI 0) 2 (nI 20)) (Nat.zero_le _) ⟨rfl, rfl⟩ (Nat.lt_succ_self _) _ _ _ V (lv_sub hl [0, 1, 2] rfl)
        · skip
          have c_5 := b_nle (by omega) (by omega) c_5
          refine lv_aload_n hx hb dX8_street_50 rfl (lv_at hl 1 rfl) ?_
          refine g_get hC V (ci := 8) uwX8 0 rfl rfl 4 (by decide) w_916 rfl rfl dX8_street_51 ?_
          refine lv_iload_n hx hb dX8_street_54 rfl (lv_at hl 0 rfl) ?_
          refine lv_iload_n hx hb dX8_street_55 rfl (lv_at hl 0 rfl) ?_
          refine lv_iconst (v := (nI 2)) hx hb dX8_street_56 (by decide +kernel) ?_
          refine lv_icmp_ne (tgt := 65) hx hb dX8_street_57 (by decide) (fun c_8 => ?_) (fun c_8 => ?_)
          · skip
            have c_8 := b_ne (by omega) (by omega) c_8
            refine lv_iconst (v := (nI 0)) hx hb dX8_street_65 (by decide +kernel) ?_
            refine g_iast hC V 2 rfl (vp_in_nI (by omega) (by omega)) (f' := (upd f k (nI 0))) (by rw [nI_clamp (by omega)]) (ws' := [(o, .inr (8, [.int (nI 0), .ref g1, .ref g2, .ref g3, .ref g4, .int (nI 0), .int (nI 0), .int (nI 0), .int (nI 0), .int (nI 0), .int (nI 0), .int (nI 0), .int (nI 0), .int (nI 0), .int (-1), .ref g15, .int (nI 0), .ref g17, .int (nI 0), .int (nI 0), .ref g20, .int (nI 0), .ref g22, .ref g23, .ref g24, .int (nI 0), .int (nI 0), .int (nI 0), .ref g28, .ref g29, .int (nI 0), .ref g31, .ref g32, .ref g33])), (g1, .inl (T 0, 282, .inl (upd (fun _ => nI 0) 2 (nI 20)))), (g4, .inl (T 0, 94, .inl (upd f k (nI 0))))]) rfl dX8_street_66 (fun H locs V => ?_)
            refine lv_iinc (v := (nI (k + 1))) (lv' := [(2, .int (nI (k + 1))), (0, .ref o), (1, .int (nI 0))]) hx hb dX8_street_67 hl (k := 0) rfl (nI_1 _) (by decide) rfl (fun ls hl => ?_)
            refine lv_goto (tgt := 44) hx hb dX8_street_70 (by decide) ?_
            exact ih (k + 1) (upd f k (nI 0)) (by omega) ⟨up_ne hf.1 (fun h => by first | rfl | omega), up_ne hf.2 (fun h => by first | rfl | omega)⟩ (by omega) _ _ _ V (lv_sub hl [0, 1, 2] rfl)
          · skip
            have c_8 := b_eq (by omega) (by omega) c_8
            refine lv_bipush (v := (nI 20)) hx hb dX8_street_60 (by decide +kernel) ?_
            refine lv_goto (tgt := 66) hx hb dX8_street_62 (by decide) ?_
            refine g_iast hC V 2 rfl (vp_in_nI (by omega) (by omega)) (f' := (upd f k (nI 20))) (by rw [nI_clamp (by omega)]) (ws' := [(o, .inr (8, [.int (nI 0), .ref g1, .ref g2, .ref g3, .ref g4, .int (nI 0), .int (nI 0), .int (nI 0), .int (nI 0), .int (nI 0), .int (nI 0), .int (nI 0), .int (nI 0), .int (nI 0), .int (-1), .ref g15, .int (nI 0), .ref g17, .int (nI 0), .int (nI 0), .ref g20, .int (nI 0), .ref g22, .ref g23, .ref g24, .int (nI 0), .int (nI 0), .int (nI 0), .ref g28, .ref g29, .int (nI 0), .ref g31, .ref g32, .ref g33])), (g1, .inl (T 0, 282, .inl (upd (fun _ => nI 0) 2 (nI 20)))), (g4, .inl (T 0, 94, .inl (upd f k (nI 20))))]) rfl dX8_street_66 (fun H locs V => ?_)
            refine lv_iinc (v := (nI (k + 1))) (lv' := [(2, .int (nI (k + 1))), (0, .ref o), (1, .int (nI 0))]) hx hb dX8_street_67 hl (k := 0) rfl (nI_1 _) (by decide) rfl (fun ls hl => ?_)
            refine lv_goto (tgt := 44) hx hb dX8_street_70 (by decide) ?_
            exact ih (k + 1) (upd f k (nI 20)) (by omega) ⟨up_ne hf.1 (fun h => by first | rfl | omega), up_ne hf.2 (fun h => by first | rfl | omega)⟩ (by omega) _ _ _ V (lv_sub hl [0, 1, 2] rfl)
    exact L_4 _ 0 (fun _ => nI 0) (Nat.zero_le _) ⟨rfl, rfl⟩ (Nat.lt_succ_self _) _ _ _ V (lv_sub hl [0, 1, 2] rfl)
  · have V : gW D T A s [(o, .inr (8, [.int (nI 0), .ref g1, .ref g2, .ref g3, .ref g4, .int (nI 0), .int (nI 0), .int (nI 0), .int (nI 0), .int (nI 0), .int (nI 0), .int (nI 0), .int (nI 0), .int (nI 0), .int (-1), .ref g15, .int (nI 0), .ref g17, .int (nI 0), .int (nI 0), .ref g20, .int (nI 0), .ref g22, .ref g23, .ref g24, .int (nI 0), .int (nI 0), .int (nI 0), .ref g28, .ref g29, .int (nI 0), .ref g31, .ref g32, .ref g33])), (g1, .inl (T 0, 282, .inl (upd (fun _ => nI 0) 2 (nI 20)))), (g4, .inl (T 0, 94, .inl (fun _ => nI 0)))] H locs := V
    show W p l e _ s m args below meth c H locs _ _ _ (F0 m 16 ls [.int (nI 0)])
    refine lv_if_ne (tgt := 22) hx hb dX8_street_16 (by decide) (fun c => absurd (show (nI 0) = 0 by decide +kernel) c) (fun _ => ?_)
    refine lv_bipush (v := (-3)) hx hb dX8_street_19 (by decide +kernel) ?_
    have V := V.sub (ws' := []) [] rfl rfl
    exact g_iret (Qr := (q_pm_street T o n g1 g2 g3 g4 g15 g17 g20 g22 g23 g24 g28 g29 g31 g32 g33)) hC V ⟨(Nat.le_of_ble_eq_true rfl), (Nat.le_of_ble_eq_true rfl)⟩ ⟨(-3), rfl, rfl, (by first | exact pf_street_1 ‹_› | exact pf_street_2 ‹_› ‹_›)⟩ dX8_street_21
