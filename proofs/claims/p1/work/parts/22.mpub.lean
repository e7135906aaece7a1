def q_pm_smith (T : Nat → ClassId) (o : Nat) (i : Int32) (what : Int32) (g1 : Nat) (g2 : Nat) (g3 : Nat) (g4 : Nat) (g15 : Nat) (g17 : Nat) (g20 : Nat) (g22 : Nat) (g23 : Nat) (g24 : Nat) (g28 : Nat) (g29 : Nat) (g31 : Nat) (g32 : Nat) (g33 : Nat) : Option Value → va_W → Prop := fun rr ww => (∃ (z : Int32), rr = some (.int z) ∧ ww = [] ∧ z = -2)
set_option maxHeartbeats 4000000 in
set_option maxRecDepth 100000 in
theorem pm_smith (l : Launch) (D : va_G) (T : Nat → ClassId) (o : Nat) (i : Int32) (what : Int32) (g1 : Nat) (g2 : Nat) (g3 : Nat) (g4 : Nat) (g15 : Nat) (g17 : Nat) (g20 : Nat) (g22 : Nat) (g23 : Nat) (g24 : Nat) (g28 : Nat) (g29 : Nat) (g31 : Nat) (g32 : Nat) (g33 : Nat) : Ct l yX8_smith cX8_smith 3 (some .int) 2 0 0 D T [.ref o, .int i, .int what] [(o, .inr (8, [.int (nI 0), .ref g1, .ref g2, .ref g3, .ref g4, .int (nI 0), .int (nI 0), .int (nI 0), .int (nI 0), .int (nI 0), .int (nI 0), .int (nI 0), .int (nI 0), .int (nI 0), .int (-1), .ref g15, .int (nI 0), .ref g17, .int (nI 0), .int (nI 0), .ref g20, .int (nI 0), .ref g22, .ref g23, .ref g24, .int (nI 0), .int (nI 0), .int (nI 0), .ref g28, .ref g29, .int (nI 0), .ref g31, .ref g32, .ref g33])), (g1, .inl (T 0, 282, .inl (upd (fun _ => nI 0) 2 (nI 20))))] (q_pm_smith T o i what g1 g2 g3 g4 g15 g17 g20 g22 g23 g24 g28 g29 g31 g32 g33) := by
  refine Ct.of (cc := cX8_smith) (maxL := 3) (ret := (some .int)) (by decide) (Nat.le_of_ble_eq_true rfl) ?_
  intro p e s m args below meth c A ls hC hnm V hl
  obtain ⟨hx, hb, hr, hml, hown, hts, hlocks⟩ := id hC
  generalize hH : s.heap = H at V ⊢
  clear hH
  have hl : lv_has ls 3 [(0, .ref o), (1, .int i), (2, .int what)] := hl
  generalize hlo : ([] : List Loc) = locs at V ⊢
  clear hlo
  refine lv_aload_n hx hb dX8_smith_0 rfl (lv_at hl 0 rfl) ?_
  refine lv_iconst (v := (nI 0)) hx hb dX8_smith_1 (by decide +kernel) ?_
  refine g_put hC V (ci := 8) uwX8 tyX8 tyX8_ok nmX8 0 rfl rfl 0 (by decide) w_912 rfl rfl rfl rfl (Nat.le_of_ble_eq_true rfl) (ws' := [(o, .inr (8, [.int (nI 0), .ref g1, .ref g2, .ref g3, .ref g4, .int (nI 0), .int (nI 0), .int (nI 0), .int (nI 0), .int (nI 0), .int (nI 0), .int (nI 0), .int (nI 0), .int (nI 0), .int (-1), .ref g15, .int (nI 0), .ref g17, .int (nI 0), .int (nI 0), .ref g20, .int (nI 0), .ref g22, .ref g23, .ref g24, .int (nI 0), .int (nI 0), .int (nI 0), .ref g28, .ref g29, .int (nI 0), .ref g31, .ref g32, .ref g33])), (g1, .inl (T 0, 282, .inl (upd (fun _ => nI 0) 2 (nI 20))))]) rfl dX8_smith_2 (fun H locs V => ?_)
  refine lv_aload_n hx hb dX8_smith_5 rfl (lv_at hl 0 rfl) ?_
  refine lv_iload_n hx hb dX8_smith_6 rfl (lv_at hl 1 rfl) ?_
  refine g_callV (wr := []) (nA := 1) hC V hl.1 (m_isSmith l D T o i (nI 0) g1 g2 g3 g4 (nI 0) (nI 0) (nI 0) (nI 0) (nI 0) (nI 0) (nI 0) (nI 0) (nI 0) (-1) g15 (nI 0) g17 (nI 0) (nI 0) g20 (nI 0) g22 g23 g24 (nI 0) (nI 0) (nI 0) g28 g29 (nI 0) g31 g32 g33 (upd (fun _ => nI 0) 2 (nI 20)) (by first | rfl | assumption | omega | decide)) w_1083 w_1085 w_s46 w_9 w_1086 (by decide +kernel) rfl ⟨(Nat.le_of_ble_eq_true rfl), (Nat.le_of_ble_eq_true rfl)⟩ 0 (ci := 8) rfl rfl [0, 1] [] rfl rfl rfl rfl (by decide) (Nat.le_of_ble_eq_true rfl) dX8_smith_7 ⟨(Nat.le_of_ble_eq_true rfl), (Nat.le_of_ble_eq_true rfl)⟩ rfl (fun r w1 H locs hQ V => ?_)
  obtain ⟨rfl, rfl⟩ := hQ
  have V : gW D T A s [(o, .inr (8, [.int (nI 0), .ref g1, .ref g2, .ref g3, .ref g4, .int (nI 0), .int (nI 0), .int (nI 0), .int (nI 0), .int (nI 0), .int (nI 0), .int (nI 0), .int (nI 0), .int (nI 0), .int (-1), .ref g15, .int (nI 0), .ref g17, .int (nI 0), .int (nI 0), .ref g20, .int (nI 0), .ref g22, .ref g23, .ref g24, .int (nI 0), .int (nI 0), .int (nI 0), .ref g28, .ref g29, .int (nI 0), .ref g31, .ref g32, .ref g33])), (g1, .inl (T 0, 282, .inl (upd (fun _ => nI 0) 2 (nI 20))))] H locs := V
  show W p l e _ s m args below meth c H locs _ _ _ (F0 m 10 ls [.int (nI 0)])
  refine lv_if_eq (tgt := 25) hx hb dX8_smith_10 (by decide) (fun _ => ?_) (fun c => absurd (show (nI 0) = 0 by decide +kernel) c)
  refine lv_bipush (v := (-2)) hx hb dX8_smith_25 (by decide +kernel) ?_
  have V := V.sub (ws' := []) [] rfl rfl
  exact g_iret (Qr := (q_pm_smith T o i what g1 g2 g3 g4 g15 g17 g20 g22 g23 g24 g28 g29 g31 g32 g33)) hC V ⟨(Nat.le_of_ble_eq_true rfl), (Nat.le_of_ble_eq_true rfl)⟩ ⟨(-2), rfl, rfl, rfl⟩ dX8_smith_27

def q_pm_blowers (T : Nat → ClassId) (o : Nat) (i : Int32) (g1 : Nat) (g2 : Nat) (g3 : Nat) (g4 : Nat) (g15 : Nat) (g17 : Nat) (g20 : Nat) (g22 : Nat) (g23 : Nat) (g24 : Nat) (g28 : Nat) (g29 : Nat) (g31 : Nat) (g32 : Nat) (g33 : Nat) : Option Value → va_W → Prop := fun rr ww => (∃ (z : Int32), rr = some (.int z) ∧ ww = [] ∧ z = -2)
set_option maxHeartbeats 4000000 in
set_option maxRecDepth 100000 in
theorem pm_blowers (l : Launch) (D : va_G) (T : Nat → ClassId) (o : Nat) (i : Int32) (g1 : Nat) (g2 : Nat) (g3 : Nat) (g4 : Nat) (g15 : Nat) (g17 : Nat) (g20 : Nat) (g22 : Nat) (g23 : Nat) (g24 : Nat) (g28 : Nat) (g29 : Nat) (g31 : Nat) (g32 : Nat) (g33 : Nat) : Ct l yX8_blowers cX8_blowers 2 (some .int) 2 0 0 D T [.ref o, .int i] [(o, .inr (8, [.int (nI 0), .ref g1, .ref g2, .ref g3, .ref g4, .int (nI 0), .int (nI 0), .int (nI 0), .int (nI 0), .int (nI 0), .int (nI 0), .int (nI 0), .int (nI 0), .int (nI 0), .int (-1), .ref g15, .int (nI 0), .ref g17, .int (nI 0), .int (nI 0), .ref g20, .int (nI 0), .ref g22, .ref g23, .ref g24, .int (nI 0), .int (nI 0), .int (nI 0), .ref g28, .ref g29, .int (nI 0), .ref g31, .ref g32, .ref g33])), (g1, .inl (T 0, 282, .inl (upd (fun _ => nI 0) 2 (nI 20))))] (q_pm_blowers T o i g1 g2 g3 g4 g15 g17 g20 g22 g23 g24 g28 g29 g31 g32 g33) := by
  refine Ct.of (cc := cX8_blowers) (maxL := 2) (ret := (some .int)) (by decide) (Nat.le_of_ble_eq_true rfl) ?_
  intro p e s m args below meth c A ls hC hnm V hl
  obtain ⟨hx, hb, hr, hml, hown, hts, hlocks⟩ := id hC
  generalize hH : s.heap = H at V ⊢
  clear hH
  have hl : lv_has ls 2 [(0, .ref o), (1, .int i)] := hl
  generalize hlo : ([] : List Loc) = locs at V ⊢
  clear hlo
  refine lv_aload_n hx hb dX8_blowers_0 rfl (lv_at hl 0 rfl) ?_
  refine lv_iconst (v := (nI 0)) hx hb dX8_blowers_1 (by decide +kernel) ?_
  refine g_put hC V (ci := 8) uwX8 tyX8 tyX8_ok nmX8 0 rfl rfl 0 (by decide) w_912 rfl rfl rfl rfl (Nat.le_of_ble_eq_true rfl) (ws' := [(o, .inr (8, [.int (nI 0), .ref g1, .ref g2, .ref g3, .ref g4, .int (nI 0), .int (nI 0), .int (nI 0), .int (nI 0), .int (nI 0), .int (nI 0), .int (nI 0), .int (nI 0), .int (nI 0), .int (-1), .ref g15, .int (nI 0), .ref g17, .int (nI 0), .int (nI 0), .ref g20, .int (nI 0), .ref g22, .ref g23, .ref g24, .int (nI 0), .int (nI 0), .int (nI 0), .ref g28, .ref g29, .int (nI 0), .ref g31, .ref g32, .ref g33])), (g1, .inl (T 0, 282, .inl (upd (fun _ => nI 0) 2 (nI 20))))]) rfl dX8_blowers_2 (fun H locs V => ?_)
  refine lv_aload_n hx hb dX8_blowers_5 rfl (lv_at hl 0 rfl) ?_
  refine lv_iload_n hx hb dX8_blowers_6 rfl (lv_at hl 1 rfl) ?_
  refine g_callV (wr := []) (nA := 1) hC V hl.1 (m_isSmith l D T o i (nI 0) g1 g2 g3 g4 (nI 0) (nI 0) (nI 0) (nI 0) (nI 0) (nI 0) (nI 0) (nI 0) (nI 0) (-1) g15 (nI 0) g17 (nI 0) (nI 0) g20 (nI 0) g22 g23 g24 (nI 0) (nI 0) (nI 0) g28 g29 (nI 0) g31 g32 g33 (upd (fun _ => nI 0) 2 (nI 20)) (by first | rfl | assumption | omega | decide)) w_1083 w_1085 w_s46 w_9 w_1086 (by decide +kernel) rfl ⟨(Nat.le_of_ble_eq_true rfl), (Nat.le_of_ble_eq_true rfl)⟩ 0 (ci := 8) rfl rfl [0, 1] [] rfl rfl rfl rfl (by decide) (Nat.le_of_ble_eq_true rfl) dX8_blowers_7 ⟨(Nat.le_of_ble_eq_true rfl), (Nat.le_of_ble_eq_true rfl)⟩ rfl (fun r w1 H locs hQ V => ?_)
  obtain ⟨rfl, rfl⟩ := hQ
  have V : gW D T A s [(o, .inr (8, [.int (nI 0), .ref g1, .ref g2, .ref g3, .ref g4, .int (nI 0), .int (nI 0), .int (nI 0), .int (nI 0), .int (nI 0), .int (nI 0), .int (nI 0), .int (nI 0), .int (nI 0), .int (-1), .ref g15, .int (nI 0), .ref g17, .int (nI 0), .int (nI 0), .ref g20, .int (nI 0), .ref g22, .ref g23, .ref g24, .int (nI 0), .int (nI 0), .int (nI 0), .ref g28, .ref g29, .int (nI 0), .ref g31, .ref g32, .ref g33])), (g1, .inl (T 0, 282, .inl (upd (fun _ => nI 0) 2 (nI 20))))] H locs := V
  show W p l e _ s m args below meth c H locs _ _ _ (F0 m 10 ls [.int (nI 0)])
  refine lv_if_eq (tgt := 21) hx hb dX8_blowers_10 (by decide) (fun _ => ?_) (fun c => absurd (show (nI 0) = 0 by decide +kernel) c)
  refine lv_bipush (v := (-2)) hx hb dX8_blowers_21 (by decide +kernel) ?_
  have V := V.sub (ws' := []) [] rfl rfl
  exact g_iret (Qr := (q_pm_blowers T o i g1 g2 g3 g4 g15 g17 g20 g22 g23 g24 g28 g29 g31 g32 g33)) hC V ⟨(Nat.le_of_ble_eq_true rfl), (Nat.le_of_ble_eq_true rfl)⟩ ⟨(-2), rfl, rfl, rfl⟩ dX8_blowers_23

def q_pm_rope (T : Nat → ClassId) (o : Nat) (i : Int32) (to : Int32) (g1 : Nat) (g2 : Nat) (g3 : Nat) (g4 : Nat) (g15 : Nat) (g17 : Nat) (g20 : Nat) (g22 : Nat) (g23 : Nat) (g24 : Nat) (g28 : Nat) (g29 : Nat) (g31 : Nat) (g32 : Nat) (g33 : Nat) : Option Value → va_W → Prop := fun rr ww => (∃ (z : Int32), rr = some (.int z) ∧ ww = [] ∧ z = -2)
set_option maxHeartbeats 4000000 in
set_option maxRecDepth 100000 in
theorem pm_rope (l : Launch) (D : va_G) (T : Nat → ClassId) (o : Nat) (i : Int32) (to : Int32) (g1 : Nat) (g2 : Nat) (g3 : Nat) (g4 : Nat) (g15 : Nat) (g17 : Nat) (g20 : Nat) (g22 : Nat) (g23 : Nat) (g24 : Nat) (g28 : Nat) (g29 : Nat) (g31 : Nat) (g32 : Nat) (g33 : Nat) : Ct l yX8_rope cX8_rope 4 (some .int) 2 0 0 D T [.ref o, .int i, .int to] [(o, .inr (8, [.int (nI 0), .ref g1, .ref g2, .ref g3, .ref g4, .int (nI 0), .int (nI 0), .int (nI 0), .int (nI 0), .int (nI 0), .int (nI 0), .int (nI 0), .int (nI 0), .int (nI 0), .int (-1), .ref g15, .int (nI 0), .ref g17, .int (nI 0), .int (nI 0), .ref g20, .int (nI 0), .ref g22, .ref g23, .ref g24, .int (nI 0), .int (nI 0), .int (nI 0), .ref g28, .ref g29, .int (nI 0), .ref g31, .ref g32, .ref g33])), (g1, .inl (T 0, 282, .inl (upd (fun _ => nI 0) 2 (nI 20))))] (q_pm_rope T o i to g1 g2 g3 g4 g15 g17 g20 g22 g23 g24 g28 g29 g31 g32 g33) := by
  refine Ct.of (cc := cX8_rope) (maxL := 4) (ret := (some .int)) (by decide) (Nat.le_of_ble_eq_true rfl) ?_
  intro p e s m args below meth c A ls hC hnm V hl
  obtain ⟨hx, hb, hr, hml, hown, hts, hlocks⟩ := id hC
  generalize hH : s.heap = H at V ⊢
  clear hH
  have hl : lv_has ls 4 [(0, .ref o), (1, .int i), (2, .int to)] := hl
  generalize hlo : ([] : List Loc) = locs at V ⊢
  clear hlo
  refine lv_aload_n hx hb dX8_rope_0 rfl (lv_at hl 0 rfl) ?_
  refine lv_iconst (v := (nI 0)) hx hb dX8_rope_1 (by decide +kernel) ?_
  refine g_put hC V (ci := 8) uwX8 tyX8 tyX8_ok nmX8 0 rfl rfl 0 (by decide) w_912 rfl rfl rfl rfl (Nat.le_of_ble_eq_true rfl) (ws' := [(o, .inr (8, [.int (nI 0), .ref g1, .ref g2, .ref g3, .ref g4, .int (nI 0), .int (nI 0), .int (nI 0), .int (nI 0), .int (nI 0), .int (nI 0), .int (nI 0), .int (nI 0), .int (nI 0), .int (-1), .ref g15, .int (nI 0), .ref g17, .int (nI 0), .int (nI 0), .ref g20, .int (nI 0), .ref g22, .ref g23, .ref g24, .int (nI 0), .int (nI 0), .int (nI 0), .ref g28, .ref g29, .int (nI 0), .ref g31, .ref g32, .ref g33])), (g1, .inl (T 0, 282, .inl (upd (fun _ => nI 0) 2 (nI 20))))]) rfl dX8_rope_2 (fun H locs V => ?_)
  refine lv_aload_n hx hb dX8_rope_5 rfl (lv_at hl 0 rfl) ?_
  refine lv_iload_n hx hb dX8_rope_6 rfl (lv_at hl 1 rfl) ?_
  refine g_callV (wr := []) (nA := 1) hC V hl.1 (m_isSmith l D T o i (nI 0) g1 g2 g3 g4 (nI 0) (nI 0) (nI 0) (nI 0) (nI 0) (nI 0) (nI 0) (nI 0) (nI 0) (-1) g15 (nI 0) g17 (nI 0) (nI 0) g20 (nI 0) g22 g23 g24 (nI 0) (nI 0) (nI 0) g28 g29 (nI 0) g31 g32 g33 (upd (fun _ => nI 0) 2 (nI 20)) (by first | rfl | assumption | omega | decide)) w_1083 w_1085 w_s46 w_9 w_1086 (by decide +kernel) rfl ⟨(Nat.le_of_ble_eq_true rfl), (Nat.le_of_ble_eq_true rfl)⟩ 0 (ci := 8) rfl rfl [0, 1] [] rfl rfl rfl rfl (by decide) (Nat.le_of_ble_eq_true rfl) dX8_rope_7 ⟨(Nat.le_of_ble_eq_true rfl), (Nat.le_of_ble_eq_true rfl)⟩ rfl (fun r w1 H locs hQ V => ?_)
  obtain ⟨rfl, rfl⟩ := hQ
  have V : gW D T A s [(o, .inr (8, [.int (nI 0), .ref g1, .ref g2, .ref g3, .ref g4, .int (nI 0), .int (nI 0), .int (nI 0), .int (nI 0), .int (nI 0), .int (nI 0), .int (nI 0), .int (nI 0), .int (nI 0), .int (-1), .ref g15, .int (nI 0), .ref g17, .int (nI 0), .int (nI 0), .ref g20, .int (nI 0), .ref g22, .ref g23, .ref g24, .int (nI 0), .int (nI 0), .int (nI 0), .ref g28, .ref g29, .int (nI 0), .ref g31, .ref g32, .ref g33])), (g1, .inl (T 0, 282, .inl (upd (fun _ => nI 0) 2 (nI 20))))] H locs := V
  show W p l e _ s m args below meth c H locs _ _ _ (F0 m 10 ls [.int (nI 0)])
  refine lv_if_eq (tgt := 21) hx hb dX8_rope_10 (by decide) (fun _ => ?_) (fun c => absurd (show (nI 0) = 0 by decide +kernel) c)
  refine lv_bipush (v := (-2)) hx hb dX8_rope_21 (by decide +kernel) ?_
  have V := V.sub (ws' := []) [] rfl rfl
  exact g_iret (Qr := (q_pm_rope T o i to g1 g2 g3 g4 g15 g17 g20 g22 g23 g24 g28 g29 g31 g32 g33)) hC V ⟨(Nat.le_of_ble_eq_true rfl), (Nat.le_of_ble_eq_true rfl)⟩ ⟨(-2), rfl, rfl, rfl⟩ dX8_rope_23

def q_pm_arm (T : Nat → ClassId) (o : Nat) (i : Int32) (bl : Int32) (g1 : Nat) (g2 : Nat) (g3 : Nat) (g4 : Nat) (g15 : Nat) (g17 : Nat) (g20 : Nat) (g22 : Nat) (g23 : Nat) (g24 : Nat) (g28 : Nat) (g29 : Nat) (g31 : Nat) (g32 : Nat) (g33 : Nat) : Option Value → va_W → Prop := fun rr ww => (∃ (z : Int32), rr = some (.int z) ∧ ww = [] ∧ z = -2)
set_option maxHeartbeats 4000000 in
set_option maxRecDepth 100000 in
theorem pm_arm (l : Launch) (D : va_G) (T : Nat → ClassId) (o : Nat) (i : Int32) (bl : Int32) (g1 : Nat) (g2 : Nat) (g3 : Nat) (g4 : Nat) (g15 : Nat) (g17 : Nat) (g20 : Nat) (g22 : Nat) (g23 : Nat) (g24 : Nat) (g28 : Nat) (g29 : Nat) (g31 : Nat) (g32 : Nat) (g33 : Nat) : Ct l yX8_arm cX8_arm 4 (some .int) 2 0 0 D T [.ref o, .int i, .int bl] [(o, .inr (8, [.int (nI 0), .ref g1, .ref g2, .ref g3, .ref g4, .int (nI 0), .int (nI 0), .int (nI 0), .int (nI 0), .int (nI 0), .int (nI 0), .int (nI 0), .int (nI 0), .int (nI 0), .int (-1), .ref g15, .int (nI 0), .ref g17, .int (nI 0), .int (nI 0), .ref g20, .int (nI 0), .ref g22, .ref g23, .ref g24, .int (nI 0), .int (nI 0), .int (nI 0), .ref g28, .ref g29, .int (nI 0), .ref g31, .ref g32, .ref g33])), (g1, .inl (T 0, 282, .inl (upd (fun _ => nI 0) 2 (nI 20))))] (q_pm_arm T o i bl g1 g2 g3 g4 g15 g17 g20 g22 g23 g24 g28 g29 g31 g32 g33) := by
  refine Ct.of (cc := cX8_arm) (maxL := 4) (ret := (some .int)) (by decide) (Nat.le_of_ble_eq_true rfl) ?_
  intro p e s m args below meth c A ls hC hnm V hl
  obtain ⟨hx, hb, hr, hml, hown, hts, hlocks⟩ := id hC
  generalize hH : s.heap = H at V ⊢
  clear hH
  have hl : lv_has ls 4 [(0, .ref o), (1, .int i), (2, .int bl)] := hl
  generalize hlo : ([] : List Loc) = locs at V ⊢
  clear hlo
  refine lv_aload_n hx hb dX8_arm_0 rfl (lv_at hl 0 rfl) ?_
  refine lv_iconst (v := (nI 0)) hx hb dX8_arm_1 (by decide +kernel) ?_
  refine g_put hC V (ci := 8) uwX8 tyX8 tyX8_ok nmX8 0 rfl rfl 0 (by decide) w_912 rfl rfl rfl rfl (Nat.le_of_ble_eq_true rfl) (ws' := [(o, .inr (8, [.int (nI 0), .ref g1, .ref g2, .ref g3, .ref g4, .int (nI 0), .int (nI 0), .int (nI 0), .int (nI 0), .int (nI 0), .int (nI 0), .int (nI 0), .int (nI 0), .int (nI 0), .int (-1), .ref g15, .int (nI 0), .ref g17, .int (nI 0), .int (nI 0), .ref g20, .int (nI 0), .ref g22, .ref g23, .ref g24, .int (nI 0), .int (nI 0), .int (nI 0), .ref g28, .ref g29, .int (nI 0), .ref g31, .ref g32, .ref g33])), (g1, .inl (T 0, 282, .inl (upd (fun _ => nI 0) 2 (nI 20))))]) rfl dX8_arm_2 (fun H locs V => ?_)
  refine lv_aload_n hx hb dX8_arm_5 rfl (lv_at hl 0 rfl) ?_
  refine lv_iload_n hx hb dX8_arm_6 rfl (lv_at hl 1 rfl) ?_
  refine g_callV (wr := []) (nA := 1) hC V hl.1 (m_isSmith l D T o i (nI 0) g1 g2 g3 g4 (nI 0) (nI 0) (nI 0) (nI 0) (nI 0) (nI 0) (nI 0) (nI 0) (nI 0) (-1) g15 (nI 0) g17 (nI 0) (nI 0) g20 (nI 0) g22 g23 g24 (nI 0) (nI 0) (nI 0) g28 g29 (nI 0) g31 g32 g33 (upd (fun _ => nI 0) 2 (nI 20)) (by first | rfl | assumption | omega | decide)) w_1083 w_1085 w_s46 w_9 w_1086 (by decide +kernel) rfl ⟨(Nat.le_of_ble_eq_true rfl), (Nat.le_of_ble_eq_true rfl)⟩ 0 (ci := 8) rfl rfl [0, 1] [] rfl rfl rfl rfl (by decide) (Nat.le_of_ble_eq_true rfl) dX8_arm_7 ⟨(Nat.le_of_ble_eq_true rfl), (Nat.le_of_ble_eq_true rfl)⟩ rfl (fun r w1 H locs hQ V => ?_)
  obtain ⟨rfl, rfl⟩ := hQ
  have V : gW D T A s [(o, .inr (8, [.int (nI 0), .ref g1, .ref g2, .ref g3, .ref g4, .int (nI 0), .int (nI 0), .int (nI 0), .int (nI 0), .int (nI 0), .int (nI 0), .int (nI 0), .int (nI 0), .int (nI 0), .int (-1), .ref g15, .int (nI 0), .ref g17, .int (nI 0), .int (nI 0), .ref g20, .int (nI 0), .ref g22, .ref g23, .ref g24, .int (nI 0), .int (nI 0), .int (nI 0), .ref g28, .ref g29, .int (nI 0), .ref g31, .ref g32, .ref g33])), (g1, .inl (T 0, 282, .inl (upd (fun _ => nI 0) 2 (nI 20))))] H locs := V
  show W p l e _ s m args below meth c H locs _ _ _ (F0 m 10 ls [.int (nI 0)])
  refine lv_if_ne (tgt := 16) hx hb dX8_arm_10 (by decide) (fun c => absurd (show (nI 0) = 0 by decide +kernel) c) (fun _ => ?_)
  refine lv_bipush (v := (-2)) hx hb dX8_arm_13 (by decide +kernel) ?_
  have V := V.sub (ws' := []) [] rfl rfl
  exact g_iret (Qr := (q_pm_arm T o i bl g1 g2 g3 g4 g15 g17 g20 g22 g23 g24 g28 g29 g31 g32 g33)) hC V ⟨(Nat.le_of_ble_eq_true rfl), (Nat.le_of_ble_eq_true rfl)⟩ ⟨(-2), rfl, rfl, rfl⟩ dX8_arm_15

def q_pm_piece (T : Nat → ClassId) (o : Nat) (i : Int32) (st : Int32) (g1 : Nat) (g2 : Nat) (g3 : Nat) (g4 : Nat) (g15 : Nat) (g17 : Nat) (g20 : Nat) (g22 : Nat) (g23 : Nat) (g24 : Nat) (g28 : Nat) (g29 : Nat) (g31 : Nat) (g32 : Nat) (g33 : Nat) : Option Value → va_W → Prop := fun rr ww => (∃ (z : Int32), rr = some (.int z) ∧ ww = [] ∧ z = -2)
set_option maxHeartbeats 4000000 in
set_option maxRecDepth 100000 in
theorem pm_piece (l : Launch) (D : va_G) (T : Nat → ClassId) (o : Nat) (i : Int32) (st : Int32) (g1 : Nat) (g2 : Nat) (g3 : Nat) (g4 : Nat) (g15 : Nat) (g17 : Nat) (g20 : Nat) (g22 : Nat) (g23 : Nat) (g24 : Nat) (g28 : Nat) (g29 : Nat) (g31 : Nat) (g32 : Nat) (g33 : Nat) : Ct l yX8_piece cX8_piece 4 (some .int) 2 0 0 D T [.ref o, .int i, .int st] [(o, .inr (8, [.int (nI 0), .ref g1, .ref g2, .ref g3, .ref g4, .int (nI 0), .int (nI 0), .int (nI 0), .int (nI 0), .int (nI 0), .int (nI 0), .int (nI 0), .int (nI 0), .int (nI 0), .int (-1), .ref g15, .int (nI 0), .ref g17, .int (nI 0), .int (nI 0), .ref g20, .int (nI 0), .ref g22, .ref g23, .ref g24, .int (nI 0), .int (nI 0), .int (nI 0), .ref g28, .ref g29, .int (nI 0), .ref g31, .ref g32, .ref g33])), (g1, .inl (T 0, 282, .inl (upd (fun _ => nI 0) 2 (nI 20))))] (q_pm_piece T o i st g1 g2 g3 g4 g15 g17 g20 g22 g23 g24 g28 g29 g31 g32 g33) := by
  refine Ct.of (cc := cX8_piece) (maxL := 4) (ret := (some .int)) (by decide) (Nat.le_of_ble_eq_true rfl) ?_
  intro p e s m args below meth c A ls hC hnm V hl
  obtain ⟨hx, hb, hr, hml, hown, hts, hlocks⟩ := id hC
  generalize hH : s.heap = H at V ⊢
  clear hH
  have hl : lv_has ls 4 [(0, .ref o), (1, .int i), (2, .int st)] := hl
  generalize hlo : ([] : List Loc) = locs at V ⊢
  clear hlo
  refine lv_aload_n hx hb dX8_piece_0 rfl (lv_at hl 0 rfl) ?_
  refine lv_iconst (v := (nI 0)) hx hb dX8_piece_1 (by decide +kernel) ?_
  refine g_put hC V (ci := 8) uwX8 tyX8 tyX8_ok nmX8 0 rfl rfl 0 (by decide) w_912 rfl rfl rfl rfl (Nat.le_of_ble_eq_true rfl) (ws' := [(o, .inr (8, [.int (nI 0), .ref g1, .ref g2, .ref g3, .ref g4, .int (nI 0), .int (nI 0), .int (nI 0), .int (nI 0), .int (nI 0), .int (nI 0), .int (nI 0), .int (nI 0), .int (nI 0), .int (-1), .ref g15, .int (nI 0), .ref g17, .int (nI 0), .int (nI 0), .ref g20, .int (nI 0), .ref g22, .ref g23, .ref g24, .int (nI 0), .int (nI 0), .int (nI 0), .ref g28, .ref g29, .int (nI 0), .ref g31, .ref g32, .ref g33])), (g1, .inl (T 0, 282, .inl (upd (fun _ => nI 0) 2 (nI 20))))]) rfl dX8_piece_2 (fun H locs V => ?_)
  refine lv_aload_n hx hb dX8_piece_5 rfl (lv_at hl 0 rfl) ?_
  refine lv_iload_n hx hb dX8_piece_6 rfl (lv_at hl 1 rfl) ?_
  refine g_callV (wr := []) (nA := 1) hC V hl.1 (m_isSmith l D T o i (nI 0) g1 g2 g3 g4 (nI 0) (nI 0) (nI 0) (nI 0) (nI 0) (nI 0) (nI 0) (nI 0) (nI 0) (-1) g15 (nI 0) g17 (nI 0) (nI 0) g20 (nI 0) g22 g23 g24 (nI 0) (nI 0) (nI 0) g28 g29 (nI 0) g31 g32 g33 (upd (fun _ => nI 0) 2 (nI 20)) (by first | rfl | assumption | omega | decide)) w_1083 w_1085 w_s46 w_9 w_1086 (by decide +kernel) rfl ⟨(Nat.le_of_ble_eq_true rfl), (Nat.le_of_ble_eq_true rfl)⟩ 0 (ci := 8) rfl rfl [0, 1] [] rfl rfl rfl rfl (by decide) (Nat.le_of_ble_eq_true rfl) dX8_piece_7 ⟨(Nat.le_of_ble_eq_true rfl), (Nat.le_of_ble_eq_true rfl)⟩ rfl (fun r w1 H locs hQ V => ?_)
  obtain ⟨rfl, rfl⟩ := hQ
  have V : gW D T A s [(o, .inr (8, [.int (nI 0), .ref g1, .ref g2, .ref g3, .ref g4, .int (nI 0), .int (nI 0), .int (nI 0), .int (nI 0), .int (nI 0), .int (nI 0), .int (nI 0), .int (nI 0), .int (nI 0), .int (-1), .ref g15, .int (nI 0), .ref g17, .int (nI 0), .int (nI 0), .ref g20, .int (nI 0), .ref g22, .ref g23, .ref g24, .int (nI 0), .int (nI 0), .int (nI 0), .ref g28, .ref g29, .int (nI 0), .ref g31, .ref g32, .ref g33])), (g1, .inl (T 0, 282, .inl (upd (fun _ => nI 0) 2 (nI 20))))] H locs := V
  show W p l e _ s m args below meth c H locs _ _ _ (F0 m 10 ls [.int (nI 0)])
  refine lv_if_ne (tgt := 16) hx hb dX8_piece_10 (by decide) (fun c => absurd (show (nI 0) = 0 by decide +kernel) c) (fun _ => ?_)
  refine lv_bipush (v := (-2)) hx hb dX8_piece_13 (by decide +kernel) ?_
  have V := V.sub (ws' := []) [] rfl rfl
  exact g_iret (Qr := (q_pm_piece T o i st g1 g2 g3 g4 g15 g17 g20 g22 g23 g24 g28 g29 g31 g32 g33)) hC V ⟨(Nat.le_of_ble_eq_true rfl), (Nat.le_of_ble_eq_true rfl)⟩ ⟨(-2), rfl, rfl, rfl⟩ dX8_piece_15

def q_pm_ring (T : Nat → ClassId) (o : Nat) (i : Int32) (g1 : Nat) (g2 : Nat) (g3 : Nat) (g4 : Nat) (g15 : Nat) (g17 : Nat) (g20 : Nat) (g22 : Nat) (g23 : Nat) (g24 : Nat) (g28 : Nat) (g29 : Nat) (g31 : Nat) (g32 : Nat) (g33 : Nat) : Option Value → va_W → Prop := fun rr ww => (∃ (z : Int32), rr = some (.int z) ∧ ww = [] ∧ z = -2)
set_option maxHeartbeats 4000000 in
set_option maxRecDepth 100000 in
theorem pm_ring (l : Launch) (D : va_G) (T : Nat → ClassId) (o : Nat) (i : Int32) (g1 : Nat) (g2 : Nat) (g3 : Nat) (g4 : Nat) (g15 : Nat) (g17 : Nat) (g20 : Nat) (g22 : Nat) (g23 : Nat) (g24 : Nat) (g28 : Nat) (g29 : Nat) (g31 : Nat) (g32 : Nat) (g33 : Nat) : Ct l yX8_ring cX8_ring 2 (some .int) 2 0 0 D T [.ref o, .int i] [(o, .inr (8, [.int (nI 0), .ref g1, .ref g2, .ref g3, .ref g4, .int (nI 0), .int (nI 0), .int (nI 0), .int (nI 0), .int (nI 0), .int (nI 0), .int (nI 0), .int (nI 0), .int (nI 0), .int (-1), .ref g15, .int (nI 0), .ref g17, .int (nI 0), .int (nI 0), .ref g20, .int (nI 0), .ref g22, .ref g23, .ref g24, .int (nI 0), .int (nI 0), .int (nI 0), .ref g28, .ref g29, .int (nI 0), .ref g31, .ref g32, .ref g33])), (g1, .inl (T 0, 282, .inl (upd (fun _ => nI 0) 2 (nI 20))))] (q_pm_ring T o i g1 g2 g3 g4 g15 g17 g20 g22 g23 g24 g28 g29 g31 g32 g33) := by
  refine Ct.of (cc := cX8_ring) (maxL := 2) (ret := (some .int)) (by decide) (Nat.le_of_ble_eq_true rfl) ?_
  intro p e s m args below meth c A ls hC hnm V hl
  obtain ⟨hx, hb, hr, hml, hown, hts, hlocks⟩ := id hC
  generalize hH : s.heap = H at V ⊢
  clear hH
  have hl : lv_has ls 2 [(0, .ref o), (1, .int i)] := hl
  generalize hlo : ([] : List Loc) = locs at V ⊢
  clear hlo
  refine lv_aload_n hx hb dX8_ring_0 rfl (lv_at hl 0 rfl) ?_
  refine lv_iconst (v := (nI 0)) hx hb dX8_ring_1 (by decide +kernel) ?_
  refine g_put hC V (ci := 8) uwX8 tyX8 tyX8_ok nmX8 0 rfl rfl 0 (by decide) w_912 rfl rfl rfl rfl (Nat.le_of_ble_eq_true rfl) (ws' := [(o, .inr (8, [.int (nI 0), .ref g1, .ref g2, .ref g3, .ref g4, .int (nI 0), .int (nI 0), .int (nI 0), .int (nI 0), .int (nI 0), .int (nI 0), .int (nI 0), .int (nI 0), .int (nI 0), .int (-1), .ref g15, .int (nI 0), .ref g17, .int (nI 0), .int (nI 0), .ref g20, .int (nI 0), .ref g22, .ref g23, .ref g24, .int (nI 0), .int (nI 0), .int (nI 0), .ref g28, .ref g29, .int (nI 0), .ref g31, .ref g32, .ref g33])), (g1, .inl (T 0, 282, .inl (upd (fun _ => nI 0) 2 (nI 20))))]) rfl dX8_ring_2 (fun H locs V => ?_)
  refine lv_aload_n hx hb dX8_ring_5 rfl (lv_at hl 0 rfl) ?_
  refine lv_iload_n hx hb dX8_ring_6 rfl (lv_at hl 1 rfl) ?_
  refine g_callV (wr := []) (nA := 1) hC V hl.1 (m_isSmith l D T o i (nI 0) g1 g2 g3 g4 (nI 0) (nI 0) (nI 0) (nI 0) (nI 0) (nI 0) (nI 0) (nI 0) (nI 0) (-1) g15 (nI 0) g17 (nI 0) (nI 0) g20 (nI 0) g22 g23 g24 (nI 0) (nI 0) (nI 0) g28 g29 (nI 0) g31 g32 g33 (upd (fun _ => nI 0) 2 (nI 20)) (by first | rfl | assumption | omega | decide)) w_1083 w_1085 w_s46 w_9 w_1086 (by decide +kernel) rfl ⟨(Nat.le_of_ble_eq_true rfl), (Nat.le_of_ble_eq_true rfl)⟩ 0 (ci := 8) rfl rfl [0, 1] [] rfl rfl rfl rfl (by decide) (Nat.le_of_ble_eq_true rfl) dX8_ring_7 ⟨(Nat.le_of_ble_eq_true rfl), (Nat.le_of_ble_eq_true rfl)⟩ rfl (fun r w1 H locs hQ V => ?_)
  obtain ⟨rfl, rfl⟩ := hQ
  have V : gW D T A s [(o, .inr (8, [.int (nI 0), .ref g1, .ref g2, .ref g3, .ref g4, .int (nI 0), .int (nI 0), .int (nI 0), .int (nI 0), .int (nI 0), .int (nI 0), .int (nI 0), .int (nI 0), .int (nI 0), .int (-1), .ref g15, .int (nI 0), .ref g17, .int (nI 0), .int (nI 0), .ref g20, .int (nI 0), .ref g22, .ref g23, .ref g24, .int (nI 0), .int (nI 0), .int (nI 0), .ref g28, .ref g29, .int (nI 0), .ref g31, .ref g32, .ref g33])), (g1, .inl (T 0, 282, .inl (upd (fun _ => nI 0) 2 (nI 20))))] H locs := V
  show W p l e _ s m args below meth c H locs _ _ _ (F0 m 10 ls [.int (nI 0)])
  refine lv_if_eq (tgt := 21) hx hb dX8_ring_10 (by decide) (fun _ => ?_) (fun c => absurd (show (nI 0) = 0 by decide +kernel) c)
  refine lv_bipush (v := (-2)) hx hb dX8_ring_21 (by decide +kernel) ?_
  have V := V.sub (ws' := []) [] rfl rfl
  exact g_iret (Qr := (q_pm_ring T o i g1 g2 g3 g4 g15 g17 g20 g22 g23 g24 g28 g29 g31 g32 g33)) hC V ⟨(Nat.le_of_ble_eq_true rfl), (Nat.le_of_ble_eq_true rfl)⟩ ⟨(-2), rfl, rfl, rfl⟩ dX8_ring_23

def q_pm_steps (T : Nat → ClassId) (o : Nat) (i : Int32) (to : Int32) (g1 : Nat) (g2 : Nat) (g3 : Nat) (g4 : Nat) (g15 : Nat) (g17 : Nat) (g20 : Nat) (g22 : Nat) (g23 : Nat) (g24 : Nat) (g28 : Nat) (g29 : Nat) (g31 : Nat) (g32 : Nat) (g33 : Nat) : Option Value → va_W → Prop := fun rr ww => (∃ (z : Int32), rr = some (.int z) ∧ ww = [] ∧ z = -2)
set_option maxHeartbeats 4000000 in
set_option maxRecDepth 100000 in
theorem pm_steps (l : Launch) (D : va_G) (T : Nat → ClassId) (o : Nat) (i : Int32) (to : Int32) (g1 : Nat) (g2 : Nat) (g3 : Nat) (g4 : Nat) (g15 : Nat) (g17 : Nat) (g20 : Nat) (g22 : Nat) (g23 : Nat) (g24 : Nat) (g28 : Nat) (g29 : Nat) (g31 : Nat) (g32 : Nat) (g33 : Nat) : Ct l yX8_steps cX8_steps 4 (some .int) 2 0 0 D T [.ref o, .int i, .int to] [(o, .inr (8, [.int (nI 0), .ref g1, .ref g2, .ref g3, .ref g4, .int (nI 0), .int (nI 0), .int (nI 0), .int (nI 0), .int (nI 0), .int (nI 0), .int (nI 0), .int (nI 0), .int (nI 0), .int (-1), .ref g15, .int (nI 0), .ref g17, .int (nI 0), .int (nI 0), .ref g20, .int (nI 0), .ref g22, .ref g23, .ref g24, .int (nI 0), .int (nI 0), .int (nI 0), .ref g28, .ref g29, .int (nI 0), .ref g31, .ref g32, .ref g33])), (g1, .inl (T 0, 282, .inl (upd (fun _ => nI 0) 2 (nI 20))))] (q_pm_steps T o i to g1 g2 g3 g4 g15 g17 g20 g22 g23 g24 g28 g29 g31 g32 g33) := by
  refine Ct.of (cc := cX8_steps) (maxL := 4) (ret := (some .int)) (by decide) (Nat.le_of_ble_eq_true rfl) ?_
  intro p e s m args below meth c A ls hC hnm V hl
  obtain ⟨hx, hb, hr, hml, hown, hts, hlocks⟩ := id hC
  generalize hH : s.heap = H at V ⊢
  clear hH
  have hl : lv_has ls 4 [(0, .ref o), (1, .int i), (2, .int to)] := hl
  generalize hlo : ([] : List Loc) = locs at V ⊢
  clear hlo
  refine lv_aload_n hx hb dX8_steps_0 rfl (lv_at hl 0 rfl) ?_
  refine lv_iconst (v := (nI 0)) hx hb dX8_steps_1 (by decide +kernel) ?_
  refine g_put hC V (ci := 8) uwX8 tyX8 tyX8_ok nmX8 0 rfl rfl 0 (by decide) w_912 rfl rfl rfl rfl (Nat.le_of_ble_eq_true rfl) (ws' := [(o, .inr (8, [.int (nI 0), .ref g1, .ref g2, .ref g3, .ref g4, .int (nI 0), .int (nI 0), .int (nI 0), .int (nI 0), .int (nI 0), .int (nI 0), .int (nI 0), .int (nI 0), .int (nI 0), .int (-1), .ref g15, .int (nI 0), .ref g17, .int (nI 0), .int (nI 0), .ref g20, .int (nI 0), .ref g22, .ref g23, .ref g24, .int (nI 0), .int (nI 0), .int (nI 0), .ref g28, .ref g29, .int (nI 0), .ref g31, .ref g32, .ref g33])), (g1, .inl (T 0, 282, .inl (upd (fun _ => nI 0) 2 (nI 20))))]) rfl dX8_steps_2 (fun H locs V => ?_)
  refine lv_aload_n hx hb dX8_steps_5 rfl (lv_at hl 0 rfl) ?_
  refine lv_iload_n hx hb dX8_steps_6 rfl (lv_at hl 1 rfl) ?_
  refine g_callV (wr := []) (nA := 1) hC V hl.1 (m_isSmith l D T o i (nI 0) g1 g2 g3 g4 (nI 0) (nI 0) (nI 0) (nI 0) (nI 0) (nI 0) (nI 0) (nI 0) (nI 0) (-1) g15 (nI 0) g17 (nI 0) (nI 0) g20 (nI 0) g22 g23 g24 (nI 0) (nI 0) (nI 0) g28 g29 (nI 0) g31 g32 g33 (upd (fun _ => nI 0) 2 (nI 20)) (by first | rfl | assumption | omega | decide)) w_1083 w_1085 w_s46 w_9 w_1086 (by decide +kernel) rfl ⟨(Nat.le_of_ble_eq_true rfl), (Nat.le_of_ble_eq_true rfl)⟩ 0 (ci := 8) rfl rfl [0, 1] [] rfl rfl rfl rfl (by decide) (Nat.le_of_ble_eq_true rfl) dX8_steps_7 ⟨(Nat.le_of_ble_eq_true rfl), (Nat.le_of_ble_eq_true rfl)⟩ rfl (fun r w1 H locs hQ V => ?_)
  obtain ⟨rfl, rfl⟩ := hQ
  have V : gW D T A s [(o, .inr (8, [.int (nI 0), .ref g1, .ref g2, .ref g3, .ref g4, .int (nI 0), .int (nI 0), .int (nI 0), .int (nI 0), .int (nI 0), .int (nI 0), .int (nI 0), .int (nI 0), .int (nI 0), .int (-1), .ref g15, .int (nI 0), .ref g17, .int (nI 0), .int (nI 0), .ref g20, .int (nI 0), .ref g22, .ref g23, .ref g24, .int (nI 0), .int (nI 0), .int (nI 0), .ref g28, .ref g29, .int (nI 0), .ref g31, .ref g32, .ref g33])), (g1, .inl (T 0, 282, .inl (upd (fun _ => nI 0) 2 (nI 20))))] H locs := V
  show W p l e _ s m args below meth c H locs _ _ _ (F0 m 10 ls [.int (nI 0)])
  refine lv_if_eq (tgt := 21) hx hb dX8_steps_10 (by decide) (fun _ => ?_) (fun c => absurd (show (nI 0) = 0 by decide +kernel) c)
  refine lv_bipush (v := (-2)) hx hb dX8_steps_21 (by decide +kernel) ?_
  have V := V.sub (ws' := []) [] rfl rfl
  exact g_iret (Qr := (q_pm_steps T o i to g1 g2 g3 g4 g15 g17 g20 g22 g23 g24 g28 g29 g31 g32 g33)) hC V ⟨(Nat.le_of_ble_eq_true rfl), (Nat.le_of_ble_eq_true rfl)⟩ ⟨(-2), rfl, rfl, rfl⟩ dX8_steps_23

def q_pm_lazy (T : Nat → ClassId) (o : Nat) (i : Int32) (n : Int32) (g1 : Nat) (g2 : Nat) (g3 : Nat) (g4 : Nat) (g15 : Nat) (g17 : Nat) (g20 : Nat) (g22 : Nat) (g23 : Nat) (g24 : Nat) (g28 : Nat) (g29 : Nat) (g31 : Nat) (g32 : Nat) (g33 : Nat) : Option Value → va_W → Prop := fun rr ww => (∃ (z : Int32), rr = some (.int z) ∧ ww = [] ∧ z = -2)
set_option maxHeartbeats 4000000 in
set_option maxRecDepth 100000 in
theorem pm_lazy (l : Launch) (D : va_G) (T : Nat → ClassId) (o : Nat) (i : Int32) (n : Int32) (g1 : Nat) (g2 : Nat) (g3 : Nat) (g4 : Nat) (g15 : Nat) (g17 : Nat) (g20 : Nat) (g22 : Nat) (g23 : Nat) (g24 : Nat) (g28 : Nat) (g29 : Nat) (g31 : Nat) (g32 : Nat) (g33 : Nat) : Ct l yX8_lazy cX8_lazy 4 (some .int) 2 0 0 D T [.ref o, .int i, .int n] [(o, .inr (8, [.int (nI 0), .ref g1, .ref g2, .ref g3, .ref g4, .int (nI 0), .int (nI 0), .int (nI 0), .int (nI 0), .int (nI 0), .int (nI 0), .int (nI 0), .int (nI 0), .int (nI 0), .int (-1), .ref g15, .int (nI 0), .ref g17, .int (nI 0), .int (nI 0), .ref g20, .int (nI 0), .ref g22, .ref g23, .ref g24, .int (nI 0), .int (nI 0), .int (nI 0), .ref g28, .ref g29, .int (nI 0), .ref g31, .ref g32, .ref g33])), (g1, .inl (T 0, 282, .inl (upd (fun _ => nI 0) 2 (nI 20))))] (q_pm_lazy T o i n g1 g2 g3 g4 g15 g17 g20 g22 g23 g24 g28 g29 g31 g32 g33) := by
  refine Ct.of (cc := cX8_lazy) (maxL := 4) (ret := (some .int)) (by decide) (Nat.le_of_ble_eq_true rfl) ?_
  intro p e s m args below meth c A ls hC hnm V hl
  obtain ⟨hx, hb, hr, hml, hown, hts, hlocks⟩ := id hC
  generalize hH : s.heap = H at V ⊢
  clear hH
  have hl : lv_has ls 4 [(0, .ref o), (1, .int i), (2, .int n)] := hl
  generalize hlo : ([] : List Loc) = locs at V ⊢
  clear hlo
  refine lv_aload_n hx hb dX8_lazy_0 rfl (lv_at hl 0 rfl) ?_
  refine lv_iconst (v := (nI 0)) hx hb dX8_lazy_1 (by decide +kernel) ?_
  refine g_put hC V (ci := 8) uwX8 tyX8 tyX8_ok nmX8 0 rfl rfl 0 (by decide) w_912 rfl rfl rfl rfl (Nat.le_of_ble_eq_true rfl) (ws' := [(o, .inr (8, [.int (nI 0), .ref g1, .ref g2, .ref g3, .ref g4, .int (nI 0), .int (nI 0), .int (nI 0), .int (nI 0), .int (nI 0), .int (nI 0), .int (nI 0), .int (nI 0), .int (nI 0), .int (-1), .ref g15, .int (nI 0), .ref g17, .int (nI 0), .int (nI 0), .ref g20, .int (nI 0), .ref g22, .ref g23, .ref g24, .int (nI 0), .int (nI 0), .int (nI 0), .ref g28, .ref g29, .int (nI 0), .ref g31, .ref g32, .ref g33])), (g1, .inl (T 0, 282, .inl (upd (fun _ => nI 0) 2 (nI 20))))]) rfl dX8_lazy_2 (fun H locs V => ?_)
  refine lv_aload_n hx hb dX8_lazy_5 rfl (lv_at hl 0 rfl) ?_
  refine lv_iload_n hx hb dX8_lazy_6 rfl (lv_at hl 1 rfl) ?_
  refine g_callV (wr := []) (nA := 1) hC V hl.1 (m_isSmith l D T o i (nI 0) g1 g2 g3 g4 (nI 0) (nI 0) (nI 0) (nI 0) (nI 0) (nI 0) (nI 0) (nI 0) (nI 0) (-1) g15 (nI 0) g17 (nI 0) (nI 0) g20 (nI 0) g22 g23 g24 (nI 0) (nI 0) (nI 0) g28 g29 (nI 0) g31 g32 g33 (upd (fun _ => nI 0) 2 (nI 20)) (by first | rfl | assumption | omega | decide)) w_1083 w_1085 w_s46 w_9 w_1086 (by decide +kernel) rfl ⟨(Nat.le_of_ble_eq_true rfl), (Nat.le_of_ble_eq_true rfl)⟩ 0 (ci := 8) rfl rfl [0, 1] [] rfl rfl rfl rfl (by decide) (Nat.le_of_ble_eq_true rfl) dX8_lazy_7 ⟨(Nat.le_of_ble_eq_true rfl), (Nat.le_of_ble_eq_true rfl)⟩ rfl (fun r w1 H locs hQ V => ?_)
  obtain ⟨rfl, rfl⟩ := hQ
  have V : gW D T A s [(o, .inr (8, [.int (nI 0), .ref g1, .ref g2, .ref g3, .ref g4, .int (nI 0), .int (nI 0), .int (nI 0), .int (nI 0), .int (nI 0), .int (nI 0), .int (nI 0), .int (nI 0), .int (nI 0), .int (-1), .ref g15, .int (nI 0), .ref g17, .int (nI 0), .int (nI 0), .ref g20, .int (nI 0), .ref g22, .ref g23, .ref g24, .int (nI 0), .int (nI 0), .int (nI 0), .ref g28, .ref g29, .int (nI 0), .ref g31, .ref g32, .ref g33])), (g1, .inl (T 0, 282, .inl (upd (fun _ => nI 0) 2 (nI 20))))] H locs := V
  show W p l e _ s m args below meth c H locs _ _ _ (F0 m 10 ls [.int (nI 0)])
  refine lv_if_ne (tgt := 16) hx hb dX8_lazy_10 (by decide) (fun c => absurd (show (nI 0) = 0 by decide +kernel) c) (fun _ => ?_)
  refine lv_bipush (v := (-2)) hx hb dX8_lazy_13 (by decide +kernel) ?_
  have V := V.sub (ws' := []) [] rfl rfl
  exact g_iret (Qr := (q_pm_lazy T o i n g1 g2 g3 g4 g15 g17 g20 g22 g23 g24 g28 g29 g31 g32 g33)) hC V ⟨(Nat.le_of_ble_eq_true rfl), (Nat.le_of_ble_eq_true rfl)⟩ ⟨(-2), rfl, rfl, rfl⟩ dX8_lazy_15

def q_pm_stranger (T : Nat → ClassId) (o : Nat) (i : Int32) (bl : Int32) (n : Int32) (g1 : Nat) (g2 : Nat) (g3 : Nat) (g4 : Nat) (g15 : Nat) (g17 : Nat) (g20 : Nat) (g22 : Nat) (g23 : Nat) (g24 : Nat) (g28 : Nat) (g29 : Nat) (g31 : Nat) (g32 : Nat) (g33 : Nat) : Option Value → va_W → Prop := fun rr ww => (∃ (z : Int32), rr = some (.int z) ∧ ww = [] ∧ z = -2)
set_option maxHeartbeats 4000000 in
set_option maxRecDepth 100000 in
theorem pm_stranger (l : Launch) (D : va_G) (T : Nat → ClassId) (o : Nat) (i : Int32) (bl : Int32) (n : Int32) (g1 : Nat) (g2 : Nat) (g3 : Nat) (g4 : Nat) (g15 : Nat) (g17 : Nat) (g20 : Nat) (g22 : Nat) (g23 : Nat) (g24 : Nat) (g28 : Nat) (g29 : Nat) (g31 : Nat) (g32 : Nat) (g33 : Nat) : Ct l yX8_stranger cX8_stranger 5 (some .int) 2 0 0 D T [.ref o, .int i, .int bl, .int n] [(o, .inr (8, [.int (nI 0), .ref g1, .ref g2, .ref g3, .ref g4, .int (nI 0), .int (nI 0), .int (nI 0), .int (nI 0), .int (nI 0), .int (nI 0), .int (nI 0), .int (nI 0), .int (nI 0), .int (-1), .ref g15, .int (nI 0), .ref g17, .int (nI 0), .int (nI 0), .ref g20, .int (nI 0), .ref g22, .ref g23, .ref g24, .int (nI 0), .int (nI 0), .int (nI 0), .ref g28, .ref g29, .int (nI 0), .ref g31, .ref g32, .ref g33])), (g1, .inl (T 0, 282, .inl (upd (fun _ => nI 0) 2 (nI 20))))] (q_pm_stranger T o i bl n g1 g2 g3 g4 g15 g17 g20 g22 g23 g24 g28 g29 g31 g32 g33) := by
  refine Ct.of (cc := cX8_stranger) (maxL := 5) (ret := (some .int)) (by decide) (Nat.le_of_ble_eq_true rfl) ?_
  intro p e s m args below meth c A ls hC hnm V hl
  obtain ⟨hx, hb, hr, hml, hown, hts, hlocks⟩ := id hC
  generalize hH : s.heap = H at V ⊢
  clear hH
  have hl : lv_has ls 5 [(0, .ref o), (1, .int i), (2, .int bl), (3, .int n)] := hl
  generalize hlo : ([] : List Loc) = locs at V ⊢
  clear hlo
  refine lv_aload_n hx hb dX8_stranger_0 rfl (lv_at hl 0 rfl) ?_
  refine lv_iconst (v := (nI 0)) hx hb dX8_stranger_1 (by decide +kernel) ?_
  refine g_put hC V (ci := 8) uwX8 tyX8 tyX8_ok nmX8 0 rfl rfl 0 (by decide) w_912 rfl rfl rfl rfl (Nat.le_of_ble_eq_true rfl) (ws' := [(o, .inr (8, [.int (nI 0), .ref g1, .ref g2, .ref g3, .ref g4, .int (nI 0), .int (nI 0), .int (nI 0), .int (nI 0), .int (nI 0), .int (nI 0), .int (nI 0), .int (nI 0), .int (nI 0), .int (-1), .ref g15, .int (nI 0), .ref g17, .int (nI 0), .int (nI 0), .ref g20, .int (nI 0), .ref g22, .ref g23, .ref g24, .int (nI 0), .int (nI 0), .int (nI 0), .ref g28, .ref g29, .int (nI 0), .ref g31, .ref g32, .ref g33])), (g1, .inl (T 0, 282, .inl (upd (fun _ => nI 0) 2 (nI 20))))]) rfl dX8_stranger_2 (fun H locs V => ?_)
  refine lv_aload_n hx hb dX8_stranger_5 rfl (lv_at hl 0 rfl) ?_
  refine lv_iload_n hx hb dX8_stranger_6 rfl (lv_at hl 1 rfl) ?_
  refine g_callV (wr := []) (nA := 1) hC V hl.1 (m_isSmith l D T o i (nI 0) g1 g2 g3 g4 (nI 0) (nI 0) (nI 0) (nI 0) (nI 0) (nI 0) (nI 0) (nI 0) (nI 0) (-1) g15 (nI 0) g17 (nI 0) (nI 0) g20 (nI 0) g22 g23 g24 (nI 0) (nI 0) (nI 0) g28 g29 (nI 0) g31 g32 g33 (upd (fun _ => nI 0) 2 (nI 20)) (by first | rfl | assumption | omega | decide)) w_1083 w_1085 w_s46 w_9 w_1086 (by decide +kernel) rfl ⟨(Nat.le_of_ble_eq_true rfl), (Nat.le_of_ble_eq_true rfl)⟩ 0 (ci := 8) rfl rfl [0, 1] [] rfl rfl rfl rfl (by decide) (Nat.le_of_ble_eq_true rfl) dX8_stranger_7 ⟨(Nat.le_of_ble_eq_true rfl), (Nat.le_of_ble_eq_true rfl)⟩ rfl (fun r w1 H locs hQ V => ?_)
  obtain ⟨rfl, rfl⟩ := hQ
  have V : gW D T A s [(o, .inr (8, [.int (nI 0), .ref g1, .ref g2, .ref g3, .ref g4, .int (nI 0), .int (nI 0), .int (nI 0), .int (nI 0), .int (nI 0), .int (nI 0), .int (nI 0), .int (nI 0), .int (nI 0), .int (-1), .ref g15, .int (nI 0), .ref g17, .int (nI 0), .int (nI 0), .ref g20, .int (nI 0), .ref g22, .ref g23, .ref g24, .int (nI 0), .int (nI 0), .int (nI 0), .ref g28, .ref g29, .int (nI 0), .ref g31, .ref g32, .ref g33])), (g1, .inl (T 0, 282, .inl (upd (fun _ => nI 0) 2 (nI 20))))] H locs := V
  show W p l e _ s m args below meth c H locs _ _ _ (F0 m 10 ls [.int (nI 0)])
  refine lv_if_ne (tgt := 16) hx hb dX8_stranger_10 (by decide) (fun c => absurd (show (nI 0) = 0 by decide +kernel) c) (fun _ => ?_)
  refine lv_bipush (v := (-2)) hx hb dX8_stranger_13 (by decide +kernel) ?_
  have V := V.sub (ws' := []) [] rfl rfl
  exact g_iret (Qr := (q_pm_stranger T o i bl n g1 g2 g3 g4 g15 g17 g20 g22 g23 g24 g28 g29 g31 g32 g33)) hC V ⟨(Nat.le_of_ble_eq_true rfl), (Nat.le_of_ble_eq_true rfl)⟩ ⟨(-2), rfl, rfl, rfl⟩ dX8_stranger_15

def q_pm_when (T : Nat → ClassId) (o : Nat) (i : Int32) (g1 : Nat) (g2 : Nat) (g3 : Nat) (g4 : Nat) (g15 : Nat) (g17 : Nat) (g20 : Nat) (g22 : Nat) (g23 : Nat) (g24 : Nat) (g28 : Nat) (g29 : Nat) (g31 : Nat) (g32 : Nat) (g33 : Nat) : Option Value → va_W → Prop := fun rr ww => (∃ (z : Int32), rr = some (.int z) ∧ ww = [] ∧ z = -2)
set_option maxHeartbeats 4000000 in
set_option maxRecDepth 100000 in
theorem pm_when (l : Launch) (D : va_G) (T : Nat → ClassId) (o : Nat) (i : Int32) (g1 : Nat) (g2 : Nat) (g3 : Nat) (g4 : Nat) (g15 : Nat) (g17 : Nat) (g20 : Nat) (g22 : Nat) (g23 : Nat) (g24 : Nat) (g28 : Nat) (g29 : Nat) (g31 : Nat) (g32 : Nat) (g33 : Nat) : Ct l yX8_when cX8_when 3 (some .int) 2 0 0 D T [.ref o, .int i] [(o, .inr (8, [.int (nI 0), .ref g1, .ref g2, .ref g3, .ref g4, .int (nI 0), .int (nI 0), .int (nI 0), .int (nI 0), .int (nI 0), .int (nI 0), .int (nI 0), .int (nI 0), .int (nI 0), .int (-1), .ref g15, .int (nI 0), .ref g17, .int (nI 0), .int (nI 0), .ref g20, .int (nI 0), .ref g22, .ref g23, .ref g24, .int (nI 0), .int (nI 0), .int (nI 0), .ref g28, .ref g29, .int (nI 0), .ref g31, .ref g32, .ref g33])), (g1, .inl (T 0, 282, .inl (upd (fun _ => nI 0) 2 (nI 20))))] (q_pm_when T o i g1 g2 g3 g4 g15 g17 g20 g22 g23 g24 g28 g29 g31 g32 g33) := by
  refine Ct.of (cc := cX8_when) (maxL := 3) (ret := (some .int)) (by decide) (Nat.le_of_ble_eq_true rfl) ?_
  intro p e s m args below meth c A ls hC hnm V hl
  obtain ⟨hx, hb, hr, hml, hown, hts, hlocks⟩ := id hC
  generalize hH : s.heap = H at V ⊢
  clear hH
  have hl : lv_has ls 3 [(0, .ref o), (1, .int i)] := hl
  generalize hlo : ([] : List Loc) = locs at V ⊢
  clear hlo
  refine lv_aload_n hx hb dX8_when_0 rfl (lv_at hl 0 rfl) ?_
  refine lv_iconst (v := (nI 0)) hx hb dX8_when_1 (by decide +kernel) ?_
  refine g_put hC V (ci := 8) uwX8 tyX8 tyX8_ok nmX8 0 rfl rfl 0 (by decide) w_912 rfl rfl rfl rfl (Nat.le_of_ble_eq_true rfl) (ws' := [(o, .inr (8, [.int (nI 0), .ref g1, .ref g2, .ref g3, .ref g4, .int (nI 0), .int (nI 0), .int (nI 0), .int (nI 0), .int (nI 0), .int (nI 0), .int (nI 0), .int (nI 0), .int (nI 0), .int (-1), .ref g15, .int (nI 0), .ref g17, .int (nI 0), .int (nI 0), .ref g20, .int (nI 0), .ref g22, .ref g23, .ref g24, .int (nI 0), .int (nI 0), .int (nI 0), .ref g28, .ref g29, .int (nI 0), .ref g31, .ref g32, .ref g33])), (g1, .inl (T 0, 282, .inl (upd (fun _ => nI 0) 2 (nI 20))))]) rfl dX8_when_2 (fun H locs V => ?_)
  refine lv_aload_n hx hb dX8_when_5 rfl (lv_at hl 0 rfl) ?_
  refine lv_iload_n hx hb dX8_when_6 rfl (lv_at hl 1 rfl) ?_
  refine g_callV (wr := []) (nA := 1) hC V hl.1 (m_isSmith l D T o i (nI 0) g1 g2 g3 g4 (nI 0) (nI 0) (nI 0) (nI 0) (nI 0) (nI 0) (nI 0) (nI 0) (nI 0) (-1) g15 (nI 0) g17 (nI 0) (nI 0) g20 (nI 0) g22 g23 g24 (nI 0) (nI 0) (nI 0) g28 g29 (nI 0) g31 g32 g33 (upd (fun _ => nI 0) 2 (nI 20)) (by first | rfl | assumption | omega | decide)) w_1083 w_1085 w_s46 w_9 w_1086 (by decide +kernel) rfl ⟨(Nat.le_of_ble_eq_true rfl), (Nat.le_of_ble_eq_true rfl)⟩ 0 (ci := 8) rfl rfl [0, 1] [] rfl rfl rfl rfl (by decide) (Nat.le_of_ble_eq_true rfl) dX8_when_7 ⟨(Nat.le_of_ble_eq_true rfl), (Nat.le_of_ble_eq_true rfl)⟩ rfl (fun r w1 H locs hQ V => ?_)
  obtain ⟨rfl, rfl⟩ := hQ
  have V : gW D T A s [(o, .inr (8, [.int (nI 0), .ref g1, .ref g2, .ref g3, .ref g4, .int (nI 0), .int (nI 0), .int (nI 0), .int (nI 0), .int (nI 0), .int (nI 0), .int (nI 0), .int (nI 0), .int (nI 0), .int (-1), .ref g15, .int (nI 0), .ref g17, .int (nI 0), .int (nI 0), .ref g20, .int (nI 0), .ref g22, .ref g23, .ref g24, .int (nI 0), .int (nI 0), .int (nI 0), .ref g28, .ref g29, .int (nI 0), .ref g31, .ref g32, .ref g33])), (g1, .inl (T 0, 282, .inl (upd (fun _ => nI 0) 2 (nI 20))))] H locs := V
  show W p l e _ s m args below meth c H locs _ _ _ (F0 m 10 ls [.int (nI 0)])
  refine lv_if_ne (tgt := 16) hx hb dX8_when_10 (by decide) (fun c => absurd (show (nI 0) = 0 by decide +kernel) c) (fun _ => ?_)
  refine lv_bipush (v := (-2)) hx hb dX8_when_13 (by decide +kernel) ?_
  have V := V.sub (ws' := []) [] rfl rfl
  exact g_iret (Qr := (q_pm_when T o i g1 g2 g3 g4 g15 g17 g20 g22 g23 g24 g28 g29 g31 g32 g33)) hC V ⟨(Nat.le_of_ble_eq_true rfl), (Nat.le_of_ble_eq_true rfl)⟩ ⟨(-2), rfl, rfl, rfl⟩ dX8_when_15

def q_pm_warm (T : Nat → ClassId) (o : Nat) (i : Int32) (ht : Int32) (g1 : Nat) (g2 : Nat) (g3 : Nat) (g4 : Nat) (g15 : Nat) (g17 : Nat) (g20 : Nat) (g22 : Nat) (g23 : Nat) (g24 : Nat) (g28 : Nat) (g29 : Nat) (g31 : Nat) (g32 : Nat) (g33 : Nat) : Option Value → va_W → Prop := fun rr ww => (∃ (z : Int32), rr = some (.int z) ∧ ww = [] ∧ z = -2)
set_option maxHeartbeats 4000000 in
set_option maxRecDepth 100000 in
theorem pm_warm (l : Launch) (D : va_G) (T : Nat → ClassId) (o : Nat) (i : Int32) (ht : Int32) (g1 : Nat) (g2 : Nat) (g3 : Nat) (g4 : Nat) (g15 : Nat) (g17 : Nat) (g20 : Nat) (g22 : Nat) (g23 : Nat) (g24 : Nat) (g28 : Nat) (g29 : Nat) (g31 : Nat) (g32 : Nat) (g33 : Nat) : Ct l yX8_warm cX8_warm 6 (some .int) 2 0 0 D T [.ref o, .int i, .int ht] [(o, .inr (8, [.int (nI 0), .ref g1, .ref g2, .ref g3, .ref g4, .int (nI 0), .int (nI 0), .int (nI 0), .int (nI 0), .int (nI 0), .int (nI 0), .int (nI 0), .int (nI 0), .int (nI 0), .int (-1), .ref g15, .int (nI 0), .ref g17, .int (nI 0), .int (nI 0), .ref g20, .int (nI 0), .ref g22, .ref g23, .ref g24, .int (nI 0), .int (nI 0), .int (nI 0), .ref g28, .ref g29, .int (nI 0), .ref g31, .ref g32, .ref g33])), (g1, .inl (T 0, 282, .inl (upd (fun _ => nI 0) 2 (nI 20))))] (q_pm_warm T o i ht g1 g2 g3 g4 g15 g17 g20 g22 g23 g24 g28 g29 g31 g32 g33) := by
  refine Ct.of (cc := cX8_warm) (maxL := 6) (ret := (some .int)) (by decide) (Nat.le_of_ble_eq_true rfl) ?_
  intro p e s m args below meth c A ls hC hnm V hl
  obtain ⟨hx, hb, hr, hml, hown, hts, hlocks⟩ := id hC
  generalize hH : s.heap = H at V ⊢
  clear hH
  have hl : lv_has ls 6 [(0, .ref o), (1, .int i), (2, .int ht)] := hl
  generalize hlo : ([] : List Loc) = locs at V ⊢
  clear hlo
  refine lv_aload_n hx hb dX8_warm_0 rfl (lv_at hl 0 rfl) ?_
  refine lv_iconst (v := (nI 0)) hx hb dX8_warm_1 (by decide +kernel) ?_
  refine g_put hC V (ci := 8) uwX8 tyX8 tyX8_ok nmX8 0 rfl rfl 0 (by decide) w_912 rfl rfl rfl rfl (Nat.le_of_ble_eq_true rfl) (ws' := [(o, .inr (8, [.int (nI 0), .ref g1, .ref g2, .ref g3, .ref g4, .int (nI 0), .int (nI 0), .int (nI 0), .int (nI 0), .int (nI 0), .int (nI 0), .int (nI 0), .int (nI 0), .int (nI 0), .int (-1), .ref g15, .int (nI 0), .ref g17, .int (nI 0), .int (nI 0), .ref g20, .int (nI 0), .ref g22, .ref g23, .ref g24, .int (nI 0), .int (nI 0), .int (nI 0), .ref g28, .ref g29, .int (nI 0), .ref g31, .ref g32, .ref g33])), (g1, .inl (T 0, 282, .inl (upd (fun _ => nI 0) 2 (nI 20))))]) rfl dX8_warm_2 (fun H locs V => ?_)
  refine lv_aload_n hx hb dX8_warm_5 rfl (lv_at hl 0 rfl) ?_
  refine lv_iload_n hx hb dX8_warm_6 rfl (lv_at hl 1 rfl) ?_
  refine g_callV (wr := []) (nA := 1) hC V hl.1 (m_isSmith l D T o i (nI 0) g1 g2 g3 g4 (nI 0) (nI 0) (nI 0) (nI 0) (nI 0) (nI 0) (nI 0) (nI 0) (nI 0) (-1) g15 (nI 0) g17 (nI 0) (nI 0) g20 (nI 0) g22 g23 g24 (nI 0) (nI 0) (nI 0) g28 g29 (nI 0) g31 g32 g33 (upd (fun _ => nI 0) 2 (nI 20)) (by first | rfl | assumption | omega | decide)) w_1083 w_1085 w_s46 w_9 w_1086 (by decide +kernel) rfl ⟨(Nat.le_of_ble_eq_true rfl), (Nat.le_of_ble_eq_true rfl)⟩ 0 (ci := 8) rfl rfl [0, 1] [] rfl rfl rfl rfl (by decide) (Nat.le_of_ble_eq_true rfl) dX8_warm_7 ⟨(Nat.le_of_ble_eq_true rfl), (Nat.le_of_ble_eq_true rfl)⟩ rfl (fun r w1 H locs hQ V => ?_)
  obtain ⟨rfl, rfl⟩ := hQ
  have V : gW D T A s [(o, .inr (8, [.int (nI 0), .ref g1, .ref g2, .ref g3, .ref g4, .int (nI 0), .int (nI 0), .int (nI 0), .int (nI 0), .int (nI 0), .int (nI 0), .int (nI 0), .int (nI 0), .int (nI 0), .int (-1), .ref g15, .int (nI 0), .ref g17, .int (nI 0), .int (nI 0), .ref g20, .int (nI 0), .ref g22, .ref g23, .ref g24, .int (nI 0), .int (nI 0), .int (nI 0), .ref g28, .ref g29, .int (nI 0), .ref g31, .ref g32, .ref g33])), (g1, .inl (T 0, 282, .inl (upd (fun _ => nI 0) 2 (nI 20))))] H locs := V
  show W p l e _ s m args below meth c H locs _ _ _ (F0 m 10 ls [.int (nI 0)])
  refine lv_if_ne (tgt := 16) hx hb dX8_warm_10 (by decide) (fun c => absurd (show (nI 0) = 0 by decide +kernel) c) (fun _ => ?_)
  refine lv_bipush (v := (-2)) hx hb dX8_warm_13 (by decide +kernel) ?_
  have V := V.sub (ws' := []) [] rfl rfl
  exact g_iret (Qr := (q_pm_warm T o i ht g1 g2 g3 g4 g15 g17 g20 g22 g23 g24 g28 g29 g31 g32 g33)) hC V ⟨(Nat.le_of_ble_eq_true rfl), (Nat.le_of_ble_eq_true rfl)⟩ ⟨(-2), rfl, rfl, rfl⟩ dX8_warm_15

def q_pm_cold (T : Nat → ClassId) (o : Nat) (i : Int32) (g1 : Nat) (g2 : Nat) (g3 : Nat) (g4 : Nat) (g15 : Nat) (g17 : Nat) (g20 : Nat) (g22 : Nat) (g23 : Nat) (g24 : Nat) (g28 : Nat) (g29 : Nat) (g31 : Nat) (g32 : Nat) (g33 : Nat) : Option Value → va_W → Prop := fun rr ww => (∃ (z : Int32), rr = some (.int z) ∧ ww = [] ∧ z = -2)
set_option maxHeartbeats 4000000 in
set_option maxRecDepth 100000 in
theorem pm_cold (l : Launch) (D : va_G) (T : Nat → ClassId) (o : Nat) (i : Int32) (g1 : Nat) (g2 : Nat) (g3 : Nat) (g4 : Nat) (g15 : Nat) (g17 : Nat) (g20 : Nat) (g22 : Nat) (g23 : Nat) (g24 : Nat) (g28 : Nat) (g29 : Nat) (g31 : Nat) (g32 : Nat) (g33 : Nat) : Ct l yX8_cold cX8_cold 4 (some .int) 2 0 0 D T [.ref o, .int i] [(o, .inr (8, [.int (nI 0), .ref g1, .ref g2, .ref g3, .ref g4, .int (nI 0), .int (nI 0), .int (nI 0), .int (nI 0), .int (nI 0), .int (nI 0), .int (nI 0), .int (nI 0), .int (nI 0), .int (-1), .ref g15, .int (nI 0), .ref g17, .int (nI 0), .int (nI 0), .ref g20, .int (nI 0), .ref g22, .ref g23, .ref g24, .int (nI 0), .int (nI 0), .int (nI 0), .ref g28, .ref g29, .int (nI 0), .ref g31, .ref g32, .ref g33])), (g1, .inl (T 0, 282, .inl (upd (fun _ => nI 0) 2 (nI 20))))] (q_pm_cold T o i g1 g2 g3 g4 g15 g17 g20 g22 g23 g24 g28 g29 g31 g32 g33) := by
  refine Ct.of (cc := cX8_cold) (maxL := 4) (ret := (some .int)) (by decide) (Nat.le_of_ble_eq_true rfl) ?_
  intro p e s m args below meth c A ls hC hnm V hl
  obtain ⟨hx, hb, hr, hml, hown, hts, hlocks⟩ := id hC
  generalize hH : s.heap = H at V ⊢
  clear hH
  have hl : lv_has ls 4 [(0, .ref o), (1, .int i)] := hl
  generalize hlo : ([] : List Loc) = locs at V ⊢
  clear hlo
  refine lv_aload_n hx hb dX8_cold_0 rfl (lv_at hl 0 rfl) ?_
  refine lv_iconst (v := (nI 0)) hx hb dX8_cold_1 (by decide +kernel) ?_
  refine g_put hC V (ci := 8) uwX8 tyX8 tyX8_ok nmX8 0 rfl rfl 0 (by decide) w_912 rfl rfl rfl rfl (Nat.le_of_ble_eq_true rfl) (ws' := [(o, .inr (8, [.int (nI 0), .ref g1, .ref g2, .ref g3, .ref g4, .int (nI 0), .int (nI 0), .int (nI 0), .int (nI 0), .int (nI 0), .int (nI 0), .int (nI 0), .int (nI 0), .int (nI 0), .int (-1), .ref g15, .int (nI 0), .ref g17, .int (nI 0), .int (nI 0), .ref g20, .int (nI 0), .ref g22, .ref g23, .ref g24, .int (nI 0), .int (nI 0), .int (nI 0), .ref g28, .ref g29, .int (nI 0), .ref g31, .ref g32, .ref g33])), (g1, .inl (T 0, 282, .inl (upd (fun _ => nI 0) 2 (nI 20))))]) rfl dX8_cold_2 (fun H locs V => ?_)
  refine lv_aload_n hx hb dX8_cold_5 rfl (lv_at hl 0 rfl) ?_
  refine lv_iload_n hx hb dX8_cold_6 rfl (lv_at hl 1 rfl) ?_
  refine g_callV (wr := []) (nA := 1) hC V hl.1 (m_isSmith l D T o i (nI 0) g1 g2 g3 g4 (nI 0) (nI 0) (nI 0) (nI 0) (nI 0) (nI 0) (nI 0) (nI 0) (nI 0) (-1) g15 (nI 0) g17 (nI 0) (nI 0) g20 (nI 0) g22 g23 g24 (nI 0) (nI 0) (nI 0) g28 g29 (nI 0) g31 g32 g33 (upd (fun _ => nI 0) 2 (nI 20)) (by first | rfl | assumption | omega | decide)) w_1083 w_1085 w_s46 w_9 w_1086 (by decide +kernel) rfl ⟨(Nat.le_of_ble_eq_true rfl), (Nat.le_of_ble_eq_true rfl)⟩ 0 (ci := 8) rfl rfl [0, 1] [] rfl rfl rfl rfl (by decide) (Nat.le_of_ble_eq_true rfl) dX8_cold_7 ⟨(Nat.le_of_ble_eq_true rfl), (Nat.le_of_ble_eq_true rfl)⟩ rfl (fun r w1 H locs hQ V => ?_)
  obtain ⟨rfl, rfl⟩ := hQ
  have V : gW D T A s [(o, .inr (8, [.int (nI 0), .ref g1, .ref g2, .ref g3, .ref g4, .int (nI 0), .int (nI 0), .int (nI 0), .int (nI 0), .int (nI 0), .int (nI 0), .int (nI 0), .int (nI 0), .int (nI 0), .int (-1), .ref g15, .int (nI 0), .ref g17, .int (nI 0), .int (nI 0), .ref g20, .int (nI 0), .ref g22, .ref g23, .ref g24, .int (nI 0), .int (nI 0), .int (nI 0), .ref g28, .ref g29, .int (nI 0), .ref g31, .ref g32, .ref g33])), (g1, .inl (T 0, 282, .inl (upd (fun _ => nI 0) 2 (nI 20))))] H locs := V
  show W p l e _ s m args below meth c H locs _ _ _ (F0 m 10 ls [.int (nI 0)])
  refine lv_if_ne (tgt := 16) hx hb dX8_cold_10 (by decide) (fun c => absurd (show (nI 0) = 0 by decide +kernel) c) (fun _ => ?_)
  refine lv_bipush (v := (-2)) hx hb dX8_cold_13 (by decide +kernel) ?_
  have V := V.sub (ws' := []) [] rfl rfl
  exact g_iret (Qr := (q_pm_cold T o i g1 g2 g3 g4 g15 g17 g20 g22 g23 g24 g28 g29 g31 g32 g33)) hC V ⟨(Nat.le_of_ble_eq_true rfl), (Nat.le_of_ble_eq_true rfl)⟩ ⟨(-2), rfl, rfl, rfl⟩ dX8_cold_15

def q_pm_feed (T : Nat → ClassId) (o : Nat) (va : Int32) (vb : Int32) (vc : Int32) (vd : Int32) (ve : Int32) (g1 : Nat) (g2 : Nat) (g3 : Nat) (g4 : Nat) (g15 : Nat) (g17 : Nat) (g20 : Nat) (g22 : Nat) (g23 : Nat) (g24 : Nat) (g28 : Nat) (g29 : Nat) (g31 : Nat) (g32 : Nat) (g33 : Nat) : Option Value → va_W → Prop := fun rr ww => (∃ (z : Int32), rr = some (.int z) ∧ ww = [] ∧ z = nI 20)
set_option maxHeartbeats 4000000 in
set_option maxRecDepth 100000 in
theorem pm_feed (l : Launch) (D : va_G) (T : Nat → ClassId) (o : Nat) (va : Int32) (vb : Int32) (vc : Int32) (vd : Int32) (ve : Int32) (g1 : Nat) (g2 : Nat) (g3 : Nat) (g4 : Nat) (g15 : Nat) (g17 : Nat) (g20 : Nat) (g22 : Nat) (g23 : Nat) (g24 : Nat) (g28 : Nat) (g29 : Nat) (g31 : Nat) (g32 : Nat) (g33 : Nat) : Ct l yX8_feed cX8_feed 8 (some .int) 0 0 0 D T [.ref o, .int va, .int vb, .int vc, .int vd, .int ve] [(o, .inr (8, [.int (nI 0), .ref g1, .ref g2, .ref g3, .ref g4, .int (nI 0), .int (nI 0), .int (nI 0), .int (nI 0), .int (nI 0), .int (nI 0), .int (nI 0), .int (nI 0), .int (nI 0), .int (-1), .ref g15, .int (nI 0), .ref g17, .int (nI 0), .int (nI 0), .ref g20, .int (nI 0), .ref g22, .ref g23, .ref g24, .int (nI 0), .int (nI 0), .int (nI 0), .ref g28, .ref g29, .int (nI 0), .ref g31, .ref g32, .ref g33])), (g3, .inl (T 0, 900, .inl (fun _ => nI 0)))] (q_pm_feed T o va vb vc vd ve g1 g2 g3 g4 g15 g17 g20 g22 g23 g24 g28 g29 g31 g32 g33) := by
  refine Ct.of (cc := cX8_feed) (maxL := 8) (ret := (some .int)) (by decide) (Nat.le_of_ble_eq_true rfl) ?_
  intro p e s m args below meth c A ls hC hnm V hl
  obtain ⟨hx, hb, hr, hml, hown, hts, hlocks⟩ := id hC
  generalize hH : s.heap = H at V ⊢
  clear hH
  have hl : lv_has ls 8 [(0, .ref o), (1, .int va), (2, .int vb), (3, .int vc), (4, .int vd), (5, .int ve)] := hl
  generalize hlo : ([] : List Loc) = locs at V ⊢
  clear hlo
  refine lv_aload_n hx hb dX8_feed_0 rfl (lv_at hl 0 rfl) ?_
  refine lv_iconst (v := (nI 0)) hx hb dX8_feed_1 (by decide +kernel) ?_
  refine g_put hC V (ci := 8) uwX8 tyX8 tyX8_ok nmX8 0 rfl rfl 0 (by decide) w_912 rfl rfl rfl rfl (Nat.le_of_ble_eq_true rfl) (ws' := [(o, .inr (8, [.int (nI 0), .ref g1, .ref g2, .ref g3, .ref g4, .int (nI 0), .int (nI 0), .int (nI 0), .int (nI 0), .int (nI 0), .int (nI 0), .int (nI 0), .int (nI 0), .int (nI 0), .int (-1), .ref g15, .int (nI 0), .ref g17, .int (nI 0), .int (nI 0), .ref g20, .int (nI 0), .ref g22, .ref g23, .ref g24, .int (nI 0), .int (nI 0), .int (nI 0), .ref g28, .ref g29, .int (nI 0), .ref g31, .ref g32, .ref g33])), (g3, .inl (T 0, 900, .inl (fun _ => nI 0)))]) rfl dX8_feed_2 (fun H locs V => ?_)
  refine lv_aload_n hx hb dX8_feed_5 rfl (lv_at hl 0 rfl) ?_
  refine g_get hC V (ci := 8) uwX8 0 rfl rfl 5 (by decide) w_917 rfl rfl dX8_feed_6 ?_
  refine lv_bipush (v := (nI 20)) hx hb dX8_feed_9 (by decide +kernel) ?_
  refine lv_iadd hx hb dX8_feed_11 ?_
  refine g_vi (y := (nI 20)) (by decide +kernel) ?_
  refine lv_sipush (v := (nI 900)) hx hb dX8_feed_12 (by decide +kernel) ?_
  refine lv_icmp_le (tgt := 21) hx hb dX8_feed_15 (by decide) (fun _ => ?_) (fun c => absurd (show (nI 20) ≤ (nI 900) by first | rfl | decide +kernel) c)
  refine lv_iconst (v := (nI 0)) hx hb dX8_feed_21 (by decide +kernel) ?_
  refine lv_istore (lv' := [(6, .int (nI 0)), (0, .ref o), (1, .int va), (2, .int vb), (3, .int vc), (4, .int vd), (5, .int ve)]) hx hb dX8_feed_22 hl (by decide) rfl (fun ls hl => ?_)
  have L_1 : ∀ (fu : Nat) (k : Nat) (f : Nat → Int32), k ≤ 20 → 20 - k < fu → ∀ (H : Heap) (locs : List Loc) (ls : Array Slot), gW D T A s [(o, .inr (8, [.int (nI 0), .ref g1, .ref g2, .ref g3, .ref g4, .int (nI k), .int (nI 0), .int (nI 0), .int (nI 0), .int (nI 0), .int (nI 0), .int (nI 0), .int (nI 0), .int (nI 0), .int (-1), .ref g15, .int (nI 0), .ref g17, .int (nI 0), .int (nI 0), .ref g20, .int (nI 0), .ref g22, .ref g23, .ref g24, .int (nI 0), .int (nI 0), .int (nI 0), .ref g28, .ref g29, .int (nI 0), .ref g31, .ref g32, .ref g33])), (g3, .inl (T 0, 900, .inl f))] H locs → lv_has ls 8 [(6, .int (nI k)), (0, .ref o), (1, .int va), (2, .int vb), (3, .int vc), (4, .int vd), (5, .int ve)] → W p l e (rmD 0 0 0) s m args below meth c H locs 0 0 (MQ below (gQ D A (q_pm_feed T o va vb vc vd ve g1 g2 g3 g4 g15 g17 g20 g22 g23 g24 g28 g29 g31 g32 g33)) args s 0 0 A) (F0 m 24 ls []) := by
    intro fu
    induction fu with
    | zero => intro k f hk hmu; exact absurd hmu (Nat.not_lt_zero _)
    | succ fu ih =>
      intro k f hk hmu H locs ls V hl
      refine lv_iload hx hb dX8_feed_24 (lv_at hl 0 rfl) ?_
      refine lv_bipush (v := (nI 20)) hx hb dX8_feed_26 (by decide +kernel) ?_
      refine lv_icmp_ge (tgt := 121) hx hb dX8_feed_28 (by decide) (fun c_2 => ?_) (fun c_2 => ?_)
      · skip
        have c_2 := b_le (by omega) (by omega) c_2
        refine lv_aload_n hx hb dX8_feed_121 rfl (lv_at hl 1 rfl) ?_
        refine g_get hC V (ci := 8) uwX8 0 rfl rfl 5 (by decide) w_917 rfl rfl dX8_feed_122 ?_
        have V := V.sub (ws' := []) [] rfl rfl
        exact g_iret (Qr := (q_pm_feed T o va vb vc vd ve g1 g2 g3 g4 g15 g17 g20 g22 g23 g24 g28 g29 g31 g32 g33)) hC V ⟨(Nat.le_of_ble_eq_true rfl), (Nat.le_of_ble_eq_true rfl)⟩ ⟨(nI k), rfl, rfl, (congrArg nI (by omega))⟩ dX8_feed_125
      · skip
        have c_2 := b_nle (by omega) (by omega) c_2
        refine lv_iload hx hb dX8_feed_31 (lv_at hl 0 rfl) ?_
        refine lv_iconst (v := (nI 4)) hx hb dX8_feed_33 (by decide +kernel) ?_
        refine lv_icmp_ge (tgt := 41) hx hb dX8_feed_34 (by decide) (fun c_3 => ?_) (fun c_3 => ?_)
        · skip
          have c_3 := b_le (by omega) (by omega) c_3
          refine lv_iload hx hb dX8_feed_41 (lv_at hl 0 rfl) ?_
          refine lv_bipush (v := (nI 8)) hx hb dX8_feed_43 (by decide +kernel) ?_
          refine lv_icmp_ge (tgt := 52) hx hb dX8_feed_45 (by decide) (fun c_4 => ?_) (fun c_4 => ?_)
          · skip
            have c_4 := b_le (by omega) (by omega) c_4
            refine lv_iload hx hb dX8_feed_52 (lv_at hl 0 rfl) ?_
            refine lv_bipush (v := (nI 12)) hx hb dX8_feed_54 (by decide +kernel) ?_
            refine lv_icmp_ge (tgt := 63) hx hb dX8_feed_56 (by decide) (fun c_5 => ?_) (fun c_5 => ?_)
            · skip
              have c_5 := b_le (by omega) (by omega) c_5
              refine lv_iload hx hb dX8_feed_63 (lv_at hl 0 rfl) ?_
              refine lv_bipush (v := (nI 16)) hx hb dX8_feed_65 (by decide +kernel) ?_
              refine lv_icmp_ge (tgt := 75) hx hb dX8_feed_67 (by decide) (fun c_6 => ?_) (fun c_6 => ?_)
              · skip
                have c_6 := b_le (by omega) (by omega) c_6
                refine lv_iload hx hb dX8_feed_75 (lv_at hl 6 rfl) ?_
                refine lv_istore (lv' := [(7, .int ve), (6, .int (nI k)), (0, .ref o), (1, .int va), (2, .int vb), (3, .int vc), (4, .int vd), (5, .int ve)]) hx hb dX8_feed_77 hl (by decide) rfl (fun ls hl => ?_)
                refine lv_aload_n hx hb dX8_feed_79 rfl (lv_at hl 2 rfl) ?_
                refine g_get hC V (ci := 8) uwX8 0 rfl rfl 3 (by decide) w_915 rfl rfl dX8_feed_80 ?_
                refine lv_aload_n hx hb dX8_feed_83 rfl (lv_at hl 2 rfl) ?_
                refine g_get hC V (ci := 8) uwX8 0 rfl rfl 5 (by decide) w_917 rfl rfl dX8_feed_84 ?_
                refine lv_iload hx hb dX8_feed_87 (lv_at hl 0 rfl) ?_
                refine lv_bipush (v := (nI 24)) hx hb dX8_feed_89 (by decide +kernel) ?_
                refine lv_bipush (v := (nI 8)) hx hb dX8_feed_91 (by decide +kernel) ?_
                refine lv_iload hx hb dX8_feed_93 (lv_at hl 1 rfl) ?_
                refine lv_iconst (v := (nI 4)) hx hb dX8_feed_95 (by decide +kernel) ?_
                refine lv_irem hx hb dX8_feed_96 (by decide +kernel) ?_
                refine lv_imul hx hb dX8_feed_97 ?_
                refine lv_isub hx hb dX8_feed_98 ?_
                refine lv_ishr hx hb dX8_feed_99 ?_
                refine lv_topi (fun x_7 ex_7 => ?_)
                refine lv_sipush (v := (nI 255)) hx hb dX8_feed_100 (by decide +kernel) ?_
                refine lv_iand hx hb dX8_feed_103 ?_
                refine g_iast hC V 1 rfl (vp_in_nI (by omega) (by omega)) (f' := (upd f k (x_7 &&& (nI 255)))) (by rw [nI_clamp (by omega)]) (ws' := [(o, .inr (8, [.int (nI 0), .ref g1, .ref g2, .ref g3, .ref g4, .int (nI k), .int (nI 0), .int (nI 0), .int (nI 0), .int (nI 0), .int (nI 0), .int (nI 0), .int (nI 0), .int (nI 0), .int (-1), .ref g15, .int (nI 0), .ref g17, .int (nI 0), .int (nI 0), .ref g20, .int (nI 0), .ref g22, .ref g23, .ref g24, .int (nI 0), .int (nI 0), .int (nI 0), .ref g28, .ref g29, .int (nI 0), .ref g31, .ref g32, .ref g33])), (g3, .inl (T 0, 900, .inl (upd f k (x_7 &&& (nI 255)))))]) rfl dX8_feed_104 (fun H locs V => ?_)
                refine lv_aload_n hx hb dX8_feed_105 rfl (lv_at hl 2 rfl) ?_
                refine lv_dup hx hb dX8_feed_106 rfl ?_
                refine g_get hC V (ci := 8) uwX8 0 rfl rfl 5 (by decide) w_917 rfl rfl dX8_feed_107 ?_
                refine lv_iconst (v := (nI 1)) hx hb dX8_feed_110 (by decide +kernel) ?_
                refine lv_iadd hx hb dX8_feed_111 ?_
                refine g_vi (y := (nI (k + 1))) (nI_add _ _) ?_
                refine g_put hC V (ci := 8) uwX8 tyX8 tyX8_ok nmX8 0 rfl rfl 5 (by decide) w_917 rfl rfl rfl rfl (Nat.le_of_ble_eq_true rfl) (ws' := [(o, .inr (8, [.int (nI 0), .ref g1, .ref g2, .ref g3, .ref g4, .int (nI (k + 1)), .int (nI 0), .int (nI 0), .int (nI 0), .int (nI 0), .int (nI 0), .int (nI 0), .int (nI 0), .int (nI 0), .int (-1), .ref g15, .int (nI 0), .ref g17, .int (nI 0), .int (nI 0), .ref g20, .int (nI 0), .ref g22, .ref g23, .ref g24, .int (nI 0), .int (nI 0), .int (nI 0), .ref g28, .ref g29, .int (nI 0), .ref g31, .ref g32, .ref g33])), (g3, .inl (T 0, 900, .inl (upd f k (x_7 &&& (nI 255)))))]) rfl dX8_feed_112 (fun H locs V => ?_)
                refine lv_iinc (v := (nI (k + 1))) (lv' := [(6, .int (nI (k + 1))), (7, .int ve), (0, .ref o), (1, .int va), (2, .int vb), (3, .int vc), (4, .int vd), (5, .int ve)]) hx hb dX8_feed_115 hl (k := 1) rfl (nI_1 _) (by decide) rfl (fun ls hl => ?_)
                refine lv_goto (tgt := 24) hx hb dX8_feed_118 (by decide) ?_
                exact ih (k + 1) (upd f k (x_7 &&& (nI 255))) (by omega) (by omega) _ _ _ V (lv_sub hl [0, 2, 3, 4, 5, 6, 7] rfl)
              · skip
                have c_6 := b_nle (by omega) (by omega) c_6
                refine lv_iload hx hb dX8_feed_70 (lv_at hl 5 rfl) ?_
                refine lv_goto (tgt := 77) hx hb dX8_feed_72 (by decide) ?_
                refine lv_istore (lv' := [(7, .int vd), (6, .int (nI k)), (0, .ref o), (1, .int va), (2, .int vb), (3, .int vc), (4, .int vd), (5, .int ve)]) hx hb dX8_feed_77 hl (by decide) rfl (fun ls hl => ?_)
                refine lv_aload_n hx hb dX8_feed_79 rfl (lv_at hl 2 rfl) ?_
                refine g_get hC V (ci := 8) uwX8 0 rfl rfl 3 (by decide) w_915 rfl rfl dX8_feed_80 ?_
                refine lv_aload_n hx hb dX8_feed_83 rfl (lv_at hl 2 rfl) ?_
                refine g_get hC V (ci := 8) uwX8 0 rfl rfl 5 (by decide) w_917 rfl rfl dX8_feed_84 ?_
                refine lv_iload hx hb dX8_feed_87 (lv_at hl 0 rfl) ?_
                refine lv_bipush (v := (nI 24)) hx hb dX8_feed_89 (by decide +kernel) ?_
                refine lv_bipush (v := (nI 8)) hx hb dX8_feed_91 (by decide +kernel) ?_
                refine lv_iload hx hb dX8_feed_93 (lv_at hl 1 rfl) ?_
                refine lv_iconst (v := (nI 4)) hx hb dX8_feed_95 (by decide +kernel) ?_
                refine lv_irem hx hb dX8_feed_96 (by decide +kernel) ?_
                refine lv_imul hx hb dX8_feed_97 ?_
                refine lv_isub hx hb dX8_feed_98 ?_
                refine lv_ishr hx hb dX8_feed_99 ?_
                refine lv_topi (fun x_8 ex_8 => ?_)
                refine lv_sipush (v := (nI 255)) hx hb dX8_feed_100 (by decide +kernel) ?_
                refine lv_iand hx hb dX8_feed_103 ?_
                refine g_iast hC V 1 rfl (vp_in_nI (by omega) (by omega)) (f' := (upd f k (x_8 &&& (nI 255)))) (by rw [nI_clamp (by omega)]) (ws' := [(o, .inr (8, [.int (nI 0), .ref g1, .ref g2, .ref g3, .ref g4, .int (nI k), .int (nI 0), .int (nI 0), .int (nI 0), .int (nI 0), .int (nI 0), .int (nI 0), .int (nI 0), .int (nI 0), .int (-1), .ref g15, .int (nI 0), .ref g17, .int (nI 0), .int (nI 0), .ref g20, .int (nI 0), .ref g22, .ref g23, .ref g24, .int (nI 0), .int (nI 0), .int (nI 0), .ref g28, .ref g29, .int (nI 0), .ref g31, .ref g32, .ref g33])), (g3, .inl (T 0, 900, .inl (upd f k (x_8 &&& (nI 255)))))]) rfl dX8_feed_104 (fun H locs V => ?_)
                refine lv_aload_n hx hb dX8_feed_105 rfl (lv_at hl 2 rfl) ?_
                refine lv_dup hx hb dX8_feed_106 rfl ?_
                refine g_get hC V (ci := 8) uwX8 0 rfl rfl 5 (by decide) w_917 rfl rfl dX8_feed_107 ?_
                refine lv_iconst (v := (nI 1)) hx hb dX8_feed_110 (by decide +kernel) ?_
                refine lv_iadd hx hb dX8_feed_111 ?_
                refine g_vi (y := (nI (k + 1))) (nI_add _ _) ?_
                refine g_put hC V (ci := 8) uwX8 tyX8 tyX8_ok nmX8 0 rfl rfl 5 (by decide) w_917 rfl rfl rfl rfl (Nat.le_of_ble_eq_true rfl) (ws' := [(o, .inr (8, [.int (nI 0), .ref g1, .ref g2, .ref g3, .ref g4, .int (nI (k + 1)), .int (nI 0), .int (nI 0), .int (nI 0), .int (nI 0), .int (nI 0), .int (nI 0), .int (nI 0), .int (nI 0), .int (-1), .ref g15, .int (nI 0), .ref g17, .int (nI 0), .int (nI 0), .ref g20, .int (nI 0), .ref g22, .ref g23, .ref g24, .int (nI 0), .int (nI 0), .int (nI 0), .ref g28, .ref g29, .int (nI 0), .ref g31, .ref g32, .ref g33])), (g3, .inl (T 0, 900, .inl (upd f k (x_8 &&& (nI 255)))))]) rfl dX8_feed_112 (fun H locs V => ?_)
                refine lv_iinc (v := (nI (k + 1))) (lv' := [(6, .int (nI (k + 1))), (7, .int vd), (0, .ref o), (1, .int va), (2, .int vb), (3, .int vc), (4, .int vd), (5, .int ve)]) hx hb dX8_feed_115 hl (k := 1) rfl (nI_1 _) (by decide) rfl (fun ls hl => ?_)
                refine lv_goto (tgt := 24) hx hb dX8_feed_118 (by decide) ?_
                exact ih (k + 1) (upd f k (x_8 &&& (nI 255))) (by omega) (by omega) _ _ _ V (lv_sub hl [0, 2, 3, 4, 5, 6, 7] rfl)
            · skip
              have c_5 := b_nle (by omega) (by omega) c_5
              refine lv_iload_n hx hb dX8_feed_59 rfl (lv_at hl 4 rfl) ?_
              refine lv_goto (tgt := 77) hx hb dX8_feed_60 (by decide) ?_
              refine lv_istore (lv' := [(7, .int vc), (6, .int (nI k)), (0, .ref o), (1, .int va), (2, .int vb), (3, .int vc), (4, .int vd), (5, .int ve)]) hx hb dX8_feed_77 hl (by decide) rfl (fun ls hl => ?_)
              refine lv_aload_n hx hb dX8_feed_79 rfl (lv_at hl 2 rfl) ?_
              refine g_get hC V (ci := 8) uwX8 0 rfl rfl 3 (by decide) w_915 rfl rfl dX8_feed_80 ?_
              refine lv_aload_n hx hb dX8_feed_83 rfl (lv_at hl 2 rfl) ?_
              refine g_get hC V (ci := 8) uwX8 0 rfl rfl 5 (by decide) w_917 rfl rfl dX8_feed_84 ?_
              refine lv_iload hx hb dX8_feed_87 (lv_at hl 0 rfl) ?_
              refine lv_bipush (v := (nI 24)) hx hb dX8_feed_89 (by decide +kernel) ?_
              refine lv_bipush (v := (nI 8)) hx hb dX8_feed_91 (by decide +kernel) ?_
              refine lv_iload hx hb dX8_feed_93 (lv_at hl 1 rfl) ?_
              refine lv_iconst (v := (nI 4)) hx hb dX8_feed_95 (by decide +kernel) ?_
              refine lv_irem hx hb dX8_feed_96 (by decide +kernel) ?_
              refine lv_imul hx hb dX8_feed_97 ?_
              refine lv_isub hx hb dX8_feed_98 ?_
              refine lv_ishr hx hb dX8_feed_99 ?_
              refine lv_topi (fun x_9 ex_9 => ?_)
              refine lv_sipush (v := (nI 255)) hx hb dX8_feed_100 (by decide +kernel) ?_
              refine lv_iand hx hb dX8_feed_103 ?_
              refine g_iast hC V 1 rfl (vp_in_nI (by omega) (by omega)) (f' := (upd f k (x_9 &&& (nI 255)))) (by rw [nI_clamp (by omega)]) (ws' := [(o, .inr (8, [.int (nI 0), .ref g1, .ref g2, .ref g3, .ref g4, .int (nI k), .int (nI 0), .int (nI 0), .int (nI 0), .int (nI 0), .int (nI 0), .int (nI 0), .int (nI 0), .int (nI 0), .int (-1), .ref g15, .int (nI 0), .ref g17, .int (nI 0), .int (nI 0), .ref g20, .int (nI 0), .ref g22, .ref g23, .ref g24, .int (nI 0), .int (nI 0), .int (nI 0), .ref g28, .ref g29, .int (nI 0), .ref g31, .ref g32, .ref g33])), (g3, .inl (T 0, 900, .inl (upd f k (x_9 &&& (nI 255)))))]) rfl dX8_feed_104 (fun H locs V => ?_)
              refine lv_aload_n hx hb dX8_feed_105 rfl (lv_at hl 2 rfl) ?_
              refine lv_dup hx hb dX8_feed_106 rfl ?_
              refine g_get hC V (ci := 8) uwX8 0 rfl rfl 5 (by decide) w_917 rfl rfl dX8_feed_107 ?_
              refine lv_iconst (v := (nI 1)) hx hb dX8_feed_110 (by decide +kernel) ?_
              refine lv_iadd hx hb dX8_feed_111 ?_
              refine g_vi (y := (nI (k + 1))) (nI_add _ _) ?_
              refine g_put hC V (ci := 8) uwX8 tyX8 tyX8_ok nmX8 0 rfl rfl 5 (by decide) w_917 rfl rfl rfl rfl (Nat.le_of_ble_eq_true rfl) (ws' := [(o, .inr (8, [.int (nI 0), .ref g1, .ref g2, .ref g3, .ref g4, .int (nI (k + 1)), .int (nI 0), .int (nI 0), .int (nI 0), .int (nI 0), .int (nI 0), .int (nI 0), .int (nI 0), .int (nI 0), .int (-1), .ref g15, .int (nI 0), .ref g17, .int (nI 0), .int (nI 0), .ref g20, .int (nI 0), .ref g22, .ref g23, .ref g24, .int (nI 0), .int (nI 0), .int (nI 0), .ref g28, .ref g29, .int (nI 0), .ref g31, .ref g32, .ref g33])), (g3, .inl (T 0, 900, .inl (upd f k (x_9 &&& (nI 255)))))]) rfl dX8_feed_112 (fun H locs V => ?_)
              refine lv_iinc (v := (nI (k + 1))) (lv' := [(6, .int (nI (k + 1))), (7, .int vc), (0, .ref o), (1, .int va), (2, .int vb), (3, .int vc), (4, .int vd), (5, .int ve)]) hx hb dX8_feed_115 hl (k := 1) rfl (nI_1 _) (by decide) rfl (fun ls hl => ?_)
              refine lv_goto (tgt := 24) hx hb dX8_feed_118 (by decide) ?_
              exact ih (k + 1) (upd f k (x_9 &&& (nI 255))) (by omega) (by omega) _ _ _ V (lv_sub hl [0, 2, 3, 4, 5, 6, 7] rfl)
          · skip
            have c_4 := b_nle (by omega) (by omega) c_4
            refine lv_iload_n hx hb dX8_feed_48 rfl (lv_at hl 3 rfl) ?_
            refine lv_goto (tgt := 77) hx hb dX8_feed_49 (by decide) ?_
            refine lv_istore (lv' := [(7, .int vb), (6, .int (nI k)), (0, .ref o), (1, .int va), (2, .int vb), (3, .int vc), (4, .int vd), (5, .int ve)]) hx hb dX8_feed_77 hl (by decide) rfl (fun ls hl => ?_)
            refine lv_aload_n hx hb dX8_feed_79 rfl (lv_at hl 2 rfl) ?_
            refine g_get hC V (ci := 8) uwX8 0 rfl rfl 3 (by decide) w_915 rfl rfl dX8_feed_80 ?_
            refine lv_aload_n hx hb dX8_feed_83 rfl (lv_at hl 2 rfl) ?_
            refine g_get hC V (ci := 8) uwX8 0 rfl rfl 5 (by decide) w_917 rfl rfl dX8_feed_84 ?_
            refine lv_iload hx hb dX8_feed_87 (lv_at hl 0 rfl) ?_
            refine lv_bipush (v := (nI 24)) hx hb dX8_feed_89 (by decide +kernel) ?_
            refine lv_bipush (v := (nI 8)) hx hb dX8_feed_91 (by decide +kernel) ?_
            refine lv_iload hx hb dX8_feed_93 (lv_at hl 1 rfl) ?_
            refine lv_iconst (v := (nI 4)) hx hb dX8_feed_95 (by decide +kernel) ?_
            refine lv_irem hx hb dX8_feed_96 (by decide +kernel) ?_
            refine lv_imul hx hb dX8_feed_97 ?_
            refine lv_isub hx hb dX8_feed_98 ?_
            refine lv_ishr hx hb dX8_feed_99 ?_
            refine lv_topi (fun x_10 ex_10 => ?_)
            refine lv_sipush (v := (nI 255)) hx hb dX8_feed_100 (by decide +kernel) ?_
            refine lv_iand hx hb dX8_feed_103 ?_
            refine g_iast hC V 1 rfl (vp_in_nI (by omega) (by omega)) (f' := (upd f k (x_10 &&& (nI 255)))) (by rw [nI_clamp (by omega)]) (ws' := [(o, .inr (8, [.int (nI 0), .ref g1, .ref g2, .ref g3, .ref g4, .int (nI k), .int (nI 0), .int (nI 0), .int (nI 0), .int (nI 0), .int (nI 0), .int (nI 0), .int (nI 0), .int (nI 0), .int (-1), .ref g15, .int (nI 0), .ref g17, .int (nI 0), .int (nI 0), .ref g20, .int (nI 0), .ref g22, .ref g23, .ref g24, .int (nI 0), .int (nI 0), .int (nI 0), .ref g28, .ref g29, .int (nI 0), .ref g31, .ref g32, .ref g33])), (g3, .inl (T 0, 900, .inl (upd f k (x_10 &&& (nI 255)))))]) rfl dX8_feed_104 (fun H locs V => ?_)
            refine lv_aload_n hx hb dX8_feed_105 rfl (lv_at hl 2 rfl) ?_
            refine lv_dup hx hb dX8_feed_106 rfl ?_
            refine g_get hC V (ci := 8) uwX8 0 rfl rfl 5 (by decide) w_917 rfl rfl dX8_feed_107 ?_
            refine lv_iconst (v := (nI 1)) hx hb dX8_feed_110 (by decide +kernel) ?_
            refine lv_iadd hx hb dX8_feed_111 ?_
            refine g_vi (y := (nI (k + 1))) (nI_add _ _) ?_
            refine g_put hC V (ci := 8) uwX8 tyX8 tyX8_ok nmX8 0 rfl rfl 5 (by decide) w_917 rfl rfl rfl rfl (Nat.le_of_ble_eq_true rfl) (ws' := [(o, .inr (8, [.int (nI 0), .ref g1, .ref g2, .ref g3, .ref g4, .int (nI (k + 1)), .int (nI 0), .int (nI 0), .int (nI 0), .int (nI 0), .int (nI 0), .int (nI 0), .int (nI 0), .int (nI 0), .int (-1), .ref g15, .int (nI 0), .ref g17, .int (nI 0), .int (nI 0), .ref g20, .int (nI 0), .ref g22, .ref g23, .ref g24, .int (nI 0), .int (nI 0), .int (nI 0), .ref g28, .ref g29, .int (nI 0), .ref g31, .ref g32, .ref g33])), (g3, .inl (T 0, 900, .inl (upd f k (x_10 &&& (nI 255)))))]) rfl dX8_feed_112 (fun H locs V => ?_)
            refine lv_iinc (v := (nI (k + 1))) (lv' := [(6, .int (nI (k + 1))), (7, .int vb), (0, .ref o), (1, .int va), (2, .int vb), (3, .int vc), (4, .int vd), (5, .int ve)]) hx hb dX8_feed_115 hl (k := 1) rfl (nI_1 _) (by decide) rfl (fun ls hl => ?_)
            refine lv_goto (tgt := 24) hx hb dX8_feed_118 (by decide) ?_
            exact ih (k + 1) (upd f k (x_10 &&& (nI 255))) (by omega) (by omega) _ _ _ V (lv_sub hl [0, 2, 3, 4, 5, 6, 7] rfl)
        · skip
          have c_3 := b_nle (by omega) (by omega) c_3
          refine lv_iload_n hx hb dX8_feed_37 rfl (lv_at hl 2 rfl) ?_
          refine lv_goto (tgt := 77) hx hb dX8_feed_38 (by decide) ?_
          refine lv_istore (lv' := [(7, .int va), (6, .int (nI k)), (0, .ref o), (1, .int va), (2, .int vb), (3, .int vc), (4, .int vd), (5, .int ve)]) hx hb dX8_feed_77 hl (by decide) rfl (fun ls hl => ?_)
          refine lv_aload_n hx hb dX8_feed_79 rfl (lv_at hl 2 rfl) ?_
          refine g_get hC V (ci := 8) uwX8 0 rfl rfl 3 (by decide) w_915 rfl rfl dX8_feed_80 ?_
          refine lv_aload_n hx hb dX8_feed_83 rfl (lv_at hl 2 rfl) ?_
          refine g_get hC V (ci := 8) uwX8 0 rfl rfl 5 (by decide) w_917 rfl rfl dX8_feed_84 ?_
          refine lv_iload hx hb dX8_feed_87 (lv_at hl 0 rfl) ?_
          refine lv_bipush (v := (nI 24)) hx hb dX8_feed_89 (by decide +kernel) ?_
          refine lv_bipush (v := (nI 8)) hx hb dX8_feed_91 (by decide +kernel) ?_
          refine lv_iload hx hb dX8_feed_93 (lv_at hl 1 rfl) ?_
          refine lv_iconst (v := (nI 4)) hx hb dX8_feed_95 (by decide +kernel) ?_
          refine lv_irem hx hb dX8_feed_96 (by decide +kernel) ?_
          refine lv_imul hx hb dX8_feed_97 ?_
          refine lv_isub hx hb dX8_feed_98 ?_
          refine lv_ishr hx hb dX8_feed_99 ?_
          refine lv_topi (fun x_11 ex_11 => ?_)
          refine lv_sipush (v := (nI 255)) hx hb dX8_feed_100 (by decide +kernel) ?_
          refine lv_iand hx hb dX8_feed_103 ?_
          refine g_iast hC V 1 rfl (vp_in_nI (by omega) (by omega)) (f' := (upd f k (x_11 &&& (nI 255)))) (by rw [nI_clamp (by omega)]) (ws' := [(o, .inr (8, [.int (nI 0), .ref g1, .ref g2, .ref g3, .ref g4, .int (nI k), .int (nI 0), .int (nI 0), .int (nI 0), .int (nI 0), .int (nI 0), .int (nI 0), .int (nI 0), .int (nI 0), .int (-1), .ref g15, .int (nI 0), .ref g17, .int (nI 0), .int (nI 0), .ref g20, .int (nI 0), .ref g22, .ref g23, .ref g24, .int (nI 0), .int (nI 0), .int (nI 0), .ref g28, .ref g29, .int (nI 0), .ref g31, .ref g32, .ref g33])), (g3, .inl (T 0, 900, .inl (upd f k (x_11 &&& (nI 255)))))]) rfl dX8_feed_104 (fun H locs V => ?_)
          refine lv_aload_n hx hb dX8_feed_105 rfl (lv_at hl 2 rfl) ?_
          refine lv_dup hx hb dX8_feed_106 rfl ?_
          refine g_get hC V (ci := 8) uwX8 0 rfl rfl 5 (by decide) w_917 rfl rfl dX8_feed_107 ?_
          refine lv_iconst (v := (nI 1)) hx hb dX8_feed_110 (by decide +kernel) ?_
          refine lv_iadd hx hb dX8_feed_111 ?_
          refine g_vi (y := (nI (k + 1))) (nI_add _ _) ?_
          refine g_put hC V (ci := 8) uwX8 tyX8 tyX8_ok nmX8 0 rfl rfl 5 (by decide) w_917 rfl rfl rfl rfl (Nat.le_of_ble_eq_true rfl) (ws' := [(o, .inr (8, [.int (nI 0), .ref g1, .ref g2, .ref g3, .ref g4, .int (nI (k + 1)), .int (nI 0), .int (nI 0), .int (nI 0), .int (nI 0), .int (nI 0), .int (nI 0), .int (nI 0), .int (nI 0), .int (-1), .ref g15, .int (nI 0), .ref g17, .int (nI 0), .int (nI 0), .ref g20, .int (nI 0), .ref g22, .ref g23, .ref g24, .int (nI 0), .int (nI 0), .int (nI 0), .ref g28, .ref g29, .int (nI 0), .ref g31, .ref g32, .ref g33])), (g3, .inl (T 0, 900, .inl (upd f k (x_11 &&& (nI 255)))))]) rfl dX8_feed_112 (fun H locs V => ?_)
          refine lv_iinc (v := (nI (k + 1))) (lv' := [(6, .int (nI (k + 1))), (7, .int va), (0, .ref o), (1, .int va), (2, .int vb), (3, .int vc), (4, .int vd), (5, .int ve)]) hx hb dX8_feed_115 hl (k := 1) rfl (nI_1 _) (by decide) rfl (fun ls hl => ?_)
          refine lv_goto (tgt := 24) hx hb dX8_feed_118 (by decide) ?_
          exact ih (k + 1) (upd f k (x_11 &&& (nI 255))) (by omega) (by omega) _ _ _ V (lv_sub hl [0, 2, 3, 4, 5, 6, 7] rfl)
  exact L_1 _ 0 (fun _ => nI 0) (Nat.zero_le _) (Nat.lt_succ_self _) _ _ _ V (lv_sub hl [0, 1, 2, 3, 4, 5, 6] rfl)

def q_pm_fault (T : Nat → ClassId) (o : Nat) (wh : Int32) (g1 : Nat) (g2 : Nat) (g3 : Nat) (g4 : Nat) (g15 : Nat) (g17 : Nat) (g20 : Nat) (g22 : Nat) (g23 : Nat) (g24 : Nat) (g28 : Nat) (g29 : Nat) (g31 : Nat) (g32 : Nat) (g33 : Nat) : Option Value → va_W → Prop := fun rr ww => (∃ (z : Int32), rr = some (.int z) ∧ ww = [] ∧ z = pf_fault wh)
set_option maxHeartbeats 4000000 in
set_option maxRecDepth 100000 in
theorem pm_fault (l : Launch) (D : va_G) (T : Nat → ClassId) (o : Nat) (wh : Int32) (g1 : Nat) (g2 : Nat) (g3 : Nat) (g4 : Nat) (g15 : Nat) (g17 : Nat) (g20 : Nat) (g22 : Nat) (g23 : Nat) (g24 : Nat) (g28 : Nat) (g29 : Nat) (g31 : Nat) (g32 : Nat) (g33 : Nat) : Ct l yX8_fault cX8_fault 2 (some .int) 0 0 0 D T [.ref o, .int wh] [(o, .inr (8, [.int (nI 0), .ref g1, .ref g2, .ref g3, .ref g4, .int (nI 0), .int (nI 0), .int (nI 0), .int (nI 0), .int (nI 0), .int (nI 0), .int (nI 0), .int (nI 0), .int (nI 0), .int (-1), .ref g15, .int (nI 0), .ref g17, .int (nI 0), .int (nI 0), .ref g20, .int (nI 0), .ref g22, .ref g23, .ref g24, .int (nI 0), .int (nI 0), .int (nI 0), .ref g28, .ref g29, .int (nI 0), .ref g31, .ref g32, .ref g33]))] (q_pm_fault T o wh g1 g2 g3 g4 g15 g17 g20 g22 g23 g24 g28 g29 g31 g32 g33) := by
  refine Ct.of (cc := cX8_fault) (maxL := 2) (ret := (some .int)) (by decide) (Nat.le_of_ble_eq_true rfl) ?_
  intro p e s m args below meth c A ls hC hnm V hl
  obtain ⟨hx, hb, hr, hml, hown, hts, hlocks⟩ := id hC
  generalize hH : s.heap = H at V ⊢
  clear hH
  have hl : lv_has ls 2 [(0, .ref o), (1, .int wh)] := hl
  generalize hlo : ([] : List Loc) = locs at V ⊢
  clear hlo
  refine lv_aload_n hx hb dX8_fault_0 rfl (lv_at hl 0 rfl) ?_
  refine lv_iconst (v := (nI 0)) hx hb dX8_fault_1 (by decide +kernel) ?_
  refine g_put hC V (ci := 8) uwX8 tyX8 tyX8_ok nmX8 0 rfl rfl 0 (by decide) w_912 rfl rfl rfl rfl (Nat.le_of_ble_eq_true rfl) (ws' := [(o, .inr (8, [.int (nI 0), .ref g1, .ref g2, .ref g3, .ref g4, .int (nI 0), .int (nI 0), .int (nI 0), .int (nI 0), .int (nI 0), .int (nI 0), .int (nI 0), .int (nI 0), .int (nI 0), .int (-1), .ref g15, .int (nI 0), .ref g17, .int (nI 0), .int (nI 0), .ref g20, .int (nI 0), .ref g22, .ref g23, .ref g24, .int (nI 0), .int (nI 0), .int (nI 0), .ref g28, .ref g29, .int (nI 0), .ref g31, .ref g32, .ref g33]))]) rfl dX8_fault_2 (fun H locs V => ?_)
  refine lv_iload_n hx hb dX8_fault_5 rfl (lv_at hl 1 rfl) ?_
  refine lv_if_ne (tgt := 16) hx hb dX8_fault_6 (by decide) (fun c_1 => ?_) (fun c_1 => ?_)
  · skip
    refine lv_iload_n hx hb dX8_fault_16 rfl (lv_at hl 1 rfl) ?_
    refine lv_iconst (v := (nI 1)) hx hb dX8_fault_17 (by decide +kernel) ?_
    refine lv_icmp_ne (tgt := 28) hx hb dX8_fault_18 (by decide) (fun c_2 => ?_) (fun c_2 => ?_)
    · skip
      refine lv_iconst (v := (-1)) hx hb dX8_fault_28 (by decide +kernel) ?_
      have V := V.sub (ws' := []) [] rfl rfl
      exact g_iret (Qr := (q_pm_fault T o wh g1 g2 g3 g4 g15 g17 g20 g22 g23 g24 g28 g29 g31 g32 g33)) hC V ⟨(Nat.le_of_ble_eq_true rfl), (Nat.le_of_ble_eq_true rfl)⟩ ⟨(-1), rfl, rfl, (by first | exact pf_fault_1 ‹_› | exact pf_fault_2 ‹_›)⟩ dX8_fault_29
    · skip
      refine lv_aload_n hx hb dX8_fault_21 rfl (lv_at hl 0 rfl) ?_
      refine g_get hC V (ci := 8) uwX8 0 rfl rfl 14 (by decide) w_926 rfl rfl dX8_fault_22 ?_
      refine lv_goto (tgt := 29) hx hb dX8_fault_25 (by decide) ?_
      have V := V.sub (ws' := []) [] rfl rfl
      exact g_iret (Qr := (q_pm_fault T o wh g1 g2 g3 g4 g15 g17 g20 g22 g23 g24 g28 g29 g31 g32 g33)) hC V ⟨(Nat.le_of_ble_eq_true rfl), (Nat.le_of_ble_eq_true rfl)⟩ ⟨(-1), rfl, rfl, (by first | exact pf_fault_1 ‹_› | exact pf_fault_2 ‹_›)⟩ dX8_fault_29
  · skip
    refine lv_aload_n hx hb dX8_fault_9 rfl (lv_at hl 0 rfl) ?_
    refine g_get hC V (ci := 8) uwX8 0 rfl rfl 13 (by decide) w_925 rfl rfl dX8_fault_10 ?_
    refine lv_goto (tgt := 29) hx hb dX8_fault_13 (by decide) ?_
    have V := V.sub (ws' := []) [] rfl rfl
    exact g_iret (Qr := (q_pm_fault T o wh g1 g2 g3 g4 g15 g17 g20 g22 g23 g24 g28 g29 g31 g32 g33)) hC V ⟨(Nat.le_of_ble_eq_true rfl), (Nat.le_of_ble_eq_true rfl)⟩ ⟨(nI 0), rfl, rfl, (by first | exact pf_fault_1 ‹_› | exact pf_fault_2 ‹_›)⟩ dX8_fault_29

def q_pm_rings (T : Nat → ClassId) (o : Nat) (g1 : Nat) (g2 : Nat) (g3 : Nat) (g4 : Nat) (g15 : Nat) (g17 : Nat) (g20 : Nat) (g22 : Nat) (g23 : Nat) (g24 : Nat) (g28 : Nat) (g29 : Nat) (g31 : Nat) (g32 : Nat) (g33 : Nat) : Option Value → va_W → Prop := fun rr ww => (∃ (z : Int32), rr = some (.int z) ∧ ww = [] ∧ z = nI 0)
set_option maxHeartbeats 4000000 in
set_option maxRecDepth 100000 in
theorem pm_rings (l : Launch) (D : va_G) (T : Nat → ClassId) (o : Nat) (g1 : Nat) (g2 : Nat) (g3 : Nat) (g4 : Nat) (g15 : Nat) (g17 : Nat) (g20 : Nat) (g22 : Nat) (g23 : Nat) (g24 : Nat) (g28 : Nat) (g29 : Nat) (g31 : Nat) (g32 : Nat) (g33 : Nat) : Ct l yX8_rings cX8_rings 5 (some .int) 0 0 0 D T [.ref o] [(o, .inr (8, [.int (nI 0), .ref g1, .ref g2, .ref g3, .ref g4, .int (nI 0), .int (nI 0), .int (nI 0), .int (nI 0), .int (nI 0), .int (nI 0), .int (nI 0), .int (nI 0), .int (nI 0), .int (-1), .ref g15, .int (nI 0), .ref g17, .int (nI 0), .int (nI 0), .ref g20, .int (nI 0), .ref g22, .ref g23, .ref g24, .int (nI 0), .int (nI 0), .int (nI 0), .ref g28, .ref g29, .int (nI 0), .ref g31, .ref g32, .ref g33])), (g1, .inl (T 0, 282, .inl (upd (fun _ => nI 0) 2 (nI 20))))] (q_pm_rings T o g1 g2 g3 g4 g15 g17 g20 g22 g23 g24 g28 g29 g31 g32 g33) := by
  refine Ct.of (cc := cX8_rings) (maxL := 5) (ret := (some .int)) (by decide) (Nat.le_of_ble_eq_true rfl) ?_
  intro p e s m args below meth c A ls hC hnm V hl
  obtain ⟨hx, hb, hr, hml, hown, hts, hlocks⟩ := id hC
  generalize hH : s.heap = H at V ⊢
  clear hH
  have hl : lv_has ls 5 [(0, .ref o)] := hl
  generalize hlo : ([] : List Loc) = locs at V ⊢
  clear hlo
  refine lv_aload_n hx hb dX8_rings_0 rfl (lv_at hl 0 rfl) ?_
  refine lv_iconst (v := (nI 0)) hx hb dX8_rings_1 (by decide +kernel) ?_
  refine g_put hC V (ci := 8) uwX8 tyX8 tyX8_ok nmX8 0 rfl rfl 0 (by decide) w_912 rfl rfl rfl rfl (Nat.le_of_ble_eq_true rfl) (ws' := [(o, .inr (8, [.int (nI 0), .ref g1, .ref g2, .ref g3, .ref g4, .int (nI 0), .int (nI 0), .int (nI 0), .int (nI 0), .int (nI 0), .int (nI 0), .int (nI 0), .int (nI 0), .int (nI 0), .int (-1), .ref g15, .int (nI 0), .ref g17, .int (nI 0), .int (nI 0), .ref g20, .int (nI 0), .ref g22, .ref g23, .ref g24, .int (nI 0), .int (nI 0), .int (nI 0), .ref g28, .ref g29, .int (nI 0), .ref g31, .ref g32, .ref g33])), (g1, .inl (T 0, 282, .inl (upd (fun _ => nI 0) 2 (nI 20))))]) rfl dX8_rings_2 (fun H locs V => ?_)
  refine lv_iconst (v := (nI 0)) hx hb dX8_rings_5 (by decide +kernel) ?_
  refine lv_istore_n (lv' := [(1, .int (nI 0)), (0, .ref o)]) hx hb dX8_rings_6 rfl hl (by decide) rfl (fun ls hl => ?_)
  refine lv_iconst (v := (nI 0)) hx hb dX8_rings_7 (by decide +kernel) ?_
  refine lv_istore_n (lv' := [(2, .int (nI 0)), (1, .int (nI 0)), (0, .ref o)]) hx hb dX8_rings_8 rfl hl (by decide) rfl (fun ls hl => ?_)
  refine lv_iload_n hx hb dX8_rings_9 rfl (lv_at hl 0 rfl) ?_
  refine lv_aload_n hx hb dX8_rings_10 rfl (lv_at hl 2 rfl) ?_
  refine g_get hC V (ci := 8) uwX8 0 rfl rfl 1 (by decide) w_913 rfl rfl dX8_rings_11 ?_
  refine lv_iconst (v := (nI 0)) hx hb dX8_rings_14 (by decide +kernel) ?_
  refine g_iald hC V 1 rfl (vp_in_nI (by decide) (by decide)) (v := (nI 0)) (by rw [nI_clamp (by decide)]; rfl) dX8_rings_15 ?_
  refine lv_icmp_ge (tgt := 94) hx hb dX8_rings_16 (by decide) (fun _ => ?_) (fun c => absurd (show (nI 0) ≤ (nI 0) by first | rfl | decide +kernel) c)
  refine lv_iload_n hx hb dX8_rings_94 rfl (lv_at hl 1 rfl) ?_
  have V := V.sub (ws' := []) [] rfl rfl
  exact g_iret (Qr := (q_pm_rings T o g1 g2 g3 g4 g15 g17 g20 g22 g23 g24 g28 g29 g31 g32 g33)) hC V ⟨(Nat.le_of_ble_eq_true rfl), (Nat.le_of_ble_eq_true rfl)⟩ ⟨(nI 0), rfl, rfl, rfl⟩ dX8_rings_95

def q_pm_unblown (T : Nat → ClassId) (o : Nat) (g1 : Nat) (g2 : Nat) (g3 : Nat) (g4 : Nat) (g15 : Nat) (g17 : Nat) (g20 : Nat) (g22 : Nat) (g23 : Nat) (g24 : Nat) (g28 : Nat) (g29 : Nat) (g31 : Nat) (g32 : Nat) (g33 : Nat) : Option Value → va_W → Prop := fun rr ww => (∃ (z : Int32), rr = some (.int z) ∧ ww = [] ∧ z = nI 0)
set_option maxHeartbeats 4000000 in
set_option maxRecDepth 100000 in
theorem pm_unblown (l : Launch) (D : va_G) (T : Nat → ClassId) (o : Nat) (g1 : Nat) (g2 : Nat) (g3 : Nat) (g4 : Nat) (g15 : Nat) (g17 : Nat) (g20 : Nat) (g22 : Nat) (g23 : Nat) (g24 : Nat) (g28 : Nat) (g29 : Nat) (g31 : Nat) (g32 : Nat) (g33 : Nat) : Ct l yX8_unblown cX8_unblown 3 (some .int) 0 0 0 D T [.ref o] [(o, .inr (8, [.int (nI 0), .ref g1, .ref g2, .ref g3, .ref g4, .int (nI 0), .int (nI 0), .int (nI 0), .int (nI 0), .int (nI 0), .int (nI 0), .int (nI 0), .int (nI 0), .int (nI 0), .int (-1), .ref g15, .int (nI 0), .ref g17, .int (nI 0), .int (nI 0), .ref g20, .int (nI 0), .ref g22, .ref g23, .ref g24, .int (nI 0), .int (nI 0), .int (nI 0), .ref g28, .ref g29, .int (nI 0), .ref g31, .ref g32, .ref g33])), (g1, .inl (T 0, 282, .inl (upd (fun _ => nI 0) 2 (nI 20))))] (q_pm_unblown T o g1 g2 g3 g4 g15 g17 g20 g22 g23 g24 g28 g29 g31 g32 g33) := by
  refine Ct.of (cc := cX8_unblown) (maxL := 3) (ret := (some .int)) (by decide) (Nat.le_of_ble_eq_true rfl) ?_
  intro p e s m args below meth c A ls hC hnm V hl
  obtain ⟨hx, hb, hr, hml, hown, hts, hlocks⟩ := id hC
  generalize hH : s.heap = H at V ⊢
  clear hH
  have hl : lv_has ls 3 [(0, .ref o)] := hl
  generalize hlo : ([] : List Loc) = locs at V ⊢
  clear hlo
  refine lv_aload_n hx hb dX8_unblown_0 rfl (lv_at hl 0 rfl) ?_
  refine lv_iconst (v := (nI 0)) hx hb dX8_unblown_1 (by decide +kernel) ?_
  refine g_put hC V (ci := 8) uwX8 tyX8 tyX8_ok nmX8 0 rfl rfl 0 (by decide) w_912 rfl rfl rfl rfl (Nat.le_of_ble_eq_true rfl) (ws' := [(o, .inr (8, [.int (nI 0), .ref g1, .ref g2, .ref g3, .ref g4, .int (nI 0), .int (nI 0), .int (nI 0), .int (nI 0), .int (nI 0), .int (nI 0), .int (nI 0), .int (nI 0), .int (nI 0), .int (-1), .ref g15, .int (nI 0), .ref g17, .int (nI 0), .int (nI 0), .ref g20, .int (nI 0), .ref g22, .ref g23, .ref g24, .int (nI 0), .int (nI 0), .int (nI 0), .ref g28, .ref g29, .int (nI 0), .ref g31, .ref g32, .ref g33])), (g1, .inl (T 0, 282, .inl (upd (fun _ => nI 0) 2 (nI 20))))]) rfl dX8_unblown_2 (fun H locs V => ?_)
  refine lv_iconst (v := (nI 0)) hx hb dX8_unblown_5 (by decide +kernel) ?_
  refine lv_istore_n (lv' := [(1, .int (nI 0)), (0, .ref o)]) hx hb dX8_unblown_6 rfl hl (by decide) rfl (fun ls hl => ?_)
  refine lv_iconst (v := (nI 0)) hx hb dX8_unblown_7 (by decide +kernel) ?_
  refine lv_istore_n (lv' := [(2, .int (nI 0)), (1, .int (nI 0)), (0, .ref o)]) hx hb dX8_unblown_8 rfl hl (by decide) rfl (fun ls hl => ?_)
  refine lv_iload_n hx hb dX8_unblown_9 rfl (lv_at hl 0 rfl) ?_
  refine lv_aload_n hx hb dX8_unblown_10 rfl (lv_at hl 2 rfl) ?_
  refine g_get hC V (ci := 8) uwX8 0 rfl rfl 1 (by decide) w_913 rfl rfl dX8_unblown_11 ?_
  refine lv_iconst (v := (nI 0)) hx hb dX8_unblown_14 (by decide +kernel) ?_
  refine g_iald hC V 1 rfl (vp_in_nI (by decide) (by decide)) (v := (nI 0)) (by rw [nI_clamp (by decide)]; rfl) dX8_unblown_15 ?_
  refine lv_icmp_ge (tgt := 43) hx hb dX8_unblown_16 (by decide) (fun _ => ?_) (fun c => absurd (show (nI 0) ≤ (nI 0) by first | rfl | decide +kernel) c)
  refine lv_iload_n hx hb dX8_unblown_43 rfl (lv_at hl 1 rfl) ?_
  have V := V.sub (ws' := []) [] rfl rfl
  exact g_iret (Qr := (q_pm_unblown T o g1 g2 g3 g4 g15 g17 g20 g22 g23 g24 g28 g29 g31 g32 g33)) hC V ⟨(Nat.le_of_ble_eq_true rfl), (Nat.le_of_ble_eq_true rfl)⟩ ⟨(nI 0), rfl, rfl, rfl⟩ dX8_unblown_44

def q_pm_minute (T : Nat → ClassId) (o : Nat) (pl : Int32) (sk : Int32) (g1 : Nat) (g2 : Nat) (g3 : Nat) (g4 : Nat) (g15 : Nat) (g17 : Nat) (g20 : Nat) (g22 : Nat) (g23 : Nat) (g24 : Nat) (g28 : Nat) (g29 : Nat) (g31 : Nat) (g32 : Nat) (g33 : Nat) : Option Value → va_W → Prop := fun rr ww => (∃ (z : Int32), rr = some (.int z) ∧ ww = [] ∧ z = pf_minute pl sk)
set_option maxHeartbeats 4000000 in
set_option maxRecDepth 100000 in
theorem pm_minute (l : Launch) (D : va_G) (T : Nat → ClassId) (o : Nat) (pl : Int32) (sk : Int32) (g1 : Nat) (g2 : Nat) (g3 : Nat) (g4 : Nat) (g15 : Nat) (g17 : Nat) (g20 : Nat) (g22 : Nat) (g23 : Nat) (g24 : Nat) (g28 : Nat) (g29 : Nat) (g31 : Nat) (g32 : Nat) (g33 : Nat) : Ct l yX8_minute cX8_minute 3 (some .int) 2 0 0 D T [.ref o, .int pl, .int sk] [(o, .inr (8, [.int (nI 0), .ref g1, .ref g2, .ref g3, .ref g4, .int (nI 0), .int (nI 0), .int (nI 0), .int (nI 0), .int (nI 0), .int (nI 0), .int (nI 0), .int (nI 0), .int (nI 0), .int (-1), .ref g15, .int (nI 0), .ref g17, .int (nI 0), .int (nI 0), .ref g20, .int (nI 0), .ref g22, .ref g23, .ref g24, .int (nI 0), .int (nI 0), .int (nI 0), .ref g28, .ref g29, .int (nI 0), .ref g31, .ref g32, .ref g33])), (g1, .inl (T 0, 282, .inl (upd (fun _ => nI 0) 2 (nI 20))))] (q_pm_minute T o pl sk g1 g2 g3 g4 g15 g17 g20 g22 g23 g24 g28 g29 g31 g32 g33) := by
  refine Ct.of (cc := cX8_minute) (maxL := 3) (ret := (some .int)) (by decide) (Nat.le_of_ble_eq_true rfl) ?_
  intro p e s m args below meth c A ls hC hnm V hl
  obtain ⟨hx, hb, hr, hml, hown, hts, hlocks⟩ := id hC
  generalize hH : s.heap = H at V ⊢
  clear hH
  have hl : lv_has ls 3 [(0, .ref o), (1, .int pl), (2, .int sk)] := hl
  generalize hlo : ([] : List Loc) = locs at V ⊢
  clear hlo
  refine lv_aload_n hx hb dX8_minute_0 rfl (lv_at hl 0 rfl) ?_
  refine lv_iconst (v := (nI 0)) hx hb dX8_minute_1 (by decide +kernel) ?_
  refine g_put hC V (ci := 8) uwX8 tyX8 tyX8_ok nmX8 0 rfl rfl 0 (by decide) w_912 rfl rfl rfl rfl (Nat.le_of_ble_eq_true rfl) (ws' := [(o, .inr (8, [.int (nI 0), .ref g1, .ref g2, .ref g3, .ref g4, .int (nI 0), .int (nI 0), .int (nI 0), .int (nI 0), .int (nI 0), .int (nI 0), .int (nI 0), .int (nI 0), .int (nI 0), .int (-1), .ref g15, .int (nI 0), .ref g17, .int (nI 0), .int (nI 0), .ref g20, .int (nI 0), .ref g22, .ref g23, .ref g24, .int (nI 0), .int (nI 0), .int (nI 0), .ref g28, .ref g29, .int (nI 0), .ref g31, .ref g32, .ref g33])), (g1, .inl (T 0, 282, .inl (upd (fun _ => nI 0) 2 (nI 20))))]) rfl dX8_minute_2 (fun H locs V => ?_)
  refine lv_aload_n hx hb dX8_minute_5 rfl (lv_at hl 0 rfl) ?_
  refine lv_iload_n hx hb dX8_minute_6 rfl (lv_at hl 1 rfl) ?_
  refine lv_i2l (v := pl.toInt64) hx hb dX8_minute_7 rfl ?_
  refine g_callV (wr := []) (nA := 1) hC V hl.1 (m_isSet l D T o pl (nI 0) g1 g2 g3 g4 (nI 0) (nI 0) (nI 0) (nI 0) (nI 0) (nI 0) (nI 0) (nI 0) (nI 0) (-1) g15 (nI 0) g17 (nI 0) (nI 0) g20 (nI 0) g22 g23 g24 (nI 0) (nI 0) (nI 0) g28 g29 (nI 0) g31 g32 g33 (upd (fun _ => nI 0) 2 (nI 20)) (by first | rfl | assumption | omega | decide)) w_1118 w_1120 w_s49 w_9 w_1121 (by decide +kernel) rfl ⟨(Nat.le_of_ble_eq_true rfl), (Nat.le_of_ble_eq_true rfl)⟩ 0 (ci := 8) rfl rfl [0, 1] [] rfl rfl rfl rfl (by decide) (Nat.le_of_ble_eq_true rfl) dX8_minute_8 ⟨(Nat.le_of_ble_eq_true rfl), (Nat.le_of_ble_eq_true rfl)⟩ rfl (fun r w1 H locs hQ V => ?_)
  rcases hQ with ⟨rfl, rfl, f_1⟩ | ⟨rfl, rfl, f_2⟩
  · have V : gW D T A s [(o, .inr (8, [.int (nI 0), .ref g1, .ref g2, .ref g3, .ref g4, .int (nI 0), .int (nI 0), .int (nI 0), .int (nI 0), .int (nI 0), .int (nI 0), .int (nI 0), .int (nI 0), .int (nI 0), .int (-1), .ref g15, .int (nI 0), .ref g17, .int (nI 0), .int (nI 0), .ref g20, .int (nI 0), .ref g22, .ref g23, .ref g24, .int (nI 0), .int (nI 0), .int (nI 0), .ref g28, .ref g29, .int (nI 0), .ref g31, .ref g32, .ref g33])), (g1, .inl (T 0, 282, .inl (upd (fun _ => nI 0) 2 (nI 20))))] H locs := V
    show W p l e _ s m args below meth c H locs _ _ _ (F0 m 11 ls [.int (nI 1)])
    refine lv_if_eq (tgt := 29) hx hb dX8_minute_11 (by decide) (fun c => absurd (show (nI 1) = 0 from c) (by decide +kernel)) (fun _ => ?_)
    refine lv_aload_n hx hb dX8_minute_14 rfl (lv_at hl 0 rfl) ?_
    refine lv_iload_n hx hb dX8_minute_15 rfl (lv_at hl 2 rfl) ?_
    refine lv_i2l (v := sk.toInt64) hx hb dX8_minute_16 rfl ?_
    refine g_callV (wr := []) (nA := 1) hC V hl.1 (m_isSet l D T o sk (nI 0) g1 g2 g3 g4 (nI 0) (nI 0) (nI 0) (nI 0) (nI 0) (nI 0) (nI 0) (nI 0) (nI 0) (-1) g15 (nI 0) g17 (nI 0) (nI 0) g20 (nI 0) g22 g23 g24 (nI 0) (nI 0) (nI 0) g28 g29 (nI 0) g31 g32 g33 (upd (fun _ => nI 0) 2 (nI 20)) (by first | rfl | assumption | omega | decide)) w_1118 w_1120 w_s49 w_9 w_1121 (by decide +kernel) rfl ⟨(Nat.le_of_ble_eq_true rfl), (Nat.le_of_ble_eq_true rfl)⟩ 0 (ci := 8) rfl rfl [0, 1] [] rfl rfl rfl rfl (by decide) (Nat.le_of_ble_eq_true rfl) dX8_minute_17 ⟨(Nat.le_of_ble_eq_true rfl), (Nat.le_of_ble_eq_true rfl)⟩ rfl (fun r w1 H locs hQ V => ?_)
    rcases hQ with ⟨rfl, rfl, f_3⟩ | ⟨rfl, rfl, f_4⟩
    · have V : gW D T A s [(o, .inr (8, [.int (nI 0), .ref g1, .ref g2, .ref g3, .ref g4, .int (nI 0), .int (nI 0), .int (nI 0), .int (nI 0), .int (nI 0), .int (nI 0), .int (nI 0), .int (nI 0), .int (nI 0), .int (-1), .ref g15, .int (nI 0), .ref g17, .int (nI 0), .int (nI 0), .ref g20, .int (nI 0), .ref g22, .ref g23, .ref g24, .int (nI 0), .int (nI 0), .int (nI 0), .ref g28, .ref g29, .int (nI 0), .ref g31, .ref g32, .ref g33])), (g1, .inl (T 0, 282, .inl (upd (fun _ => nI 0) 2 (nI 20))))] H locs := V
      show W p l e _ s m args below meth c H locs _ _ _ (F0 m 20 ls [.int (nI 1)])
      refine lv_if_eq (tgt := 29) hx hb dX8_minute_20 (by decide) (fun c => absurd (show (nI 1) = 0 from c) (by decide +kernel)) (fun _ => ?_)
      refine lv_iload_n hx hb dX8_minute_23 rfl (lv_at hl 1 rfl) ?_
      refine lv_iload_n hx hb dX8_minute_24 rfl (lv_at hl 2 rfl) ?_
      refine lv_iand hx hb dX8_minute_25 ?_
      refine lv_if_eq (tgt := 32) hx hb dX8_minute_26 (by decide) (fun c_5 => ?_) (fun c_5 => ?_)
      · skip
        refine lv_aload_n hx hb dX8_minute_32 rfl (lv_at hl 0 rfl) ?_
        refine g_get hC V (ci := 8) uwX8 0 rfl rfl 1 (by decide) w_913 rfl rfl dX8_minute_33 ?_
        refine lv_iconst (v := (nI 1)) hx hb dX8_minute_36 (by decide +kernel) ?_
        refine g_iald hC V 1 rfl (vp_in_nI (by decide) (by decide)) (v := (nI 0)) (by rw [nI_clamp (by decide)]; rfl) dX8_minute_37 ?_
        refine lv_sipush (v := (nI 9999)) hx hb dX8_minute_38 (by decide +kernel) ?_
        refine lv_icmp_ne (tgt := 49) hx hb dX8_minute_41 (by decide) (fun _ => ?_) (fun c => absurd (show (nI 0) = (nI 9999) from c) (by decide +kernel))
        refine lv_aload_n hx hb dX8_minute_49 rfl (lv_at hl 0 rfl) ?_
        refine lv_iload_n hx hb dX8_minute_50 rfl (lv_at hl 1 rfl) ?_
        refine lv_iload_n hx hb dX8_minute_51 rfl (lv_at hl 2 rfl) ?_
        refine lv_iconst (v := (-1)) hx hb dX8_minute_52 (by decide +kernel) ?_
        refine lv_iconst (v := (nI 0)) hx hb dX8_minute_53 (by decide +kernel) ?_
        refine g_callV (wr := []) (nA := 4) hC V hl.1 (m_goes l D T o pl sk (-1) (nI 0) (nI 0) g1 g2 g3 g4 (nI 0) (nI 0) (nI 0) (nI 0) (nI 0) (nI 0) (nI 0) (nI 0) (nI 0) (-1) g15 (nI 0) g17 (nI 0) (nI 0) g20 (nI 0) g22 g23 g24 (nI 0) (nI 0) (nI 0) g28 g29 (nI 0) g31 g32 g33 (upd (fun _ => nI 0) 2 (nI 20)) (by first | rfl | assumption | omega | decide)) w_1122 w_1124 w_s50 w_9 w_1125 (by decide +kernel) rfl ⟨(Nat.le_of_ble_eq_true rfl), (Nat.le_of_ble_eq_true rfl)⟩ 0 (ci := 8) rfl rfl [0, 1] [] rfl rfl rfl rfl (by decide) (Nat.le_of_ble_eq_true rfl) dX8_minute_54 ⟨(Nat.le_of_ble_eq_true rfl), (Nat.le_of_ble_eq_true rfl)⟩ rfl (fun r w1 H locs hQ V => ?_)
        obtain ⟨ga_6, rfl, rfl, f_7⟩ := hQ
        have V : gW D T A s [(o, .inr (8, [.int (nI 0), .ref g1, .ref g2, .ref g3, .ref g4, .int (nI 0), .int (nI 0), .int (nI 0), .int (nI 0), .int (nI 0), .int (nI 0), .int (nI 0), .int (nI 0), .int (nI 0), .int (-1), .ref g15, .int (nI 0), .ref g17, .int (nI 0), .int (nI 0), .ref g20, .int (nI 0), .ref g22, .ref g23, .ref g24, .int (nI 0), .int (nI 0), .int (nI 0), .ref g28, .ref g29, .int (nI 0), .ref g31, .ref g32, .ref g33])), (g1, .inl (T 0, 282, .inl ga_6))] H locs := V
        show W p l e _ s m args below meth c H locs _ _ _ (F0 m 57 ls [.int (nI 0)])
        have V := V.sub (ws' := []) [] rfl rfl
        exact g_iret (Qr := (q_pm_minute T o pl sk g1 g2 g3 g4 g15 g17 g20 g22 g23 g24 g28 g29 g31 g32 g33)) hC V ⟨(Nat.le_of_ble_eq_true rfl), (Nat.le_of_ble_eq_true rfl)⟩ ⟨(nI 0), rfl, rfl, (by first | exact pf_minute_1 ‹_› ‹_› | exact pf_minute_2 ‹_› | exact pf_minute_3 ‹_›)⟩ dX8_minute_57
      · skip
        exact (c_5 (by rw [show pl = 0 from ‹_›]; exact Int32.zero_and) : False).elim
    · have V : gW D T A s [(o, .inr (8, [.int (nI 0), .ref g1, .ref g2, .ref g3, .ref g4, .int (nI 0), .int (nI 0), .int (nI 0), .int (nI 0), .int (nI 0), .int (nI 0), .int (nI 0), .int (nI 0), .int (nI 0), .int (-1), .ref g15, .int (nI 0), .ref g17, .int (nI 0), .int (nI 0), .ref g20, .int (nI 0), .ref g22, .ref g23, .ref g24, .int (nI 0), .int (nI 0), .int (nI 0), .ref g28, .ref g29, .int (nI 0), .ref g31, .ref g32, .ref g33])), (g1, .inl (T 0, 282, .inl (upd (fun _ => nI 0) 2 (nI 20))))] H locs := V
      show W p l e _ s m args below meth c H locs _ _ _ (F0 m 20 ls [.int (nI 0)])
      refine lv_if_eq (tgt := 29) hx hb dX8_minute_20 (by decide) (fun _ => ?_) (fun c => absurd (show (nI 0) = 0 by decide +kernel) c)
      refine lv_bipush (v := (-3)) hx hb dX8_minute_29 (by decide +kernel) ?_
      have V := V.sub (ws' := []) [] rfl rfl
      exact g_iret (Qr := (q_pm_minute T o pl sk g1 g2 g3 g4 g15 g17 g20 g22 g23 g24 g28 g29 g31 g32 g33)) hC V ⟨(Nat.le_of_ble_eq_true rfl), (Nat.le_of_ble_eq_true rfl)⟩ ⟨(-3), rfl, rfl, (by first | exact pf_minute_1 ‹_› ‹_› | exact pf_minute_2 ‹_› | exact pf_minute_3 ‹_›)⟩ dX8_minute_31
  · have V : gW D T A s [(o, .inr (8, [.int (nI 0), .ref g1, .ref g2, .ref g3, .ref g4, .int (nI 0), .int (nI 0), .int (nI 0), .int (nI 0), .int (nI 0), .int (nI 0), .int (nI 0), .int (nI 0), .int (nI 0), .int (-1), .ref g15, .int (nI 0), .ref g17, .int (nI 0), .int (nI 0), .ref g20, .int (nI 0), .ref g22, .ref g23, .ref g24, .int (nI 0), .int (nI 0), .int (nI 0), .ref g28, .ref g29, .int (nI 0), .ref g31, .ref g32, .ref g33])), (g1, .inl (T 0, 282, .inl (upd (fun _ => nI 0) 2 (nI 20))))] H locs := V
    show W p l e _ s m args below meth c H locs _ _ _ (F0 m 11 ls [.int (nI 0)])
    refine lv_if_eq (tgt := 29) hx hb dX8_minute_11 (by decide) (fun _ => ?_) (fun c => absurd (show (nI 0) = 0 by decide +kernel) c)
    refine lv_bipush (v := (-3)) hx hb dX8_minute_29 (by decide +kernel) ?_
    have V := V.sub (ws' := []) [] rfl rfl
    exact g_iret (Qr := (q_pm_minute T o pl sk g1 g2 g3 g4 g15 g17 g20 g22 g23 g24 g28 g29 g31 g32 g33)) hC V ⟨(Nat.le_of_ble_eq_true rfl), (Nat.le_of_ble_eq_true rfl)⟩ ⟨(-3), rfl, rfl, (by first | exact pf_minute_1 ‹_› ‹_› | exact pf_minute_2 ‹_› | exact pf_minute_3 ‹_›)⟩ dX8_minute_31

def q_pm_judge (T : Nat → ClassId) (o : Nat) (row : Int32) (what : Int32) (g1 : Nat) (g2 : Nat) (g3 : Nat) (g4 : Nat) (g15 : Nat) (g17 : Nat) (g20 : Nat) (g22 : Nat) (g23 : Nat) (g24 : Nat) (g28 : Nat) (g29 : Nat) (g31 : Nat) (g32 : Nat) (g33 : Nat) : Option Value → va_W → Prop := fun rr ww => (∃ (z : Int32), rr = some (.int z) ∧ ww = [] ∧ z = pf_judge row what)
set_option maxHeartbeats 4000000 in
set_option maxRecDepth 100000 in
theorem pm_judge (l : Launch) (D : va_G) (T : Nat → ClassId) (o : Nat) (row : Int32) (what : Int32) (g1 : Nat) (g2 : Nat) (g3 : Nat) (g4 : Nat) (g15 : Nat) (g17 : Nat) (g20 : Nat) (g22 : Nat) (g23 : Nat) (g24 : Nat) (g28 : Nat) (g29 : Nat) (g31 : Nat) (g32 : Nat) (g33 : Nat) : Ct l yX8_judge cX8_judge 5 (some .int) 1 0 0 D T [.ref o, .int row, .int what] [(o, .inr (8, [.int (nI 0), .ref g1, .ref g2, .ref g3, .ref g4, .int (nI 0), .int (nI 0), .int (nI 0), .int (nI 0), .int (nI 0), .int (nI 0), .int (nI 0), .int (nI 0), .int (nI 0), .int (-1), .ref g15, .int (nI 0), .ref g17, .int (nI 0), .int (nI 0), .ref g20, .int (nI 0), .ref g22, .ref g23, .ref g24, .int (nI 0), .int (nI 0), .int (nI 0), .ref g28, .ref g29, .int (nI 0), .ref g31, .ref g32, .ref g33])), (g31, .inl (T 0, 4, .inl (upd (upd (upd (upd (fun _ => nI 0) 0 (-1)) 1 (-1)) 2 (-1)) 3 (-1))))] (q_pm_judge T o row what g1 g2 g3 g4 g15 g17 g20 g22 g23 g24 g28 g29 g31 g32 g33) := by
  refine Ct.of (cc := cX8_judge) (maxL := 5) (ret := (some .int)) (by decide) (Nat.le_of_ble_eq_true rfl) ?_
  intro p e s m args below meth c A ls hC hnm V hl
  obtain ⟨hx, hb, hr, hml, hown, hts, hlocks⟩ := id hC
  generalize hH : s.heap = H at V ⊢
  clear hH
  have hl : lv_has ls 5 [(0, .ref o), (1, .int row), (2, .int what)] := hl
  generalize hlo : ([] : List Loc) = locs at V ⊢
  clear hlo
  refine lv_aload_n hx hb dX8_judge_0 rfl (lv_at hl 0 rfl) ?_
  refine lv_iconst (v := (nI 0)) hx hb dX8_judge_1 (by decide +kernel) ?_
  refine g_put hC V (ci := 8) uwX8 tyX8 tyX8_ok nmX8 0 rfl rfl 0 (by decide) w_912 rfl rfl rfl rfl (Nat.le_of_ble_eq_true rfl) (ws' := [(o, .inr (8, [.int (nI 0), .ref g1, .ref g2, .ref g3, .ref g4, .int (nI 0), .int (nI 0), .int (nI 0), .int (nI 0), .int (nI 0), .int (nI 0), .int (nI 0), .int (nI 0), .int (nI 0), .int (-1), .ref g15, .int (nI 0), .ref g17, .int (nI 0), .int (nI 0), .ref g20, .int (nI 0), .ref g22, .ref g23, .ref g24, .int (nI 0), .int (nI 0), .int (nI 0), .ref g28, .ref g29, .int (nI 0), .ref g31, .ref g32, .ref g33])), (g31, .inl (T 0, 4, .inl (upd (upd (upd (upd (fun _ => nI 0) 0 (-1)) 1 (-1)) 2 (-1)) 3 (-1))))]) rfl dX8_judge_2 (fun H locs V => ?_)
  refine lv_iload_n hx hb dX8_judge_5 rfl (lv_at hl 1 rfl) ?_
  refine lv_i2l (v := row.toInt64) hx hb dX8_judge_6 rfl ?_
  refine lv_lconst (v := (nI 0).toInt64) hx hb dX8_judge_7 (by decide +kernel) ?_
  refine lv_ldc2 (v := (3)) hx hb hown (hts _ w_1144) dX8_judge_8 ?_
  refine g_vl (y := (nI 3).toInt64) (by decide +kernel) ?_
  refine g_callS (wr := [(o, .inr (8, [.int (nI 0), .ref g1, .ref g2, .ref g3, .ref g4, .int (nI 0), .int (nI 0), .int (nI 0), .int (nI 0), .int (nI 0), .int (nI 0), .int (nI 0), .int (nI 0), .int (nI 0), .int (-1), .ref g15, .int (nI 0), .ref g17, .int (nI 0), .int (nI 0), .ref g20, .int (nI 0), .ref g22, .ref g23, .ref g24, .int (nI 0), .int (nI 0), .int (nI 0), .ref g28, .ref g29, .int (nI 0), .ref g31, .ref g32, .ref g33])), (g31, .inl (T 0, 4, .inl (upd (upd (upd (upd (fun _ => nI 0) 0 (-1)) 1 (-1)) 2 (-1)) 3 (-1))))]) (nA := 3) hC V hl.1 (c_within l D T row (nI 0) (nI 3)) w_1023 w_1024 w_9 w_1025 (by decide +kernel) rfl ⟨(Nat.le_of_ble_eq_true rfl), (Nat.le_of_ble_eq_true rfl)⟩ [] [0, 1] rfl rfl rfl rfl (by decide) (Nat.le_of_ble_eq_true rfl) dX8_judge_11 ⟨(Nat.le_of_ble_eq_true rfl), (Nat.le_of_ble_eq_true rfl)⟩ rfl (fun r w1 H locs hQ V => ?_)
  rcases hQ with ⟨rfl, rfl, f_1, f_2⟩ | ⟨rfl, rfl, f_3⟩
  · have V : gW D T A s [(o, .inr (8, [.int (nI 0), .ref g1, .ref g2, .ref g3, .ref g4, .int (nI 0), .int (nI 0), .int (nI 0), .int (nI 0), .int (nI 0), .int (nI 0), .int (nI 0), .int (nI 0), .int (nI 0), .int (-1), .ref g15, .int (nI 0), .ref g17, .int (nI 0), .int (nI 0), .ref g20, .int (nI 0), .ref g22, .ref g23, .ref g24, .int (nI 0), .int (nI 0), .int (nI 0), .ref g28, .ref g29, .int (nI 0), .ref g31, .ref g32, .ref g33])), (g31, .inl (T 0, 4, .inl (upd (upd (upd (upd (fun _ => nI 0) 0 (-1)) 1 (-1)) 2 (-1)) 3 (-1))))] H locs := V
    show W p l e _ s m args below meth c H locs _ _ _ (F0 m 14 ls [.int (nI 1)])
    have r1_row : ¬ row < 0 := f_1
    have r2_row : ¬ nI 4 ≤ row := cv_r2 rfl (by decide) f_2
    refine lv_if_eq (tgt := 29) hx hb dX8_judge_14 (by decide) (fun c => absurd (show (nI 1) = 0 from c) (by decide +kernel)) (fun _ => ?_)
    refine lv_iload_n hx hb dX8_judge_17 rfl (lv_at hl 2 rfl) ?_
    refine lv_i2l (v := what.toInt64) hx hb dX8_judge_18 rfl ?_
    refine lv_lconst (v := (nI 0).toInt64) hx hb dX8_judge_19 (by decide +kernel) ?_
    refine lv_ldc2 (v := (4)) hx hb hown (hts _ w_1145) dX8_judge_20 ?_
    refine g_vl (y := (nI 4).toInt64) (by decide +kernel) ?_
    refine g_callS (wr := [(o, .inr (8, [.int (nI 0), .ref g1, .ref g2, .ref g3, .ref g4, .int (nI 0), .int (nI 0), .int (nI 0), .int (nI 0), .int (nI 0), .int (nI 0), .int (nI 0), .int (nI 0), .int (nI 0), .int (-1), .ref g15, .int (nI 0), .ref g17, .int (nI 0), .int (nI 0), .ref g20, .int (nI 0), .ref g22, .ref g23, .ref g24, .int (nI 0), .int (nI 0), .int (nI 0), .ref g28, .ref g29, .int (nI 0), .ref g31, .ref g32, .ref g33])), (g31, .inl (T 0, 4, .inl (upd (upd (upd (upd (fun _ => nI 0) 0 (-1)) 1 (-1)) 2 (-1)) 3 (-1))))]) (nA := 3) hC V hl.1 (c_within l D T what (nI 0) (nI 4)) w_1023 w_1024 w_9 w_1025 (by decide +kernel) rfl ⟨(Nat.le_of_ble_eq_true rfl), (Nat.le_of_ble_eq_true rfl)⟩ [] [0, 1] rfl rfl rfl rfl (by decide) (Nat.le_of_ble_eq_true rfl) dX8_judge_23 ⟨(Nat.le_of_ble_eq_true rfl), (Nat.le_of_ble_eq_true rfl)⟩ rfl (fun r w1 H locs hQ V => ?_)
    rcases hQ with ⟨rfl, rfl, f_4, f_5⟩ | ⟨rfl, rfl, f_6⟩
    · have V : gW D T A s [(o, .inr (8, [.int (nI 0), .ref g1, .ref g2, .ref g3, .ref g4, .int (nI 0), .int (nI 0), .int (nI 0), .int (nI 0), .int (nI 0), .int (nI 0), .int (nI 0), .int (nI 0), .int (nI 0), .int (-1), .ref g15, .int (nI 0), .ref g17, .int (nI 0), .int (nI 0), .ref g20, .int (nI 0), .ref g22, .ref g23, .ref g24, .int (nI 0), .int (nI 0), .int (nI 0), .ref g28, .ref g29, .int (nI 0), .ref g31, .ref g32, .ref g33])), (g31, .inl (T 0, 4, .inl (upd (upd (upd (upd (fun _ => nI 0) 0 (-1)) 1 (-1)) 2 (-1)) 3 (-1))))] H locs := V
      show W p l e _ s m args below meth c H locs _ _ _ (F0 m 26 ls [.int (nI 1)])
      obtain ⟨j_7, hj_7, ej_7⟩ := g_idx (n := 4) (by decide) r1_row r2_row
      rw [ej_7] at hl
      have hj_7 : j_7 = 0 ∨ j_7 = 1 ∨ j_7 = 2 ∨ j_7 = 3 := by omega
      rcases hj_7 with rfl | rfl | rfl | rfl
      · skip
        refine lv_if_ne (tgt := 32) hx hb dX8_judge_26 (by decide) (fun _ => ?_) (fun c => absurd (show (nI 1) = 0 from c) (by decide +kernel))
        refine lv_aload_n hx hb dX8_judge_32 rfl (lv_at hl 0 rfl) ?_
        refine g_get hC V (ci := 8) uwX8 0 rfl rfl 31 (by decide) w_943 rfl rfl dX8_judge_33 ?_
        refine lv_iload_n hx hb dX8_judge_36 rfl (lv_at hl 1 rfl) ?_
        refine g_iald hC V 1 rfl (vp_in_nI (by decide) (by decide)) (v := (-1)) (by rw [nI_clamp (by decide)]; rfl) dX8_judge_37 ?_
        refine lv_iconst (v := (-1)) hx hb dX8_judge_38 (by decide +kernel) ?_
        refine lv_icmp_ne (tgt := 45) hx hb dX8_judge_39 (by decide) (fun c => absurd (show (-1 : Int32) = (-1 : Int32) by first | rfl | decide +kernel) c) (fun _ => ?_)
        refine lv_bipush (v := (-6)) hx hb dX8_judge_42 (by decide +kernel) ?_
        have V := V.sub (ws' := []) [] rfl rfl
        exact g_iret (Qr := (q_pm_judge T o row what g1 g2 g3 g4 g15 g17 g20 g22 g23 g24 g28 g29 g31 g32 g33)) hC V ⟨(Nat.le_of_ble_eq_true rfl), (Nat.le_of_ble_eq_true rfl)⟩ ⟨(-6), rfl, rfl, (by first | exact pf_judge_1 ‹_› | exact pf_judge_2 ‹_› | exact pf_judge_3 ‹_› ‹_› ‹_› ‹_›)⟩ dX8_judge_44
      · skip
        refine lv_if_ne (tgt := 32) hx hb dX8_judge_26 (by decide) (fun _ => ?_) (fun c => absurd (show (nI 1) = 0 from c) (by decide +kernel))
        refine lv_aload_n hx hb dX8_judge_32 rfl (lv_at hl 0 rfl) ?_
        refine g_get hC V (ci := 8) uwX8 0 rfl rfl 31 (by decide) w_943 rfl rfl dX8_judge_33 ?_
        refine lv_iload_n hx hb dX8_judge_36 rfl (lv_at hl 1 rfl) ?_
        refine g_iald hC V 1 rfl (vp_in_nI (by decide) (by decide)) (v := (-1)) (by rw [nI_clamp (by decide)]; rfl) dX8_judge_37 ?_
        refine lv_iconst (v := (-1)) hx hb dX8_judge_38 (by decide +kernel) ?_
        refine lv_icmp_ne (tgt := 45) hx hb dX8_judge_39 (by decide) (fun c => absurd (show (-1 : Int32) = (-1 : Int32) by first | rfl | decide +kernel) c) (fun _ => ?_)
        refine lv_bipush (v := (-6)) hx hb dX8_judge_42 (by decide +kernel) ?_
        have V := V.sub (ws' := []) [] rfl rfl
        exact g_iret (Qr := (q_pm_judge T o row what g1 g2 g3 g4 g15 g17 g20 g22 g23 g24 g28 g29 g31 g32 g33)) hC V ⟨(Nat.le_of_ble_eq_true rfl), (Nat.le_of_ble_eq_true rfl)⟩ ⟨(-6), rfl, rfl, (by first | exact pf_judge_1 ‹_› | exact pf_judge_2 ‹_› | exact pf_judge_3 ‹_› ‹_› ‹_› ‹_›)⟩ dX8_judge_44
      · skip
        refine lv_if_ne (tgt := 32) hx hb dX8_judge_26 (by decide) (fun _ => ?_) (fun c => absurd (show (nI 1) = 0 from c) (by decide +kernel))
        refine lv_aload_n hx hb dX8_judge_32 rfl (lv_at hl 0 rfl) ?_
        refine g_get hC V (ci := 8) uwX8 0 rfl rfl 31 (by decide) w_943 rfl rfl dX8_judge_33 ?_
        refine lv_iload_n hx hb dX8_judge_36 rfl (lv_at hl 1 rfl) ?_
        refine g_iald hC V 1 rfl (vp_in_nI (by decide) (by decide)) (v := (-1)) (by rw [nI_clamp (by decide)]; rfl) dX8_judge_37 ?_
        refine lv_iconst (v := (-1)) hx hb dX8_judge_38 (by decide +kernel) ?_
        refine lv_icmp_ne (tgt := 45) hx hb dX8_judge_39 (by decide) (fun c => absurd (show (-1 : Int32) = (-1 : Int32) by first | rfl | decide +kernel) c) (fun _ => ?_)
        refine lv_bipush (v := (-6)) hx hb dX8_judge_42 (by decide +kernel) ?_
        have V := V.sub (ws' := []) [] rfl rfl
        exact g_iret (Qr := (q_pm_judge T o row what g1 g2 g3 g4 g15 g17 g20 g22 g23 g24 g28 g29 g31 g32 g33)) hC V ⟨(Nat.le_of_ble_eq_true rfl), (Nat.le_of_ble_eq_true rfl)⟩ ⟨(-6), rfl, rfl, (by first | exact pf_judge_1 ‹_› | exact pf_judge_2 ‹_› | exact pf_judge_3 ‹_› ‹_› ‹_› ‹_›)⟩ dX8_judge_44
      · skip
        refine lv_if_ne (tgt := 32) hx hb dX8_judge_26 (by decide) (fun _ => ?_) (fun c => absurd (show (nI 1) = 0 from c) (by decide +kernel))
        refine lv_aload_n hx hb dX8_judge_32 rfl (lv_at hl 0 rfl) ?_
        refine g_get hC V (ci := 8) uwX8 0 rfl rfl 31 (by decide) w_943 rfl rfl dX8_judge_33 ?_
        refine lv_iload_n hx hb dX8_judge_36 rfl (lv_at hl 1 rfl) ?_
        refine g_iald hC V 1 rfl (vp_in_nI (by decide) (by decide)) (v := (-1)) (by rw [nI_clamp (by decide)]; rfl) dX8_judge_37 ?_
        refine lv_iconst (v := (-1)) hx hb dX8_judge_38 (by decide +kernel) ?_
        refine lv_icmp_ne (tgt := 45) hx hb dX8_judge_39 (by decide) (fun c => absurd (show (-1 : Int32) = (-1 : Int32) by first | rfl | decide +kernel) c) (fun _ => ?_)
        refine lv_bipush (v := (-6)) hx hb dX8_judge_42 (by decide +kernel) ?_
        have V := V.sub (ws' := []) [] rfl rfl
        exact g_iret (Qr := (q_pm_judge T o row what g1 g2 g3 g4 g15 g17 g20 g22 g23 g24 g28 g29 g31 g32 g33)) hC V ⟨(Nat.le_of_ble_eq_true rfl), (Nat.le_of_ble_eq_true rfl)⟩ ⟨(-6), rfl, rfl, (by first | exact pf_judge_1 ‹_› | exact pf_judge_2 ‹_› | exact pf_judge_3 ‹_› ‹_› ‹_› ‹_›)⟩ dX8_judge_44
    · have V : gW D T A s [(o, .inr (8, [.int (nI 0), .ref g1, .ref g2, .ref g3, .ref g4, .int (nI 0), .int (nI 0), .int (nI 0), .int (nI 0), .int (nI 0), .int (nI 0), .int (nI 0), .int (nI 0), .int (nI 0), .int (-1), .ref g15, .int (nI 0), .ref g17, .int (nI 0), .int (nI 0), .ref g20, .int (nI 0), .ref g22, .ref g23, .ref g24, .int (nI 0), .int (nI 0), .int (nI 0), .ref g28, .ref g29, .int (nI 0), .ref g31, .ref g32, .ref g33])), (g31, .inl (T 0, 4, .inl (upd (upd (upd (upd (fun _ => nI 0) 0 (-1)) 1 (-1)) 2 (-1)) 3 (-1))))] H locs := V
      show W p l e _ s m args below meth c H locs _ _ _ (F0 m 26 ls [.int (nI 0)])
      refine lv_if_ne (tgt := 32) hx hb dX8_judge_26 (by decide) (fun c => absurd (show (nI 0) = 0 by decide +kernel) c) (fun _ => ?_)
      refine lv_bipush (v := (-2)) hx hb dX8_judge_29 (by decide +kernel) ?_
      have V := V.sub (ws' := []) [] rfl rfl
      exact g_iret (Qr := (q_pm_judge T o row what g1 g2 g3 g4 g15 g17 g20 g22 g23 g24 g28 g29 g31 g32 g33)) hC V ⟨(Nat.le_of_ble_eq_true rfl), (Nat.le_of_ble_eq_true rfl)⟩ ⟨(-2), rfl, rfl, (by first | exact pf_judge_1 ‹_› | exact pf_judge_2 ‹_› | exact pf_judge_3 ‹_› ‹_› ‹_› ‹_›)⟩ dX8_judge_31
  · have V : gW D T A s [(o, .inr (8, [.int (nI 0), .ref g1, .ref g2, .ref g3, .ref g4, .int (nI 0), .int (nI 0), .int (nI 0), .int (nI 0), .int (nI 0), .int (nI 0), .int (nI 0), .int (nI 0), .int (nI 0), .int (-1), .ref g15, .int (nI 0), .ref g17, .int (nI 0), .int (nI 0), .ref g20, .int (nI 0), .ref g22, .ref g23, .ref g24, .int (nI 0), .int (nI 0), .int (nI 0), .ref g28, .ref g29, .int (nI 0), .ref g31, .ref g32, .ref g33])), (g31, .inl (T 0, 4, .inl (upd (upd (upd (upd (fun _ => nI 0) 0 (-1)) 1 (-1)) 2 (-1)) 3 (-1))))] H locs := V
    show W p l e _ s m args below meth c H locs _ _ _ (F0 m 14 ls [.int (nI 0)])
    have r0_row : (row < 0 ∨ nI 4 ≤ row) := cv_r0 rfl (by decide) f_3
    refine lv_if_eq (tgt := 29) hx hb dX8_judge_14 (by decide) (fun _ => ?_) (fun c => absurd (show (nI 0) = 0 by decide +kernel) c)
    refine lv_bipush (v := (-2)) hx hb dX8_judge_29 (by decide +kernel) ?_
    have V := V.sub (ws' := []) [] rfl rfl
    exact g_iret (Qr := (q_pm_judge T o row what g1 g2 g3 g4 g15 g17 g20 g22 g23 g24 g28 g29 g31 g32 g33)) hC V ⟨(Nat.le_of_ble_eq_true rfl), (Nat.le_of_ble_eq_true rfl)⟩ ⟨(-2), rfl, rfl, (by first | exact pf_judge_1 ‹_› | exact pf_judge_2 ‹_› | exact pf_judge_3 ‹_› ‹_› ‹_› ‹_›)⟩ dX8_judge_31

def q_pm_perform (T : Nat → ClassId) (o : Nat) (row : Int32) (g1 : Nat) (g2 : Nat) (g3 : Nat) (g4 : Nat) (g15 : Nat) (g17 : Nat) (g20 : Nat) (g22 : Nat) (g23 : Nat) (g24 : Nat) (g28 : Nat) (g29 : Nat) (g31 : Nat) (g32 : Nat) (g33 : Nat) : Option Value → va_W → Prop := fun rr ww => (∃ (z : Int32), rr = some (.int z) ∧ ww = [] ∧ z = pf_row row)
set_option maxHeartbeats 4000000 in
set_option maxRecDepth 100000 in
theorem pm_perform (l : Launch) (D : va_G) (T : Nat → ClassId) (o : Nat) (row : Int32) (g1 : Nat) (g2 : Nat) (g3 : Nat) (g4 : Nat) (g15 : Nat) (g17 : Nat) (g20 : Nat) (g22 : Nat) (g23 : Nat) (g24 : Nat) (g28 : Nat) (g29 : Nat) (g31 : Nat) (g32 : Nat) (g33 : Nat) : Ct l yX8_perform cX8_perform 2 (some .int) 1 0 0 D T [.ref o, .int row] [(o, .inr (8, [.int (nI 0), .ref g1, .ref g2, .ref g3, .ref g4, .int (nI 0), .int (nI 0), .int (nI 0), .int (nI 0), .int (nI 0), .int (nI 0), .int (nI 0), .int (nI 0), .int (nI 0), .int (-1), .ref g15, .int (nI 0), .ref g17, .int (nI 0), .int (nI 0), .ref g20, .int (nI 0), .ref g22, .ref g23, .ref g24, .int (nI 0), .int (nI 0), .int (nI 0), .ref g28, .ref g29, .int (nI 0), .ref g31, .ref g32, .ref g33])), (g31, .inl (T 0, 4, .inl (upd (upd (upd (upd (fun _ => nI 0) 0 (-1)) 1 (-1)) 2 (-1)) 3 (-1))))] (q_pm_perform T o row g1 g2 g3 g4 g15 g17 g20 g22 g23 g24 g28 g29 g31 g32 g33) := by
  refine Ct.of (cc := cX8_perform) (maxL := 2) (ret := (some .int)) (by decide) (Nat.le_of_ble_eq_true rfl) ?_
  intro p e s m args below meth c A ls hC hnm V hl
  obtain ⟨hx, hb, hr, hml, hown, hts, hlocks⟩ := id hC
  generalize hH : s.heap = H at V ⊢
  clear hH
  have hl : lv_has ls 2 [(0, .ref o), (1, .int row)] := hl
  generalize hlo : ([] : List Loc) = locs at V ⊢
  clear hlo
  refine lv_aload_n hx hb dX8_perform_0 rfl (lv_at hl 0 rfl) ?_
  refine lv_iconst (v := (nI 0)) hx hb dX8_perform_1 (by decide +kernel) ?_
  refine g_put hC V (ci := 8) uwX8 tyX8 tyX8_ok nmX8 0 rfl rfl 0 (by decide) w_912 rfl rfl rfl rfl (Nat.le_of_ble_eq_true rfl) (ws' := [(o, .inr (8, [.int (nI 0), .ref g1, .ref g2, .ref g3, .ref g4, .int (nI 0), .int (nI 0), .int (nI 0), .int (nI 0), .int (nI 0), .int (nI 0), .int (nI 0), .int (nI 0), .int (nI 0), .int (-1), .ref g15, .int (nI 0), .ref g17, .int (nI 0), .int (nI 0), .ref g20, .int (nI 0), .ref g22, .ref g23, .ref g24, .int (nI 0), .int (nI 0), .int (nI 0), .ref g28, .ref g29, .int (nI 0), .ref g31, .ref g32, .ref g33])), (g31, .inl (T 0, 4, .inl (upd (upd (upd (upd (fun _ => nI 0) 0 (-1)) 1 (-1)) 2 (-1)) 3 (-1))))]) rfl dX8_perform_2 (fun H locs V => ?_)
  refine lv_iload_n hx hb dX8_perform_5 rfl (lv_at hl 1 rfl) ?_
  refine lv_i2l (v := row.toInt64) hx hb dX8_perform_6 rfl ?_
  refine lv_lconst (v := (nI 0).toInt64) hx hb dX8_perform_7 (by decide +kernel) ?_
  refine lv_ldc2 (v := (3)) hx hb hown (hts _ w_1144) dX8_perform_8 ?_
  refine g_vl (y := (nI 3).toInt64) (by decide +kernel) ?_
  refine g_callS (wr := [(o, .inr (8, [.int (nI 0), .ref g1, .ref g2, .ref g3, .ref g4, .int (nI 0), .int (nI 0), .int (nI 0), .int (nI 0), .int (nI 0), .int (nI 0), .int (nI 0), .int (nI 0), .int (nI 0), .int (-1), .ref g15, .int (nI 0), .ref g17, .int (nI 0), .int (nI 0), .ref g20, .int (nI 0), .ref g22, .ref g23, .ref g24, .int (nI 0), .int (nI 0), .int (nI 0), .ref g28, .ref g29, .int (nI 0), .ref g31, .ref g32, .ref g33])), (g31, .inl (T 0, 4, .inl (upd (upd (upd (upd (fun _ => nI 0) 0 (-1)) 1 (-1)) 2 (-1)) 3 (-1))))]) (nA := 3) hC V hl.1 (c_within l D T row (nI 0) (nI 3)) w_1023 w_1024 w_9 w_1025 (by decide +kernel) rfl ⟨(Nat.le_of_ble_eq_true rfl), (Nat.le_of_ble_eq_true rfl)⟩ [] [0, 1] rfl rfl rfl rfl (by decide) (Nat.le_of_ble_eq_true rfl) dX8_perform_11 ⟨(Nat.le_of_ble_eq_true rfl), (Nat.le_of_ble_eq_true rfl)⟩ rfl (fun r w1 H locs hQ V => ?_)
  rcases hQ with ⟨rfl, rfl, f_1, f_2⟩ | ⟨rfl, rfl, f_3⟩
  · have V : gW D T A s [(o, .inr (8, [.int (nI 0), .ref g1, .ref g2, .ref g3, .ref g4, .int (nI 0), .int (nI 0), .int (nI 0), .int (nI 0), .int (nI 0), .int (nI 0), .int (nI 0), .int (nI 0), .int (nI 0), .int (-1), .ref g15, .int (nI 0), .ref g17, .int (nI 0), .int (nI 0), .ref g20, .int (nI 0), .ref g22, .ref g23, .ref g24, .int (nI 0), .int (nI 0), .int (nI 0), .ref g28, .ref g29, .int (nI 0), .ref g31, .ref g32, .ref g33])), (g31, .inl (T 0, 4, .inl (upd (upd (upd (upd (fun _ => nI 0) 0 (-1)) 1 (-1)) 2 (-1)) 3 (-1))))] H locs := V
    show W p l e _ s m args below meth c H locs _ _ _ (F0 m 14 ls [.int (nI 1)])
    have r1_row : ¬ row < 0 := f_1
    have r2_row : ¬ nI 4 ≤ row := cv_r2 rfl (by decide) f_2
    obtain ⟨j_4, hj_4, ej_4⟩ := g_idx (n := 4) (by decide) r1_row r2_row
    rw [ej_4] at hl
    have hj_4 : j_4 = 0 ∨ j_4 = 1 ∨ j_4 = 2 ∨ j_4 = 3 := by omega
    rcases hj_4 with rfl | rfl | rfl | rfl
    · skip
      refine lv_if_ne (tgt := 20) hx hb dX8_perform_14 (by decide) (fun _ => ?_) (fun c => absurd (show (nI 1) = 0 from c) (by decide +kernel))
      refine lv_aload_n hx hb dX8_perform_20 rfl (lv_at hl 0 rfl) ?_
      refine g_get hC V (ci := 8) uwX8 0 rfl rfl 31 (by decide) w_943 rfl rfl dX8_perform_21 ?_
      refine lv_iload_n hx hb dX8_perform_24 rfl (lv_at hl 1 rfl) ?_
      refine g_iald hC V 1 rfl (vp_in_nI (by decide) (by decide)) (v := (-1)) (by rw [nI_clamp (by decide)]; rfl) dX8_perform_25 ?_
      refine lv_iconst (v := (-1)) hx hb dX8_perform_26 (by decide +kernel) ?_
      refine lv_icmp_ne (tgt := 35) hx hb dX8_perform_27 (by decide) (fun c => absurd (show (-1 : Int32) = (-1 : Int32) by first | rfl | decide +kernel) c) (fun _ => ?_)
      refine lv_bipush (v := (-6)) hx hb dX8_perform_30 (by decide +kernel) ?_
      refine lv_goto (tgt := 40) hx hb dX8_perform_32 (by decide) ?_
      have V := V.sub (ws' := []) [] rfl rfl
      exact g_iret (Qr := (q_pm_perform T o row g1 g2 g3 g4 g15 g17 g20 g22 g23 g24 g28 g29 g31 g32 g33)) hC V ⟨(Nat.le_of_ble_eq_true rfl), (Nat.le_of_ble_eq_true rfl)⟩ ⟨(-6), rfl, rfl, (by first | exact pf_row_1 ‹_› | exact pf_row_2 ‹_› ‹_›)⟩ dX8_perform_40
    · skip
      refine lv_if_ne (tgt := 20) hx hb dX8_perform_14 (by decide) (fun _ => ?_) (fun c => absurd (show (nI 1) = 0 from c) (by decide +kernel))
      refine lv_aload_n hx hb dX8_perform_20 rfl (lv_at hl 0 rfl) ?_
      refine g_get hC V (ci := 8) uwX8 0 rfl rfl 31 (by decide) w_943 rfl rfl dX8_perform_21 ?_
      refine lv_iload_n hx hb dX8_perform_24 rfl (lv_at hl 1 rfl) ?_
      refine g_iald hC V 1 rfl (vp_in_nI (by decide) (by decide)) (v := (-1)) (by rw [nI_clamp (by decide)]; rfl) dX8_perform_25 ?_
      refine lv_iconst (v := (-1)) hx hb dX8_perform_26 (by decide +kernel) ?_
      refine lv_icmp_ne (tgt := 35) hx hb dX8_perform_27 (by decide) (fun c => absurd (show (-1 : Int32) = (-1 : Int32) by first | rfl | decide +kernel) c) (fun _ => ?_)
      refine lv_bipush (v := (-6)) hx hb dX8_perform_30 (by decide +kernel) ?_
      refine lv_goto (tgt := 40) hx hb dX8_perform_32 (by decide) ?_
      have V := V.sub (ws' := []) [] rfl rfl
      exact g_iret (Qr := (q_pm_perform T o row g1 g2 g3 g4 g15 g17 g20 g22 g23 g24 g28 g29 g31 g32 g33)) hC V ⟨(Nat.le_of_ble_eq_true rfl), (Nat.le_of_ble_eq_true rfl)⟩ ⟨(-6), rfl, rfl, (by first | exact pf_row_1 ‹_› | exact pf_row_2 ‹_› ‹_›)⟩ dX8_perform_40
    · skip
      refine lv_if_ne (tgt := 20) hx hb dX8_perform_14 (by decide) (fun _ => ?_) (fun c => absurd (show (nI 1) = 0 from c) (by decide +kernel))
      refine lv_aload_n hx hb dX8_perform_20 rfl (lv_at hl 0 rfl) ?_
      refine g_get hC V (ci := 8) uwX8 0 rfl rfl 31 (by decide) w_943 rfl rfl dX8_perform_21 ?_
      refine lv_iload_n hx hb dX8_perform_24 rfl (lv_at hl 1 rfl) ?_
      refine g_iald hC V 1 rfl (vp_in_nI (by decide) (by decide)) (v := (-1)) (by rw [nI_clamp (by decide)]; rfl) dX8_perform_25 ?_
      refine lv_iconst (v := (-1)) hx hb dX8_perform_26 (by decide +kernel) ?_
      refine lv_icmp_ne (tgt := 35) hx hb dX8_perform_27 (by decide) (fun c => absurd (show (-1 : Int32) = (-1 : Int32) by first | rfl | decide +kernel) c) (fun _ => ?_)
      refine lv_bipush (v := (-6)) hx hb dX8_perform_30 (by decide +kernel) ?_
      refine lv_goto (tgt := 40) hx hb dX8_perform_32 (by decide) ?_
      have V := V.sub (ws' := []) [] rfl rfl
      exact g_iret (Qr := (q_pm_perform T o row g1 g2 g3 g4 g15 g17 g20 g22 g23 g24 g28 g29 g31 g32 g33)) hC V ⟨(Nat.le_of_ble_eq_true rfl), (Nat.le_of_ble_eq_true rfl)⟩ ⟨(-6), rfl, rfl, (by first | exact pf_row_1 ‹_› | exact pf_row_2 ‹_› ‹_›)⟩ dX8_perform_40
    · skip
      refine lv_if_ne (tgt := 20) hx hb dX8_perform_14 (by decide) (fun _ => ?_) (fun c => absurd (show (nI 1) = 0 from c) (by decide +kernel))
      refine lv_aload_n hx hb dX8_perform_20 rfl (lv_at hl 0 rfl) ?_
      refine g_get hC V (ci := 8) uwX8 0 rfl rfl 31 (by decide) w_943 rfl rfl dX8_perform_21 ?_
      refine lv_iload_n hx hb dX8_perform_24 rfl (lv_at hl 1 rfl) ?_
      refine g_iald hC V 1 rfl (vp_in_nI (by decide) (by decide)) (v := (-1)) (by rw [nI_clamp (by decide)]; rfl) dX8_perform_25 ?_
      refine lv_iconst (v := (-1)) hx hb dX8_perform_26 (by decide +kernel) ?_
      refine lv_icmp_ne (tgt := 35) hx hb dX8_perform_27 (by decide) (fun c => absurd (show (-1 : Int32) = (-1 : Int32) by first | rfl | decide +kernel) c) (fun _ => ?_)
      refine lv_bipush (v := (-6)) hx hb dX8_perform_30 (by decide +kernel) ?_
      refine lv_goto (tgt := 40) hx hb dX8_perform_32 (by decide) ?_
      have V := V.sub (ws' := []) [] rfl rfl
      exact g_iret (Qr := (q_pm_perform T o row g1 g2 g3 g4 g15 g17 g20 g22 g23 g24 g28 g29 g31 g32 g33)) hC V ⟨(Nat.le_of_ble_eq_true rfl), (Nat.le_of_ble_eq_true rfl)⟩ ⟨(-6), rfl, rfl, (by first | exact pf_row_1 ‹_› | exact pf_row_2 ‹_› ‹_›)⟩ dX8_perform_40
  · have V : gW D T A s [(o, .inr (8, [.int (nI 0), .ref g1, .ref g2, .ref g3, .ref g4, .int (nI 0), .int (nI 0), .int (nI 0), .int (nI 0), .int (nI 0), .int (nI 0), .int (nI 0), .int (nI 0), .int (nI 0), .int (-1), .ref g15, .int (nI 0), .ref g17, .int (nI 0), .int (nI 0), .ref g20, .int (nI 0), .ref g22, .ref g23, .ref g24, .int (nI 0), .int (nI 0), .int (nI 0), .ref g28, .ref g29, .int (nI 0), .ref g31, .ref g32, .ref g33])), (g31, .inl (T 0, 4, .inl (upd (upd (upd (upd (fun _ => nI 0) 0 (-1)) 1 (-1)) 2 (-1)) 3 (-1))))] H locs := V
    show W p l e _ s m args below meth c H locs _ _ _ (F0 m 14 ls [.int (nI 0)])
    have r0_row : (row < 0 ∨ nI 4 ≤ row) := cv_r0 rfl (by decide) f_3
    refine lv_if_ne (tgt := 20) hx hb dX8_perform_14 (by decide) (fun c => absurd (show (nI 0) = 0 by decide +kernel) c) (fun _ => ?_)
    refine lv_bipush (v := (-2)) hx hb dX8_perform_17 (by decide +kernel) ?_
    have V := V.sub (ws' := []) [] rfl rfl
    exact g_iret (Qr := (q_pm_perform T o row g1 g2 g3 g4 g15 g17 g20 g22 g23 g24 g28 g29 g31 g32 g33)) hC V ⟨(Nat.le_of_ble_eq_true rfl), (Nat.le_of_ble_eq_true rfl)⟩ ⟨(-2), rfl, rfl, (by first | exact pf_row_1 ‹_› | exact pf_row_2 ‹_› ‹_›)⟩ dX8_perform_19

def q_pm_copy (T : Nat → ClassId) (o : Nat) (row : Int32) (g1 : Nat) (g2 : Nat) (g3 : Nat) (g4 : Nat) (g15 : Nat) (g17 : Nat) (g20 : Nat) (g22 : Nat) (g23 : Nat) (g24 : Nat) (g28 : Nat) (g29 : Nat) (g31 : Nat) (g32 : Nat) (g33 : Nat) : Option Value → va_W → Prop := fun rr ww => (∃ (z : Int32), rr = some (.int z) ∧ ww = [] ∧ z = pf_row row)
set_option maxHeartbeats 4000000 in
set_option maxRecDepth 100000 in
theorem pm_copy (l : Launch) (D : va_G) (T : Nat → ClassId) (o : Nat) (row : Int32) (g1 : Nat) (g2 : Nat) (g3 : Nat) (g4 : Nat) (g15 : Nat) (g17 : Nat) (g20 : Nat) (g22 : Nat) (g23 : Nat) (g24 : Nat) (g28 : Nat) (g29 : Nat) (g31 : Nat) (g32 : Nat) (g33 : Nat) : Ct l yX8_copy cX8_copy 3 (some .int) 1 0 0 D T [.ref o, .int row] [(o, .inr (8, [.int (nI 0), .ref g1, .ref g2, .ref g3, .ref g4, .int (nI 0), .int (nI 0), .int (nI 0), .int (nI 0), .int (nI 0), .int (nI 0), .int (nI 0), .int (nI 0), .int (nI 0), .int (-1), .ref g15, .int (nI 0), .ref g17, .int (nI 0), .int (nI 0), .ref g20, .int (nI 0), .ref g22, .ref g23, .ref g24, .int (nI 0), .int (nI 0), .int (nI 0), .ref g28, .ref g29, .int (nI 0), .ref g31, .ref g32, .ref g33])), (g31, .inl (T 0, 4, .inl (upd (upd (upd (upd (fun _ => nI 0) 0 (-1)) 1 (-1)) 2 (-1)) 3 (-1))))] (q_pm_copy T o row g1 g2 g3 g4 g15 g17 g20 g22 g23 g24 g28 g29 g31 g32 g33) := by
  refine Ct.of (cc := cX8_copy) (maxL := 3) (ret := (some .int)) (by decide) (Nat.le_of_ble_eq_true rfl) ?_
  intro p e s m args below meth c A ls hC hnm V hl
  obtain ⟨hx, hb, hr, hml, hown, hts, hlocks⟩ := id hC
  generalize hH : s.heap = H at V ⊢
  clear hH
  have hl : lv_has ls 3 [(0, .ref o), (1, .int row)] := hl
  generalize hlo : ([] : List Loc) = locs at V ⊢
  clear hlo
  refine lv_aload_n hx hb dX8_copy_0 rfl (lv_at hl 0 rfl) ?_
  refine lv_iconst (v := (nI 0)) hx hb dX8_copy_1 (by decide +kernel) ?_
  refine g_put hC V (ci := 8) uwX8 tyX8 tyX8_ok nmX8 0 rfl rfl 0 (by decide) w_912 rfl rfl rfl rfl (Nat.le_of_ble_eq_true rfl) (ws' := [(o, .inr (8, [.int (nI 0), .ref g1, .ref g2, .ref g3, .ref g4, .int (nI 0), .int (nI 0), .int (nI 0), .int (nI 0), .int (nI 0), .int (nI 0), .int (nI 0), .int (nI 0), .int (nI 0), .int (-1), .ref g15, .int (nI 0), .ref g17, .int (nI 0), .int (nI 0), .ref g20, .int (nI 0), .ref g22, .ref g23, .ref g24, .int (nI 0), .int (nI 0), .int (nI 0), .ref g28, .ref g29, .int (nI 0), .ref g31, .ref g32, .ref g33])), (g31, .inl (T 0, 4, .inl (upd (upd (upd (upd (fun _ => nI 0) 0 (-1)) 1 (-1)) 2 (-1)) 3 (-1))))]) rfl dX8_copy_2 (fun H locs V => ?_)
  refine lv_iload_n hx hb dX8_copy_5 rfl (lv_at hl 1 rfl) ?_
  refine lv_i2l (v := row.toInt64) hx hb dX8_copy_6 rfl ?_
  refine lv_lconst (v := (nI 0).toInt64) hx hb dX8_copy_7 (by decide +kernel) ?_
  refine lv_ldc2 (v := (3)) hx hb hown (hts _ w_1144) dX8_copy_8 ?_
  refine g_vl (y := (nI 3).toInt64) (by decide +kernel) ?_
  refine g_callS (wr := [(o, .inr (8, [.int (nI 0), .ref g1, .ref g2, .ref g3, .ref g4, .int (nI 0), .int (nI 0), .int (nI 0), .int (nI 0), .int (nI 0), .int (nI 0), .int (nI 0), .int (nI 0), .int (nI 0), .int (-1), .ref g15, .int (nI 0), .ref g17, .int (nI 0), .int (nI 0), .ref g20, .int (nI 0), .ref g22, .ref g23, .ref g24, .int (nI 0), .int (nI 0), .int (nI 0), .ref g28, .ref g29, .int (nI 0), .ref g31, .ref g32, .ref g33])), (g31, .inl (T 0, 4, .inl (upd (upd (upd (upd (fun _ => nI 0) 0 (-1)) 1 (-1)) 2 (-1)) 3 (-1))))]) (nA := 3) hC V hl.1 (c_within l D T row (nI 0) (nI 3)) w_1023 w_1024 w_9 w_1025 (by decide +kernel) rfl ⟨(Nat.le_of_ble_eq_true rfl), (Nat.le_of_ble_eq_true rfl)⟩ [] [0, 1] rfl rfl rfl rfl (by decide) (Nat.le_of_ble_eq_true rfl) dX8_copy_11 ⟨(Nat.le_of_ble_eq_true rfl), (Nat.le_of_ble_eq_true rfl)⟩ rfl (fun r w1 H locs hQ V => ?_)
  rcases hQ with ⟨rfl, rfl, f_1, f_2⟩ | ⟨rfl, rfl, f_3⟩
  · have V : gW D T A s [(o, .inr (8, [.int (nI 0), .ref g1, .ref g2, .ref g3, .ref g4, .int (nI 0), .int (nI 0), .int (nI 0), .int (nI 0), .int (nI 0), .int (nI 0), .int (nI 0), .int (nI 0), .int (nI 0), .int (-1), .ref g15, .int (nI 0), .ref g17, .int (nI 0), .int (nI 0), .ref g20, .int (nI 0), .ref g22, .ref g23, .ref g24, .int (nI 0), .int (nI 0), .int (nI 0), .ref g28, .ref g29, .int (nI 0), .ref g31, .ref g32, .ref g33])), (g31, .inl (T 0, 4, .inl (upd (upd (upd (upd (fun _ => nI 0) 0 (-1)) 1 (-1)) 2 (-1)) 3 (-1))))] H locs := V
    show W p l e _ s m args below meth c H locs _ _ _ (F0 m 14 ls [.int (nI 1)])
    have r1_row : ¬ row < 0 := f_1
    have r2_row : ¬ nI 4 ≤ row := cv_r2 rfl (by decide) f_2
    obtain ⟨j_4, hj_4, ej_4⟩ := g_idx (n := 4) (by decide) r1_row r2_row
    rw [ej_4] at hl
    have hj_4 : j_4 = 0 ∨ j_4 = 1 ∨ j_4 = 2 ∨ j_4 = 3 := by omega
    rcases hj_4 with rfl | rfl | rfl | rfl
    · skip
      refine lv_if_ne (tgt := 20) hx hb dX8_copy_14 (by decide) (fun _ => ?_) (fun c => absurd (show (nI 1) = 0 from c) (by decide +kernel))
      refine lv_aload_n hx hb dX8_copy_20 rfl (lv_at hl 0 rfl) ?_
      refine g_get hC V (ci := 8) uwX8 0 rfl rfl 31 (by decide) w_943 rfl rfl dX8_copy_21 ?_
      refine lv_iload_n hx hb dX8_copy_24 rfl (lv_at hl 1 rfl) ?_
      refine g_iald hC V 1 rfl (vp_in_nI (by decide) (by decide)) (v := (-1)) (by rw [nI_clamp (by decide)]; rfl) dX8_copy_25 ?_
      refine lv_iconst (v := (-1)) hx hb dX8_copy_26 (by decide +kernel) ?_
      refine lv_icmp_ne (tgt := 33) hx hb dX8_copy_27 (by decide) (fun c => absurd (show (-1 : Int32) = (-1 : Int32) by first | rfl | decide +kernel) c) (fun _ => ?_)
      refine lv_bipush (v := (-6)) hx hb dX8_copy_30 (by decide +kernel) ?_
      have V := V.sub (ws' := []) [] rfl rfl
      exact g_iret (Qr := (q_pm_copy T o row g1 g2 g3 g4 g15 g17 g20 g22 g23 g24 g28 g29 g31 g32 g33)) hC V ⟨(Nat.le_of_ble_eq_true rfl), (Nat.le_of_ble_eq_true rfl)⟩ ⟨(-6), rfl, rfl, (by first | exact pf_row_1 ‹_› | exact pf_row_2 ‹_› ‹_›)⟩ dX8_copy_32
    · skip
      refine lv_if_ne (tgt := 20) hx hb dX8_copy_14 (by decide) (fun _ => ?_) (fun c => absurd (show (nI 1) = 0 from c) (by decide +kernel))
      refine lv_aload_n hx hb dX8_copy_20 rfl (lv_at hl 0 rfl) ?_
      refine g_get hC V (ci := 8) uwX8 0 rfl rfl 31 (by decide) w_943 rfl rfl dX8_copy_21 ?_
      refine lv_iload_n hx hb dX8_copy_24 rfl (lv_at hl 1 rfl) ?_
      refine g_iald hC V 1 rfl (vp_in_nI (by decide) (by decide)) (v := (-1)) (by rw [nI_clamp (by decide)]; rfl) dX8_copy_25 ?_
      refine lv_iconst (v := (-1)) hx hb dX8_copy_26 (by decide +kernel) ?_
      refine lv_icmp_ne (tgt := 33) hx hb dX8_copy_27 (by decide) (fun c => absurd (show (-1 : Int32) = (-1 : Int32) by first | rfl | decide +kernel) c) (fun _ => ?_)
      refine lv_bipush (v := (-6)) hx hb dX8_copy_30 (by decide +kernel) ?_
      have V := V.sub (ws' := []) [] rfl rfl
      exact g_iret (Qr := (q_pm_copy T o row g1 g2 g3 g4 g15 g17 g20 g22 g23 g24 g28 g29 g31 g32 g33)) hC V ⟨(Nat.le_of_ble_eq_true rfl), (Nat.le_of_ble_eq_true rfl)⟩ ⟨(-6), rfl, rfl, (by first | exact pf_row_1 ‹_› | exact pf_row_2 ‹_› ‹_›)⟩ dX8_copy_32
    · skip
      refine lv_if_ne (tgt := 20) hx hb dX8_copy_14 (by decide) (fun _ => ?_) (fun c => absurd (show (nI 1) = 0 from c) (by decide +kernel))
      refine lv_aload_n hx hb dX8_copy_20 rfl (lv_at hl 0 rfl) ?_
      refine g_get hC V (ci := 8) uwX8 0 rfl rfl 31 (by decide) w_943 rfl rfl dX8_copy_21 ?_
      refine lv_iload_n hx hb dX8_copy_24 rfl (lv_at hl 1 rfl) ?_
      refine g_iald hC V 1 rfl (vp_in_nI (by decide) (by decide)) (v := (-1)) (by rw [nI_clamp (by decide)]; rfl) dX8_copy_25 ?_
      refine lv_iconst (v := (-1)) hx hb dX8_copy_26 (by decide +kernel) ?_
      refine lv_icmp_ne (tgt := 33) hx hb dX8_copy_27 (by decide) (fun c => absurd (show (-1 : Int32) = (-1 : Int32) by first | rfl | decide +kernel) c) (fun _ => ?_)
      refine lv_bipush (v := (-6)) hx hb dX8_copy_30 (by decide +kernel) ?_
      have V := V.sub (ws' := []) [] rfl rfl
      exact g_iret (Qr := (q_pm_copy T o row g1 g2 g3 g4 g15 g17 g20 g22 g23 g24 g28 g29 g31 g32 g33)) hC V ⟨(Nat.le_of_ble_eq_true rfl), (Nat.le_of_ble_eq_true rfl)⟩ ⟨(-6), rfl, rfl, (by first | exact pf_row_1 ‹_› | exact pf_row_2 ‹_› ‹_›)⟩ dX8_copy_32
    · skip
      refine lv_if_ne (tgt := 20) hx hb dX8_copy_14 (by decide) (fun _ => ?_) (fun c => absurd (show (nI 1) = 0 from c) (by decide +kernel))
      refine lv_aload_n hx hb dX8_copy_20 rfl (lv_at hl 0 rfl) ?_
      refine g_get hC V (ci := 8) uwX8 0 rfl rfl 31 (by decide) w_943 rfl rfl dX8_copy_21 ?_
      refine lv_iload_n hx hb dX8_copy_24 rfl (lv_at hl 1 rfl) ?_
      refine g_iald hC V 1 rfl (vp_in_nI (by decide) (by decide)) (v := (-1)) (by rw [nI_clamp (by decide)]; rfl) dX8_copy_25 ?_
      refine lv_iconst (v := (-1)) hx hb dX8_copy_26 (by decide +kernel) ?_
      refine lv_icmp_ne (tgt := 33) hx hb dX8_copy_27 (by decide) (fun c => absurd (show (-1 : Int32) = (-1 : Int32) by first | rfl | decide +kernel) c) (fun _ => ?_)
      refine lv_bipush (v := (-6)) hx hb dX8_copy_30 (by decide +kernel) ?_
      have V := V.sub (ws' := []) [] rfl rfl
      exact g_iret (Qr := (q_pm_copy T o row g1 g2 g3 g4 g15 g17 g20 g22 g23 g24 g28 g29 g31 g32 g33)) hC V ⟨(Nat.le_of_ble_eq_true rfl), (Nat.le_of_ble_eq_true rfl)⟩ ⟨(-6), rfl, rfl, (by first | exact pf_row_1 ‹_› | exact pf_row_2 ‹_› ‹_›)⟩ dX8_copy_32
  · have V : gW D T A s [(o, .inr (8, [.int (nI 0), .ref g1, .ref g2, .ref g3, .ref g4, .int (nI 0), .int (nI 0), .int (nI 0), .int (nI 0), .int (nI 0), .int (nI 0), .int (nI 0), .int (nI 0), .int (nI 0), .int (-1), .ref g15, .int (nI 0), .ref g17, .int (nI 0), .int (nI 0), .ref g20, .int (nI 0), .ref g22, .ref g23, .ref g24, .int (nI 0), .int (nI 0), .int (nI 0), .ref g28, .ref g29, .int (nI 0), .ref g31, .ref g32, .ref g33])), (g31, .inl (T 0, 4, .inl (upd (upd (upd (upd (fun _ => nI 0) 0 (-1)) 1 (-1)) 2 (-1)) 3 (-1))))] H locs := V
    show W p l e _ s m args below meth c H locs _ _ _ (F0 m 14 ls [.int (nI 0)])
    have r0_row : (row < 0 ∨ nI 4 ≤ row) := cv_r0 rfl (by decide) f_3
    refine lv_if_ne (tgt := 20) hx hb dX8_copy_14 (by decide) (fun c => absurd (show (nI 0) = 0 by decide +kernel) c) (fun _ => ?_)
    refine lv_bipush (v := (-2)) hx hb dX8_copy_17 (by decide +kernel) ?_
    have V := V.sub (ws' := []) [] rfl rfl
    exact g_iret (Qr := (q_pm_copy T o row g1 g2 g3 g4 g15 g17 g20 g22 g23 g24 g28 g29 g31 g32 g33)) hC V ⟨(Nat.le_of_ble_eq_true rfl), (Nat.le_of_ble_eq_true rfl)⟩ ⟨(-2), rfl, rfl, (by first | exact pf_row_1 ‹_› | exact pf_row_2 ‹_› ‹_›)⟩ dX8_copy_19

def q_m_refusesSeen (T : Nat → ClassId) (o : Nat) (row : Int32) (w0 : Int32) (g1 : Nat) (g2 : Nat) (g3 : Nat) (g4 : Nat) (w5 : Int32) (w6 : Int32) (w7 : Int32) (w8 : Int32) (w9 : Int32) (w10 : Int32) (w11 : Int32) (w12 : Int32) (w13 : Int32) (w14 : Int32) (g15 : Nat) (w16 : Int32) (g17 : Nat) (w18 : Int32) (w19 : Int32) (g20 : Nat) (w21 : Int32) (g22 : Nat) (g23 : Nat) (g24 : Nat) (w25 : Int32) (w26 : Int32) (w27 : Int32) (g28 : Nat) (g29 : Nat) (w30 : Int32) (g31 : Nat) (g32 : Nat) (g33 : Nat) : Option Value → va_W → Prop := fun rr ww => (rr = some (.int (-2)) ∧ ww = [(o, .inr (8, [.int w0, .ref g1, .ref g2, .ref g3, .ref g4, .int w5, .int w6, .int w7, .int w8, .int w9, .int w10, .int w11, .int w12, .int w13, .int w14, .ref g15, .int w16, .ref g17, .int w18, .int w19, .ref g20, .int w21, .ref g22, .ref g23, .ref g24, .int w25, .int w26, .int w27, .ref g28, .ref g29, .int w30, .ref g31, .ref g32, .ref g33])), (g31, .inl (T 0, 4, .inl (upd (upd (upd (upd (fun _ => nI 0) 0 (-1)) 1 (-1)) 2 (-1)) 3 (-1))))] ∧ (row < 0 ∨ nI 4 ≤ row)) ∨ (rr = some (.int (-6)) ∧ ww = [(o, .inr (8, [.int w0, .ref g1, .ref g2, .ref g3, .ref g4, .int w5, .int w6, .int w7, .int w8, .int w9, .int w10, .int w11, .int w12, .int w13, .int w14, .ref g15, .int w16, .ref g17, .int w18, .int w19, .ref g20, .int w21, .ref g22, .ref g23, .ref g24, .int w25, .int w26, .int w27, .ref g28, .ref g29, .int w30, .ref g31, .ref g32, .ref g33])), (g31, .inl (T 0, 4, .inl (upd (upd (upd (upd (fun _ => nI 0) 0 (-1)) 1 (-1)) 2 (-1)) 3 (-1))))] ∧ ¬ row < 0 ∧ ¬ nI 4 ≤ row)
set_option maxHeartbeats 4000000 in
set_option maxRecDepth 100000 in
theorem m_refusesSeen (l : Launch) (D : va_G) (T : Nat → ClassId) (o : Nat) (row : Int32) (w0 : Int32) (g1 : Nat) (g2 : Nat) (g3 : Nat) (g4 : Nat) (w5 : Int32) (w6 : Int32) (w7 : Int32) (w8 : Int32) (w9 : Int32) (w10 : Int32) (w11 : Int32) (w12 : Int32) (w13 : Int32) (w14 : Int32) (g15 : Nat) (w16 : Int32) (g17 : Nat) (w18 : Int32) (w19 : Int32) (g20 : Nat) (w21 : Int32) (g22 : Nat) (g23 : Nat) (g24 : Nat) (w25 : Int32) (w26 : Int32) (w27 : Int32) (g28 : Nat) (g29 : Nat) (w30 : Int32) (g31 : Nat) (g32 : Nat) (g33 : Nat) : Ct l yX8_refusesSeen cX8_refusesSeen 2 (some .int) 1 0 0 D T [.ref o, .int row] [(o, .inr (8, [.int w0, .ref g1, .ref g2, .ref g3, .ref g4, .int w5, .int w6, .int w7, .int w8, .int w9, .int w10, .int w11, .int w12, .int w13, .int w14, .ref g15, .int w16, .ref g17, .int w18, .int w19, .ref g20, .int w21, .ref g22, .ref g23, .ref g24, .int w25, .int w26, .int w27, .ref g28, .ref g29, .int w30, .ref g31, .ref g32, .ref g33])), (g31, .inl (T 0, 4, .inl (upd (upd (upd (upd (fun _ => nI 0) 0 (-1)) 1 (-1)) 2 (-1)) 3 (-1))))] (q_m_refusesSeen T o row w0 g1 g2 g3 g4 w5 w6 w7 w8 w9 w10 w11 w12 w13 w14 g15 w16 g17 w18 w19 g20 w21 g22 g23 g24 w25 w26 w27 g28 g29 w30 g31 g32 g33) := by
  refine Ct.of (cc := cX8_refusesSeen) (maxL := 2) (ret := (some .int)) (by decide) (Nat.le_of_ble_eq_true rfl) ?_
  intro p e s m args below meth c A ls hC hnm V hl
  obtain ⟨hx, hb, hr, hml, hown, hts, hlocks⟩ := id hC
  generalize hH : s.heap = H at V ⊢
  clear hH
  have hl : lv_has ls 2 [(0, .ref o), (1, .int row)] := hl
  generalize hlo : ([] : List Loc) = locs at V ⊢
  clear hlo
  refine lv_iload_n hx hb dX8_refusesSeen_0 rfl (lv_at hl 1 rfl) ?_
  refine lv_i2l (v := row.toInt64) hx hb dX8_refusesSeen_1 rfl ?_
  refine lv_lconst (v := (nI 0).toInt64) hx hb dX8_refusesSeen_2 (by decide +kernel) ?_
  refine lv_ldc2 (v := (3)) hx hb hown (hts _ w_1144) dX8_refusesSeen_3 ?_
  refine g_vl (y := (nI 3).toInt64) (by decide +kernel) ?_
  refine g_callS (wr := [(o, .inr (8, [.int w0, .ref g1, .ref g2, .ref g3, .ref g4, .int w5, .int w6, .int w7, .int w8, .int w9, .int w10, .int w11, .int w12, .int w13, .int w14, .ref g15, .int w16, .ref g17, .int w18, .int w19, .ref g20, .int w21, .ref g22, .ref g23, .ref g24, .int w25, .int w26, .int w27, .ref g28, .ref g29, .int w30, .ref g31, .ref g32, .ref g33])), (g31, .inl (T 0, 4, .inl (upd (upd (upd (upd (fun _ => nI 0) 0 (-1)) 1 (-1)) 2 (-1)) 3 (-1))))]) (nA := 3) hC V hl.1 (c_within l D T row (nI 0) (nI 3)) w_1023 w_1024 w_9 w_1025 (by decide +kernel) rfl ⟨(Nat.le_of_ble_eq_true rfl), (Nat.le_of_ble_eq_true rfl)⟩ [] [0, 1] rfl rfl rfl rfl (by decide) (Nat.le_of_ble_eq_true rfl) dX8_refusesSeen_6 ⟨(Nat.le_of_ble_eq_true rfl), (Nat.le_of_ble_eq_true rfl)⟩ rfl (fun r w1 H locs hQ V => ?_)
  rcases hQ with ⟨rfl, rfl, f_1, f_2⟩ | ⟨rfl, rfl, f_3⟩
  · have V : gW D T A s [(o, .inr (8, [.int w0, .ref g1, .ref g2, .ref g3, .ref g4, .int w5, .int w6, .int w7, .int w8, .int w9, .int w10, .int w11, .int w12, .int w13, .int w14, .ref g15, .int w16, .ref g17, .int w18, .int w19, .ref g20, .int w21, .ref g22, .ref g23, .ref g24, .int w25, .int w26, .int w27, .ref g28, .ref g29, .int w30, .ref g31, .ref g32, .ref g33])), (g31, .inl (T 0, 4, .inl (upd (upd (upd (upd (fun _ => nI 0) 0 (-1)) 1 (-1)) 2 (-1)) 3 (-1))))] H locs := V
    show W p l e _ s m args below meth c H locs _ _ _ (F0 m 9 ls [.int (nI 1)])
    have r1_row : ¬ row < 0 := f_1
    have r2_row : ¬ nI 4 ≤ row := cv_r2 rfl (by decide) f_2
    obtain ⟨j_4, hj_4, ej_4⟩ := g_idx (n := 4) (by decide) r1_row r2_row
    rw [ej_4] at hl
    have hj_4 : j_4 = 0 ∨ j_4 = 1 ∨ j_4 = 2 ∨ j_4 = 3 := by omega
    rcases hj_4 with rfl | rfl | rfl | rfl
    · skip
      refine lv_if_ne (tgt := 15) hx hb dX8_refusesSeen_9 (by decide) (fun _ => ?_) (fun c => absurd (show (nI 1) = 0 from c) (by decide +kernel))
      refine lv_aload_n hx hb dX8_refusesSeen_15 rfl (lv_at hl 0 rfl) ?_
      refine g_get hC V (ci := 8) uwX8 0 rfl rfl 31 (by decide) w_943 rfl rfl dX8_refusesSeen_16 ?_
      refine lv_iload_n hx hb dX8_refusesSeen_19 rfl (lv_at hl 1 rfl) ?_
      refine g_iald hC V 1 rfl (vp_in_nI (by decide) (by decide)) (v := (-1)) (by rw [nI_clamp (by decide)]; rfl) dX8_refusesSeen_20 ?_
      refine lv_iconst (v := (-1)) hx hb dX8_refusesSeen_21 (by decide +kernel) ?_
      refine lv_icmp_ne (tgt := 28) hx hb dX8_refusesSeen_22 (by decide) (fun c => absurd (show (-1 : Int32) = (-1 : Int32) by first | rfl | decide +kernel) c) (fun _ => ?_)
      refine lv_bipush (v := (-6)) hx hb dX8_refusesSeen_25 (by decide +kernel) ?_
      exact g_iret (Qr := (q_m_refusesSeen T o row w0 g1 g2 g3 g4 w5 w6 w7 w8 w9 w10 w11 w12 w13 w14 g15 w16 g17 w18 w19 g20 w21 g22 g23 g24 w25 w26 w27 g28 g29 w30 g31 g32 g33)) hC V ⟨(Nat.le_of_ble_eq_true rfl), (Nat.le_of_ble_eq_true rfl)⟩ (.inr ⟨rfl, rfl, (by assumption), (by assumption)⟩) dX8_refusesSeen_27
    · skip
      refine lv_if_ne (tgt := 15) hx hb dX8_refusesSeen_9 (by decide) (fun _ => ?_) (fun c => absurd (show (nI 1) = 0 from c) (by decide +kernel))
      refine lv_aload_n hx hb dX8_refusesSeen_15 rfl (lv_at hl 0 rfl) ?_
      refine g_get hC V (ci := 8) uwX8 0 rfl rfl 31 (by decide) w_943 rfl rfl dX8_refusesSeen_16 ?_
      refine lv_iload_n hx hb dX8_refusesSeen_19 rfl (lv_at hl 1 rfl) ?_
      refine g_iald hC V 1 rfl (vp_in_nI (by decide) (by decide)) (v := (-1)) (by rw [nI_clamp (by decide)]; rfl) dX8_refusesSeen_20 ?_
      refine lv_iconst (v := (-1)) hx hb dX8_refusesSeen_21 (by decide +kernel) ?_
      refine lv_icmp_ne (tgt := 28) hx hb dX8_refusesSeen_22 (by decide) (fun c => absurd (show (-1 : Int32) = (-1 : Int32) by first | rfl | decide +kernel) c) (fun _ => ?_)
      refine lv_bipush (v := (-6)) hx hb dX8_refusesSeen_25 (by decide +kernel) ?_
      exact g_iret (Qr := (q_m_refusesSeen T o row w0 g1 g2 g3 g4 w5 w6 w7 w8 w9 w10 w11 w12 w13 w14 g15 w16 g17 w18 w19 g20 w21 g22 g23 g24 w25 w26 w27 g28 g29 w30 g31 g32 g33)) hC V ⟨(Nat.le_of_ble_eq_true rfl), (Nat.le_of_ble_eq_true rfl)⟩ (.inr ⟨rfl, rfl, (by assumption), (by assumption)⟩) dX8_refusesSeen_27
    · skip
      refine lv_if_ne (tgt := 15) hx hb dX8_refusesSeen_9 (by decide) (fun _ => ?_) (fun c => absurd (show (nI 1) = 0 from c) (by decide +kernel))
      refine lv_aload_n hx hb dX8_refusesSeen_15 rfl (lv_at hl 0 rfl) ?_
      refine g_get hC V (ci := 8) uwX8 0 rfl rfl 31 (by decide) w_943 rfl rfl dX8_refusesSeen_16 ?_
      refine lv_iload_n hx hb dX8_refusesSeen_19 rfl (lv_at hl 1 rfl) ?_
      refine g_iald hC V 1 rfl (vp_in_nI (by decide) (by decide)) (v := (-1)) (by rw [nI_clamp (by decide)]; rfl) dX8_refusesSeen_20 ?_
      refine lv_iconst (v := (-1)) hx hb dX8_refusesSeen_21 (by decide +kernel) ?_
      refine lv_icmp_ne (tgt := 28) hx hb dX8_refusesSeen_22 (by decide) (fun c => absurd (show (-1 : Int32) = (-1 : Int32) by first | rfl | decide +kernel) c) (fun _ => ?_)
      refine lv_bipush (v := (-6)) hx hb dX8_refusesSeen_25 (by decide +kernel) ?_
      exact g_iret (Qr := (q_m_refusesSeen T o row w0 g1 g2 g3 g4 w5 w6 w7 w8 w9 w10 w11 w12 w13 w14 g15 w16 g17 w18 w19 g20 w21 g22 g23 g24 w25 w26 w27 g28 g29 w30 g31 g32 g33)) hC V ⟨(Nat.le_of_ble_eq_true rfl), (Nat.le_of_ble_eq_true rfl)⟩ (.inr ⟨rfl, rfl, (by assumption), (by assumption)⟩) dX8_refusesSeen_27
    · skip
      refine lv_if_ne (tgt := 15) hx hb dX8_refusesSeen_9 (by decide) (fun _ => ?_) (fun c => absurd (show (nI 1) = 0 from c) (by decide +kernel))
      refine lv_aload_n hx hb dX8_refusesSeen_15 rfl (lv_at hl 0 rfl) ?_
      refine g_get hC V (ci := 8) uwX8 0 rfl rfl 31 (by decide) w_943 rfl rfl dX8_refusesSeen_16 ?_
      refine lv_iload_n hx hb dX8_refusesSeen_19 rfl (lv_at hl 1 rfl) ?_
      refine g_iald hC V 1 rfl (vp_in_nI (by decide) (by decide)) (v := (-1)) (by rw [nI_clamp (by decide)]; rfl) dX8_refusesSeen_20 ?_
      refine lv_iconst (v := (-1)) hx hb dX8_refusesSeen_21 (by decide +kernel) ?_
      refine lv_icmp_ne (tgt := 28) hx hb dX8_refusesSeen_22 (by decide) (fun c => absurd (show (-1 : Int32) = (-1 : Int32) by first | rfl | decide +kernel) c) (fun _ => ?_)
      refine lv_bipush (v := (-6)) hx hb dX8_refusesSeen_25 (by decide +kernel) ?_
      exact g_iret (Qr := (q_m_refusesSeen T o row w0 g1 g2 g3 g4 w5 w6 w7 w8 w9 w10 w11 w12 w13 w14 g15 w16 g17 w18 w19 g20 w21 g22 g23 g24 w25 w26 w27 g28 g29 w30 g31 g32 g33)) hC V ⟨(Nat.le_of_ble_eq_true rfl), (Nat.le_of_ble_eq_true rfl)⟩ (.inr ⟨rfl, rfl, (by assumption), (by assumption)⟩) dX8_refusesSeen_27
  · have V : gW D T A s [(o, .inr (8, [.int w0, .ref g1, .ref g2, .ref g3, .ref g4, .int w5, .int w6, .int w7, .int w8, .int w9, .int w10, .int w11, .int w12, .int w13, .int w14, .ref g15, .int w16, .ref g17, .int w18, .int w19, .ref g20, .int w21, .ref g22, .ref g23, .ref g24, .int w25, .int w26, .int w27, .ref g28, .ref g29, .int w30, .ref g31, .ref g32, .ref g33])), (g31, .inl (T 0, 4, .inl (upd (upd (upd (upd (fun _ => nI 0) 0 (-1)) 1 (-1)) 2 (-1)) 3 (-1))))] H locs := V
    show W p l e _ s m args below meth c H locs _ _ _ (F0 m 9 ls [.int (nI 0)])
    have r0_row : (row < 0 ∨ nI 4 ≤ row) := cv_r0 rfl (by decide) f_3
    refine lv_if_ne (tgt := 15) hx hb dX8_refusesSeen_9 (by decide) (fun c => absurd (show (nI 0) = 0 by decide +kernel) c) (fun _ => ?_)
    refine lv_bipush (v := (-2)) hx hb dX8_refusesSeen_12 (by decide +kernel) ?_
    exact g_iret (Qr := (q_m_refusesSeen T o row w0 g1 g2 g3 g4 w5 w6 w7 w8 w9 w10 w11 w12 w13 w14 g15 w16 g17 w18 w19 g20 w21 g22 g23 g24 w25 w26 w27 g28 g29 w30 g31 g32 g33)) hC V ⟨(Nat.le_of_ble_eq_true rfl), (Nat.le_of_ble_eq_true rfl)⟩ (.inl ⟨rfl, rfl, (by assumption)⟩) dX8_refusesSeen_14

def q_pm_seen (T : Nat → ClassId) (o : Nat) (row : Int32) (g1 : Nat) (g2 : Nat) (g3 : Nat) (g4 : Nat) (g15 : Nat) (g17 : Nat) (g20 : Nat) (g22 : Nat) (g23 : Nat) (g24 : Nat) (g28 : Nat) (g29 : Nat) (g31 : Nat) (g32 : Nat) (g33 : Nat) : Option Value → va_W → Prop := fun rr ww => (∃ (z : Int32), rr = some (.int z) ∧ ww = [] ∧ z = pf_row row)
set_option maxHeartbeats 4000000 in
set_option maxRecDepth 100000 in
theorem pm_seen (l : Launch) (D : va_G) (T : Nat → ClassId) (o : Nat) (row : Int32) (g1 : Nat) (g2 : Nat) (g3 : Nat) (g4 : Nat) (g15 : Nat) (g17 : Nat) (g20 : Nat) (g22 : Nat) (g23 : Nat) (g24 : Nat) (g28 : Nat) (g29 : Nat) (g31 : Nat) (g32 : Nat) (g33 : Nat) : Ct l yX8_seen cX8_seen 3 (some .int) 2 0 0 D T [.ref o, .int row] [(o, .inr (8, [.int (nI 0), .ref g1, .ref g2, .ref g3, .ref g4, .int (nI 0), .int (nI 0), .int (nI 0), .int (nI 0), .int (nI 0), .int (nI 0), .int (nI 0), .int (nI 0), .int (nI 0), .int (-1), .ref g15, .int (nI 0), .ref g17, .int (nI 0), .int (nI 0), .ref g20, .int (nI 0), .ref g22, .ref g23, .ref g24, .int (nI 0), .int (nI 0), .int (nI 0), .ref g28, .ref g29, .int (nI 0), .ref g31, .ref g32, .ref g33])), (g31, .inl (T 0, 4, .inl (upd (upd (upd (upd (fun _ => nI 0) 0 (-1)) 1 (-1)) 2 (-1)) 3 (-1))))] (q_pm_seen T o row g1 g2 g3 g4 g15 g17 g20 g22 g23 g24 g28 g29 g31 g32 g33) := by
  refine Ct.of (cc := cX8_seen) (maxL := 3) (ret := (some .int)) (by decide) (Nat.le_of_ble_eq_true rfl) ?_
  intro p e s m args below meth c A ls hC hnm V hl
  obtain ⟨hx, hb, hr, hml, hown, hts, hlocks⟩ := id hC
  generalize hH : s.heap = H at V ⊢
  clear hH
  have hl : lv_has ls 3 [(0, .ref o), (1, .int row)] := hl
  generalize hlo : ([] : List Loc) = locs at V ⊢
  clear hlo
  refine lv_aload_n hx hb dX8_seen_0 rfl (lv_at hl 0 rfl) ?_
  refine lv_iconst (v := (nI 0)) hx hb dX8_seen_1 (by decide +kernel) ?_
  refine g_put hC V (ci := 8) uwX8 tyX8 tyX8_ok nmX8 0 rfl rfl 0 (by decide) w_912 rfl rfl rfl rfl (Nat.le_of_ble_eq_true rfl) (ws' := [(o, .inr (8, [.int (nI 0), .ref g1, .ref g2, .ref g3, .ref g4, .int (nI 0), .int (nI 0), .int (nI 0), .int (nI 0), .int (nI 0), .int (nI 0), .int (nI 0), .int (nI 0), .int (nI 0), .int (-1), .ref g15, .int (nI 0), .ref g17, .int (nI 0), .int (nI 0), .ref g20, .int (nI 0), .ref g22, .ref g23, .ref g24, .int (nI 0), .int (nI 0), .int (nI 0), .ref g28, .ref g29, .int (nI 0), .ref g31, .ref g32, .ref g33])), (g31, .inl (T 0, 4, .inl (upd (upd (upd (upd (fun _ => nI 0) 0 (-1)) 1 (-1)) 2 (-1)) 3 (-1))))]) rfl dX8_seen_2 (fun H locs V => ?_)
  refine lv_aload_n hx hb dX8_seen_5 rfl (lv_at hl 0 rfl) ?_
  refine lv_iload_n hx hb dX8_seen_6 rfl (lv_at hl 1 rfl) ?_
  refine g_callV (wr := []) (nA := 1) hC V hl.1 (m_refusesSeen l D T o row (nI 0) g1 g2 g3 g4 (nI 0) (nI 0) (nI 0) (nI 0) (nI 0) (nI 0) (nI 0) (nI 0) (nI 0) (-1) g15 (nI 0) g17 (nI 0) (nI 0) g20 (nI 0) g22 g23 g24 (nI 0) (nI 0) (nI 0) g28 g29 (nI 0) g31 g32 g33) w_1304 w_1306 w_s73 w_9 w_1307 (by decide +kernel) rfl ⟨(Nat.le_of_ble_eq_true rfl), (Nat.le_of_ble_eq_true rfl)⟩ 0 (ci := 8) rfl rfl [0, 1] [] rfl rfl rfl rfl (by decide) (Nat.le_of_ble_eq_true rfl) dX8_seen_7 ⟨(Nat.le_of_ble_eq_true rfl), (Nat.le_of_ble_eq_true rfl)⟩ rfl (fun r w1 H locs hQ V => ?_)
  rcases hQ with ⟨rfl, rfl, f_1⟩ | ⟨rfl, rfl, f_2, f_3⟩
  · have V : gW D T A s [(o, .inr (8, [.int (nI 0), .ref g1, .ref g2, .ref g3, .ref g4, .int (nI 0), .int (nI 0), .int (nI 0), .int (nI 0), .int (nI 0), .int (nI 0), .int (nI 0), .int (nI 0), .int (nI 0), .int (-1), .ref g15, .int (nI 0), .ref g17, .int (nI 0), .int (nI 0), .ref g20, .int (nI 0), .ref g22, .ref g23, .ref g24, .int (nI 0), .int (nI 0), .int (nI 0), .ref g28, .ref g29, .int (nI 0), .ref g31, .ref g32, .ref g33])), (g31, .inl (T 0, 4, .inl (upd (upd (upd (upd (fun _ => nI 0) 0 (-1)) 1 (-1)) 2 (-1)) 3 (-1))))] H locs := V
    show W p l e _ s m args below meth c H locs _ _ _ (F0 m 10 ls [.int (-2)])
    refine lv_istore_n (lv' := [(2, .int (-2)), (0, .ref o), (1, .int row)]) hx hb dX8_seen_10 rfl hl (by decide) rfl (fun ls hl => ?_)
    refine lv_iload_n hx hb dX8_seen_11 rfl (lv_at hl 0 rfl) ?_
    refine lv_if_eq (tgt := 19) hx hb dX8_seen_12 (by decide) (fun c => absurd (show (-2 : Int32) = 0 from c) (by decide +kernel)) (fun _ => ?_)
    refine lv_iload_n hx hb dX8_seen_15 rfl (lv_at hl 0 rfl) ?_
    refine lv_goto (tgt := 24) hx hb dX8_seen_16 (by decide) ?_
    have V := V.sub (ws' := []) [] rfl rfl
    exact g_iret (Qr := (q_pm_seen T o row g1 g2 g3 g4 g15 g17 g20 g22 g23 g24 g28 g29 g31 g32 g33)) hC V ⟨(Nat.le_of_ble_eq_true rfl), (Nat.le_of_ble_eq_true rfl)⟩ ⟨(-2), rfl, rfl, (by first | exact pf_row_1 ‹_› | exact pf_row_2 ‹_› ‹_›)⟩ dX8_seen_24
  · have V : gW D T A s [(o, .inr (8, [.int (nI 0), .ref g1, .ref g2, .ref g3, .ref g4, .int (nI 0), .int (nI 0), .int (nI 0), .int (nI 0), .int (nI 0), .int (nI 0), .int (nI 0), .int (nI 0), .int (nI 0), .int (-1), .ref g15, .int (nI 0), .ref g17, .int (nI 0), .int (nI 0), .ref g20, .int (nI 0), .ref g22, .ref g23, .ref g24, .int (nI 0), .int (nI 0), .int (nI 0), .ref g28, .ref g29, .int (nI 0), .ref g31, .ref g32, .ref g33])), (g31, .inl (T 0, 4, .inl (upd (upd (upd (upd (fun _ => nI 0) 0 (-1)) 1 (-1)) 2 (-1)) 3 (-1))))] H locs := V
    show W p l e _ s m args below meth c H locs _ _ _ (F0 m 10 ls [.int (-6)])
    refine lv_istore_n (lv' := [(2, .int (-6)), (0, .ref o), (1, .int row)]) hx hb dX8_seen_10 rfl hl (by decide) rfl (fun ls hl => ?_)
    refine lv_iload_n hx hb dX8_seen_11 rfl (lv_at hl 0 rfl) ?_
    refine lv_if_eq (tgt := 19) hx hb dX8_seen_12 (by decide) (fun c => absurd (show (-6 : Int32) = 0 from c) (by decide +kernel)) (fun _ => ?_)
    refine lv_iload_n hx hb dX8_seen_15 rfl (lv_at hl 0 rfl) ?_
    refine lv_goto (tgt := 24) hx hb dX8_seen_16 (by decide) ?_
    have V := V.sub (ws' := []) [] rfl rfl
    exact g_iret (Qr := (q_pm_seen T o row g1 g2 g3 g4 g15 g17 g20 g22 g23 g24 g28 g29 g31 g32 g33)) hC V ⟨(Nat.le_of_ble_eq_true rfl), (Nat.le_of_ble_eq_true rfl)⟩ ⟨(-6), rfl, rfl, (by first | exact pf_row_1 ‹_› | exact pf_row_2 ‹_› ‹_›)⟩ dX8_seen_24

def q_pm_sure (T : Nat → ClassId) (o : Nat) (row : Int32) (pu : Int32) (g1 : Nat) (g2 : Nat) (g3 : Nat) (g4 : Nat) (g15 : Nat) (g17 : Nat) (g20 : Nat) (g22 : Nat) (g23 : Nat) (g24 : Nat) (g28 : Nat) (g29 : Nat) (g31 : Nat) (g32 : Nat) (g33 : Nat) : Option Value → va_W → Prop := fun rr ww => (∃ (z : Int32), rr = some (.int z) ∧ ww = [] ∧ z = pf_row row)
set_option maxHeartbeats 4000000 in
set_option maxRecDepth 100000 in
theorem pm_sure (l : Launch) (D : va_G) (T : Nat → ClassId) (o : Nat) (row : Int32) (pu : Int32) (g1 : Nat) (g2 : Nat) (g3 : Nat) (g4 : Nat) (g15 : Nat) (g17 : Nat) (g20 : Nat) (g22 : Nat) (g23 : Nat) (g24 : Nat) (g28 : Nat) (g29 : Nat) (g31 : Nat) (g32 : Nat) (g33 : Nat) : Ct l yX8_sure cX8_sure 4 (some .int) 2 0 0 D T [.ref o, .int row, .int pu] [(o, .inr (8, [.int (nI 0), .ref g1, .ref g2, .ref g3, .ref g4, .int (nI 0), .int (nI 0), .int (nI 0), .int (nI 0), .int (nI 0), .int (nI 0), .int (nI 0), .int (nI 0), .int (nI 0), .int (-1), .ref g15, .int (nI 0), .ref g17, .int (nI 0), .int (nI 0), .ref g20, .int (nI 0), .ref g22, .ref g23, .ref g24, .int (nI 0), .int (nI 0), .int (nI 0), .ref g28, .ref g29, .int (nI 0), .ref g31, .ref g32, .ref g33])), (g31, .inl (T 0, 4, .inl (upd (upd (upd (upd (fun _ => nI 0) 0 (-1)) 1 (-1)) 2 (-1)) 3 (-1))))] (q_pm_sure T o row pu g1 g2 g3 g4 g15 g17 g20 g22 g23 g24 g28 g29 g31 g32 g33) := by
  refine Ct.of (cc := cX8_sure) (maxL := 4) (ret := (some .int)) (by decide) (Nat.le_of_ble_eq_true rfl) ?_
  intro p e s m args below meth c A ls hC hnm V hl
  obtain ⟨hx, hb, hr, hml, hown, hts, hlocks⟩ := id hC
  generalize hH : s.heap = H at V ⊢
  clear hH
  have hl : lv_has ls 4 [(0, .ref o), (1, .int row), (2, .int pu)] := hl
  generalize hlo : ([] : List Loc) = locs at V ⊢
  clear hlo
  refine lv_aload_n hx hb dX8_sure_0 rfl (lv_at hl 0 rfl) ?_
  refine lv_iconst (v := (nI 0)) hx hb dX8_sure_1 (by decide +kernel) ?_
  refine g_put hC V (ci := 8) uwX8 tyX8 tyX8_ok nmX8 0 rfl rfl 0 (by decide) w_912 rfl rfl rfl rfl (Nat.le_of_ble_eq_true rfl) (ws' := [(o, .inr (8, [.int (nI 0), .ref g1, .ref g2, .ref g3, .ref g4, .int (nI 0), .int (nI 0), .int (nI 0), .int (nI 0), .int (nI 0), .int (nI 0), .int (nI 0), .int (nI 0), .int (nI 0), .int (-1), .ref g15, .int (nI 0), .ref g17, .int (nI 0), .int (nI 0), .ref g20, .int (nI 0), .ref g22, .ref g23, .ref g24, .int (nI 0), .int (nI 0), .int (nI 0), .ref g28, .ref g29, .int (nI 0), .ref g31, .ref g32, .ref g33])), (g31, .inl (T 0, 4, .inl (upd (upd (upd (upd (fun _ => nI 0) 0 (-1)) 1 (-1)) 2 (-1)) 3 (-1))))]) rfl dX8_sure_2 (fun H locs V => ?_)
  refine lv_aload_n hx hb dX8_sure_5 rfl (lv_at hl 0 rfl) ?_
  refine lv_iload_n hx hb dX8_sure_6 rfl (lv_at hl 1 rfl) ?_
  refine g_callV (wr := []) (nA := 1) hC V hl.1 (m_refusesSeen l D T o row (nI 0) g1 g2 g3 g4 (nI 0) (nI 0) (nI 0) (nI 0) (nI 0) (nI 0) (nI 0) (nI 0) (nI 0) (-1) g15 (nI 0) g17 (nI 0) (nI 0) g20 (nI 0) g22 g23 g24 (nI 0) (nI 0) (nI 0) g28 g29 (nI 0) g31 g32 g33) w_1304 w_1306 w_s73 w_9 w_1307 (by decide +kernel) rfl ⟨(Nat.le_of_ble_eq_true rfl), (Nat.le_of_ble_eq_true rfl)⟩ 0 (ci := 8) rfl rfl [0, 1] [] rfl rfl rfl rfl (by decide) (Nat.le_of_ble_eq_true rfl) dX8_sure_7 ⟨(Nat.le_of_ble_eq_true rfl), (Nat.le_of_ble_eq_true rfl)⟩ rfl (fun r w1 H locs hQ V => ?_)
  rcases hQ with ⟨rfl, rfl, f_1⟩ | ⟨rfl, rfl, f_2, f_3⟩
  · have V : gW D T A s [(o, .inr (8, [.int (nI 0), .ref g1, .ref g2, .ref g3, .ref g4, .int (nI 0), .int (nI 0), .int (nI 0), .int (nI 0), .int (nI 0), .int (nI 0), .int (nI 0), .int (nI 0), .int (nI 0), .int (-1), .ref g15, .int (nI 0), .ref g17, .int (nI 0), .int (nI 0), .ref g20, .int (nI 0), .ref g22, .ref g23, .ref g24, .int (nI 0), .int (nI 0), .int (nI 0), .ref g28, .ref g29, .int (nI 0), .ref g31, .ref g32, .ref g33])), (g31, .inl (T 0, 4, .inl (upd (upd (upd (upd (fun _ => nI 0) 0 (-1)) 1 (-1)) 2 (-1)) 3 (-1))))] H locs := V
    show W p l e _ s m args below meth c H locs _ _ _ (F0 m 10 ls [.int (-2)])
    refine lv_istore_n (lv' := [(3, .int (-2)), (0, .ref o), (1, .int row), (2, .int pu)]) hx hb dX8_sure_10 rfl hl (by decide) rfl (fun ls hl => ?_)
    refine lv_iload_n hx hb dX8_sure_11 rfl (lv_at hl 0 rfl) ?_
    refine lv_if_eq (tgt := 17) hx hb dX8_sure_12 (by decide) (fun c => absurd (show (-2 : Int32) = 0 from c) (by decide +kernel)) (fun _ => ?_)
    refine lv_iload_n hx hb dX8_sure_15 rfl (lv_at hl 0 rfl) ?_
    have V := V.sub (ws' := []) [] rfl rfl
    exact g_iret (Qr := (q_pm_sure T o row pu g1 g2 g3 g4 g15 g17 g20 g22 g23 g24 g28 g29 g31 g32 g33)) hC V ⟨(Nat.le_of_ble_eq_true rfl), (Nat.le_of_ble_eq_true rfl)⟩ ⟨(-2), rfl, rfl, (by first | exact pf_row_1 ‹_› | exact pf_row_2 ‹_› ‹_›)⟩ dX8_sure_16
  · have V : gW D T A s [(o, .inr (8, [.int (nI 0), .ref g1, .ref g2, .ref g3, .ref g4, .int (nI 0), .int (nI 0), .int (nI 0), .int (nI 0), .int (nI 0), .int (nI 0), .int (nI 0), .int (nI 0), .int (nI 0), .int (-1), .ref g15, .int (nI 0), .ref g17, .int (nI 0), .int (nI 0), .ref g20, .int (nI 0), .ref g22, .ref g23, .ref g24, .int (nI 0), .int (nI 0), .int (nI 0), .ref g28, .ref g29, .int (nI 0), .ref g31, .ref g32, .ref g33])), (g31, .inl (T 0, 4, .inl (upd (upd (upd (upd (fun _ => nI 0) 0 (-1)) 1 (-1)) 2 (-1)) 3 (-1))))] H locs := V
    show W p l e _ s m args below meth c H locs _ _ _ (F0 m 10 ls [.int (-6)])
    refine lv_istore_n (lv' := [(3, .int (-6)), (0, .ref o), (1, .int row), (2, .int pu)]) hx hb dX8_sure_10 rfl hl (by decide) rfl (fun ls hl => ?_)
    refine lv_iload_n hx hb dX8_sure_11 rfl (lv_at hl 0 rfl) ?_
    refine lv_if_eq (tgt := 17) hx hb dX8_sure_12 (by decide) (fun c => absurd (show (-6 : Int32) = 0 from c) (by decide +kernel)) (fun _ => ?_)
    refine lv_iload_n hx hb dX8_sure_15 rfl (lv_at hl 0 rfl) ?_
    have V := V.sub (ws' := []) [] rfl rfl
    exact g_iret (Qr := (q_pm_sure T o row pu g1 g2 g3 g4 g15 g17 g20 g22 g23 g24 g28 g29 g31 g32 g33)) hC V ⟨(Nat.le_of_ble_eq_true rfl), (Nat.le_of_ble_eq_true rfl)⟩ ⟨(-6), rfl, rfl, (by first | exact pf_row_1 ‹_› | exact pf_row_2 ‹_› ‹_›)⟩ dX8_sure_16

def q_m_takesRhythm (T : Nat → ClassId) (o : Nat) (row : Nat) (len : Int32) (w0 : Int32) (g1 : Nat) (g2 : Nat) (g3 : Nat) (g4 : Nat) (w5 : Int32) (w6 : Int32) (w7 : Int32) (w8 : Int32) (w9 : Int32) (w10 : Int32) (w11 : Int32) (w12 : Int32) (w13 : Int32) (w14 : Int32) (g15 : Nat) (w16 : Int32) (g17 : Nat) (w18 : Int32) (w19 : Int32) (g20 : Nat) (w21 : Int32) (g22 : Nat) (g23 : Nat) (g24 : Nat) (w25 : Int32) (w26 : Int32) (w27 : Int32) (g28 : Nat) (g29 : Nat) (w30 : Int32) (g31 : Nat) (g32 : Nat) (g33 : Nat) : Option Value → va_W → Prop := fun rr ww => (rr = some (.int (-6)) ∧ ww = [(o, .inr (8, [.int w0, .ref g1, .ref g2, .ref g3, .ref g4, .int w5, .int w6, .int w7, .int w8, .int w9, .int w10, .int w11, .int w12, .int w13, .int w14, .ref g15, .int w16, .ref g17, .int w18, .int w19, .ref g20, .int w21, .ref g22, .ref g23, .ref g24, .int w25, .int w26, .int w27, .ref g28, .ref g29, .int w30, .ref g31, .ref g32, .ref g33])), (g31, .inl (T 0, 4, .inl (upd (upd (upd (upd (fun _ => nI 0) 0 (-1)) 1 (-1)) 2 (-1)) 3 (-1))))])
set_option maxHeartbeats 4000000 in
set_option maxRecDepth 100000 in
theorem m_takesRhythm (l : Launch) (D : va_G) (T : Nat → ClassId) (o : Nat) (row : Nat) (len : Int32) (w0 : Int32) (g1 : Nat) (g2 : Nat) (g3 : Nat) (g4 : Nat) (w5 : Int32) (w6 : Int32) (w7 : Int32) (w8 : Int32) (w9 : Int32) (w10 : Int32) (w11 : Int32) (w12 : Int32) (w13 : Int32) (w14 : Int32) (g15 : Nat) (w16 : Int32) (g17 : Nat) (w18 : Int32) (w19 : Int32) (g20 : Nat) (w21 : Int32) (g22 : Nat) (g23 : Nat) (g24 : Nat) (w25 : Int32) (w26 : Int32) (w27 : Int32) (g28 : Nat) (g29 : Nat) (w30 : Int32) (g31 : Nat) (g32 : Nat) (g33 : Nat) (h_r : row < 4) : Ct l yX8_takesRhythm cX8_takesRhythm 4 (some .int) 0 0 0 D T [.ref o, .int (nI row), .int len] [(o, .inr (8, [.int w0, .ref g1, .ref g2, .ref g3, .ref g4, .int w5, .int w6, .int w7, .int w8, .int w9, .int w10, .int w11, .int w12, .int w13, .int w14, .ref g15, .int w16, .ref g17, .int w18, .int w19, .ref g20, .int w21, .ref g22, .ref g23, .ref g24, .int w25, .int w26, .int w27, .ref g28, .ref g29, .int w30, .ref g31, .ref g32, .ref g33])), (g31, .inl (T 0, 4, .inl (upd (upd (upd (upd (fun _ => nI 0) 0 (-1)) 1 (-1)) 2 (-1)) 3 (-1))))] (q_m_takesRhythm T o row len w0 g1 g2 g3 g4 w5 w6 w7 w8 w9 w10 w11 w12 w13 w14 g15 w16 g17 w18 w19 g20 w21 g22 g23 g24 w25 w26 w27 g28 g29 w30 g31 g32 g33) := by
  refine Ct.of (cc := cX8_takesRhythm) (maxL := 4) (ret := (some .int)) (by decide) (Nat.le_of_ble_eq_true rfl) ?_
  intro p e s m args below meth c A ls hC hnm V hl
  obtain ⟨hx, hb, hr, hml, hown, hts, hlocks⟩ := id hC
  generalize hH : s.heap = H at V ⊢
  clear hH
  have hl : lv_has ls 4 [(0, .ref o), (1, .int (nI row)), (2, .int len)] := hl
  generalize hlo : ([] : List Loc) = locs at V ⊢
  clear hlo
  refine lv_aload_n hx hb dX8_takesRhythm_0 rfl (lv_at hl 0 rfl) ?_
  refine g_get hC V (ci := 8) uwX8 0 rfl rfl 31 (by decide) w_943 rfl rfl dX8_takesRhythm_1 ?_
  refine lv_iload_n hx hb dX8_takesRhythm_4 rfl (lv_at hl 1 rfl) ?_
  refine g_iald hC V 1 rfl (vp_in_nI (by omega) (by omega)) (v := (-1)) (by rw [nI_clamp (by omega)]; exact rs_m1 h_r) dX8_takesRhythm_5 ?_
  refine lv_iconst (v := (-1)) hx hb dX8_takesRhythm_6 (by decide +kernel) ?_
  refine lv_icmp_ne (tgt := 13) hx hb dX8_takesRhythm_7 (by decide) (fun c => absurd (show (-1 : Int32) = (-1 : Int32) by first | rfl | decide +kernel) c) (fun _ => ?_)
  refine lv_bipush (v := (-6)) hx hb dX8_takesRhythm_10 (by decide +kernel) ?_
  exact g_iret (Qr := (q_m_takesRhythm T o row len w0 g1 g2 g3 g4 w5 w6 w7 w8 w9 w10 w11 w12 w13 w14 g15 w16 g17 w18 w19 g20 w21 g22 g23 g24 w25 w26 w27 g28 g29 w30 g31 g32 g33)) hC V ⟨(Nat.le_of_ble_eq_true rfl), (Nat.le_of_ble_eq_true rfl)⟩ ⟨rfl, rfl⟩ dX8_takesRhythm_12

def q_pm_even (T : Nat → ClassId) (o : Nat) (row : Int32) (len : Int32) (g1 : Nat) (g2 : Nat) (g3 : Nat) (g4 : Nat) (g15 : Nat) (g17 : Nat) (g20 : Nat) (g22 : Nat) (g23 : Nat) (g24 : Nat) (g28 : Nat) (g29 : Nat) (g31 : Nat) (g32 : Nat) (g33 : Nat) : Option Value → va_W → Prop := fun rr ww => (∃ (z : Int32), rr = some (.int z) ∧ ww = [] ∧ z = pf_row row)
set_option maxHeartbeats 4000000 in
set_option maxRecDepth 100000 in
theorem pm_even (l : Launch) (D : va_G) (T : Nat → ClassId) (o : Nat) (row : Int32) (len : Int32) (g1 : Nat) (g2 : Nat) (g3 : Nat) (g4 : Nat) (g15 : Nat) (g17 : Nat) (g20 : Nat) (g22 : Nat) (g23 : Nat) (g24 : Nat) (g28 : Nat) (g29 : Nat) (g31 : Nat) (g32 : Nat) (g33 : Nat) : Ct l yX8_even cX8_even 9 (some .int) 1 0 0 D T [.ref o, .int row, .int len] [(o, .inr (8, [.int (nI 0), .ref g1, .ref g2, .ref g3, .ref g4, .int (nI 0), .int (nI 0), .int (nI 0), .int (nI 0), .int (nI 0), .int (nI 0), .int (nI 0), .int (nI 0), .int (nI 0), .int (-1), .ref g15, .int (nI 0), .ref g17, .int (nI 0), .int (nI 0), .ref g20, .int (nI 0), .ref g22, .ref g23, .ref g24, .int (nI 0), .int (nI 0), .int (nI 0), .ref g28, .ref g29, .int (nI 0), .ref g31, .ref g32, .ref g33])), (g31, .inl (T 0, 4, .inl (upd (upd (upd (upd (fun _ => nI 0) 0 (-1)) 1 (-1)) 2 (-1)) 3 (-1))))] (q_pm_even T o row len g1 g2 g3 g4 g15 g17 g20 g22 g23 g24 g28 g29 g31 g32 g33) := by
  refine Ct.of (cc := cX8_even) (maxL := 9) (ret := (some .int)) (by decide) (Nat.le_of_ble_eq_true rfl) ?_
  intro p e s m args below meth c A ls hC hnm V hl
  obtain ⟨hx, hb, hr, hml, hown, hts, hlocks⟩ := id hC
  generalize hH : s.heap = H at V ⊢
  clear hH
  have hl : lv_has ls 9 [(0, .ref o), (1, .int row), (2, .int len)] := hl
  generalize hlo : ([] : List Loc) = locs at V ⊢
  clear hlo
  refine lv_aload_n hx hb dX8_even_0 rfl (lv_at hl 0 rfl) ?_
  refine lv_iconst (v := (nI 0)) hx hb dX8_even_1 (by decide +kernel) ?_
  refine g_put hC V (ci := 8) uwX8 tyX8 tyX8_ok nmX8 0 rfl rfl 0 (by decide) w_912 rfl rfl rfl rfl (Nat.le_of_ble_eq_true rfl) (ws' := [(o, .inr (8, [.int (nI 0), .ref g1, .ref g2, .ref g3, .ref g4, .int (nI 0), .int (nI 0), .int (nI 0), .int (nI 0), .int (nI 0), .int (nI 0), .int (nI 0), .int (nI 0), .int (nI 0), .int (-1), .ref g15, .int (nI 0), .ref g17, .int (nI 0), .int (nI 0), .ref g20, .int (nI 0), .ref g22, .ref g23, .ref g24, .int (nI 0), .int (nI 0), .int (nI 0), .ref g28, .ref g29, .int (nI 0), .ref g31, .ref g32, .ref g33])), (g31, .inl (T 0, 4, .inl (upd (upd (upd (upd (fun _ => nI 0) 0 (-1)) 1 (-1)) 2 (-1)) 3 (-1))))]) rfl dX8_even_2 (fun H locs V => ?_)
  refine lv_iload_n hx hb dX8_even_5 rfl (lv_at hl 1 rfl) ?_
  refine lv_i2l (v := row.toInt64) hx hb dX8_even_6 rfl ?_
  refine lv_lconst (v := (nI 0).toInt64) hx hb dX8_even_7 (by decide +kernel) ?_
  refine lv_ldc2 (v := (3)) hx hb hown (hts _ w_1144) dX8_even_8 ?_
  refine g_vl (y := (nI 3).toInt64) (by decide +kernel) ?_
  refine g_callS (wr := [(o, .inr (8, [.int (nI 0), .ref g1, .ref g2, .ref g3, .ref g4, .int (nI 0), .int (nI 0), .int (nI 0), .int (nI 0), .int (nI 0), .int (nI 0), .int (nI 0), .int (nI 0), .int (nI 0), .int (-1), .ref g15, .int (nI 0), .ref g17, .int (nI 0), .int (nI 0), .ref g20, .int (nI 0), .ref g22, .ref g23, .ref g24, .int (nI 0), .int (nI 0), .int (nI 0), .ref g28, .ref g29, .int (nI 0), .ref g31, .ref g32, .ref g33])), (g31, .inl (T 0, 4, .inl (upd (upd (upd (upd (fun _ => nI 0) 0 (-1)) 1 (-1)) 2 (-1)) 3 (-1))))]) (nA := 3) hC V hl.1 (c_within l D T row (nI 0) (nI 3)) w_1023 w_1024 w_9 w_1025 (by decide +kernel) rfl ⟨(Nat.le_of_ble_eq_true rfl), (Nat.le_of_ble_eq_true rfl)⟩ [] [0, 1] rfl rfl rfl rfl (by decide) (Nat.le_of_ble_eq_true rfl) dX8_even_11 ⟨(Nat.le_of_ble_eq_true rfl), (Nat.le_of_ble_eq_true rfl)⟩ rfl (fun r w1 H locs hQ V => ?_)
  rcases hQ with ⟨rfl, rfl, f_1, f_2⟩ | ⟨rfl, rfl, f_3⟩
  · have V : gW D T A s [(o, .inr (8, [.int (nI 0), .ref g1, .ref g2, .ref g3, .ref g4, .int (nI 0), .int (nI 0), .int (nI 0), .int (nI 0), .int (nI 0), .int (nI 0), .int (nI 0), .int (nI 0), .int (nI 0), .int (-1), .ref g15, .int (nI 0), .ref g17, .int (nI 0), .int (nI 0), .ref g20, .int (nI 0), .ref g22, .ref g23, .ref g24, .int (nI 0), .int (nI 0), .int (nI 0), .ref g28, .ref g29, .int (nI 0), .ref g31, .ref g32, .ref g33])), (g31, .inl (T 0, 4, .inl (upd (upd (upd (upd (fun _ => nI 0) 0 (-1)) 1 (-1)) 2 (-1)) 3 (-1))))] H locs := V
    show W p l e _ s m args below meth c H locs _ _ _ (F0 m 14 ls [.int (nI 1)])
    have r1_row : ¬ row < 0 := f_1
    have r2_row : ¬ nI 4 ≤ row := cv_r2 rfl (by decide) f_2
    obtain ⟨rj, hrj, erj⟩ := g_idx (n := 4) (by decide) r1_row r2_row
    rw [erj] at hl
    refine lv_if_ne (tgt := 20) hx hb dX8_even_14 (by decide) (fun _ => ?_) (fun c => absurd (show (nI 1) = 0 from c) (by decide +kernel))
    refine lv_aload_n hx hb dX8_even_20 rfl (lv_at hl 0 rfl) ?_
    refine lv_iload_n hx hb dX8_even_21 rfl (lv_at hl 1 rfl) ?_
    refine lv_iload_n hx hb dX8_even_22 rfl (lv_at hl 2 rfl) ?_
    refine g_callV (wr := []) (nA := 2) hC V hl.1 (m_takesRhythm l D T o rj len (nI 0) g1 g2 g3 g4 (nI 0) (nI 0) (nI 0) (nI 0) (nI 0) (nI 0) (nI 0) (nI 0) (nI 0) (-1) g15 (nI 0) g17 (nI 0) (nI 0) g20 (nI 0) g22 g23 g24 (nI 0) (nI 0) (nI 0) g28 g29 (nI 0) g31 g32 g33 (by first | assumption | omega | decide)) w_1224 w_1226 w_s63 w_9 w_1227 (by decide +kernel) rfl ⟨(Nat.le_of_ble_eq_true rfl), (Nat.le_of_ble_eq_true rfl)⟩ 0 (ci := 8) rfl rfl [0, 1] [] rfl rfl rfl rfl (by decide) (Nat.le_of_ble_eq_true rfl) dX8_even_23 ⟨(Nat.le_of_ble_eq_true rfl), (Nat.le_of_ble_eq_true rfl)⟩ rfl (fun r w1 H locs hQ V => ?_)
    obtain ⟨rfl, rfl⟩ := hQ
    have V : gW D T A s [(o, .inr (8, [.int (nI 0), .ref g1, .ref g2, .ref g3, .ref g4, .int (nI 0), .int (nI 0), .int (nI 0), .int (nI 0), .int (nI 0), .int (nI 0), .int (nI 0), .int (nI 0), .int (nI 0), .int (-1), .ref g15, .int (nI 0), .ref g17, .int (nI 0), .int (nI 0), .ref g20, .int (nI 0), .ref g22, .ref g23, .ref g24, .int (nI 0), .int (nI 0), .int (nI 0), .ref g28, .ref g29, .int (nI 0), .ref g31, .ref g32, .ref g33])), (g31, .inl (T 0, 4, .inl (upd (upd (upd (upd (fun _ => nI 0) 0 (-1)) 1 (-1)) 2 (-1)) 3 (-1))))] H locs := V
    show W p l e _ s m args below meth c H locs _ _ _ (F0 m 26 ls [.int (-6)])
    refine lv_istore_n (lv' := [(3, .int (-6)), (0, .ref o), (1, .int (nI rj)), (2, .int len)]) hx hb dX8_even_26 rfl hl (by decide) rfl (fun ls hl => ?_)
    refine lv_iload_n hx hb dX8_even_27 rfl (lv_at hl 0 rfl) ?_
    refine lv_if_eq (tgt := 33) hx hb dX8_even_28 (by decide) (fun c => absurd (show (-6 : Int32) = 0 from c) (by decide +kernel)) (fun _ => ?_)
    refine lv_iload_n hx hb dX8_even_31 rfl (lv_at hl 0 rfl) ?_
    have V := V.sub (ws' := []) [] rfl rfl
    exact g_iret (Qr := (q_pm_even T o row len g1 g2 g3 g4 g15 g17 g20 g22 g23 g24 g28 g29 g31 g32 g33)) hC V ⟨(Nat.le_of_ble_eq_true rfl), (Nat.le_of_ble_eq_true rfl)⟩ ⟨(-6), rfl, rfl, (by first | exact pf_row_1 ‹_› | exact pf_row_2 ‹_› ‹_›)⟩ dX8_even_32
  · have V : gW D T A s [(o, .inr (8, [.int (nI 0), .ref g1, .ref g2, .ref g3, .ref g4, .int (nI 0), .int (nI 0), .int (nI 0), .int (nI 0), .int (nI 0), .int (nI 0), .int (nI 0), .int (nI 0), .int (nI 0), .int (-1), .ref g15, .int (nI 0), .ref g17, .int (nI 0), .int (nI 0), .ref g20, .int (nI 0), .ref g22, .ref g23, .ref g24, .int (nI 0), .int (nI 0), .int (nI 0), .ref g28, .ref g29, .int (nI 0), .ref g31, .ref g32, .ref g33])), (g31, .inl (T 0, 4, .inl (upd (upd (upd (upd (fun _ => nI 0) 0 (-1)) 1 (-1)) 2 (-1)) 3 (-1))))] H locs := V
    show W p l e _ s m args below meth c H locs _ _ _ (F0 m 14 ls [.int (nI 0)])
    have r0_row : (row < 0 ∨ nI 4 ≤ row) := cv_r0 rfl (by decide) f_3
    refine lv_if_ne (tgt := 20) hx hb dX8_even_14 (by decide) (fun c => absurd (show (nI 0) = 0 by decide +kernel) c) (fun _ => ?_)
    refine lv_bipush (v := (-2)) hx hb dX8_even_17 (by decide +kernel) ?_
    have V := V.sub (ws' := []) [] rfl rfl
    exact g_iret (Qr := (q_pm_even T o row len g1 g2 g3 g4 g15 g17 g20 g22 g23 g24 g28 g29 g31 g32 g33)) hC V ⟨(Nat.le_of_ble_eq_true rfl), (Nat.le_of_ble_eq_true rfl)⟩ ⟨(-2), rfl, rfl, (by first | exact pf_row_1 ‹_› | exact pf_row_2 ‹_› ‹_›)⟩ dX8_even_19

def q_pm_holds (T : Nat → ClassId) (o : Nat) (row : Int32) (len : Int32) (what : Int32) (g1 : Nat) (g2 : Nat) (g3 : Nat) (g4 : Nat) (g15 : Nat) (g17 : Nat) (g20 : Nat) (g22 : Nat) (g23 : Nat) (g24 : Nat) (g28 : Nat) (g29 : Nat) (g31 : Nat) (g32 : Nat) (g33 : Nat) : Option Value → va_W → Prop := fun rr ww => (∃ (z : Int32), rr = some (.int z) ∧ ww = [] ∧ z = pf_holds row what)
set_option maxHeartbeats 4000000 in
set_option maxRecDepth 100000 in
theorem pm_holds (l : Launch) (D : va_G) (T : Nat → ClassId) (o : Nat) (row : Int32) (len : Int32) (what : Int32) (g1 : Nat) (g2 : Nat) (g3 : Nat) (g4 : Nat) (g15 : Nat) (g17 : Nat) (g20 : Nat) (g22 : Nat) (g23 : Nat) (g24 : Nat) (g28 : Nat) (g29 : Nat) (g31 : Nat) (g32 : Nat) (g33 : Nat) : Ct l yX8_holds cX8_holds 6 (some .int) 1 0 0 D T [.ref o, .int row, .int len, .int what] [(o, .inr (8, [.int (nI 0), .ref g1, .ref g2, .ref g3, .ref g4, .int (nI 0), .int (nI 0), .int (nI 0), .int (nI 0), .int (nI 0), .int (nI 0), .int (nI 0), .int (nI 0), .int (nI 0), .int (-1), .ref g15, .int (nI 0), .ref g17, .int (nI 0), .int (nI 0), .ref g20, .int (nI 0), .ref g22, .ref g23, .ref g24, .int (nI 0), .int (nI 0), .int (nI 0), .ref g28, .ref g29, .int (nI 0), .ref g31, .ref g32, .ref g33])), (g31, .inl (T 0, 4, .inl (upd (upd (upd (upd (fun _ => nI 0) 0 (-1)) 1 (-1)) 2 (-1)) 3 (-1))))] (q_pm_holds T o row len what g1 g2 g3 g4 g15 g17 g20 g22 g23 g24 g28 g29 g31 g32 g33) := by
  refine Ct.of (cc := cX8_holds) (maxL := 6) (ret := (some .int)) (by decide) (Nat.le_of_ble_eq_true rfl) ?_
  intro p e s m args below meth c A ls hC hnm V hl
  obtain ⟨hx, hb, hr, hml, hown, hts, hlocks⟩ := id hC
  generalize hH : s.heap = H at V ⊢
  clear hH
  have hl : lv_has ls 6 [(0, .ref o), (1, .int row), (2, .int len), (3, .int what)] := hl
  generalize hlo : ([] : List Loc) = locs at V ⊢
  clear hlo
  refine lv_aload_n hx hb dX8_holds_0 rfl (lv_at hl 0 rfl) ?_
  refine lv_iconst (v := (nI 0)) hx hb dX8_holds_1 (by decide +kernel) ?_
  refine g_put hC V (ci := 8) uwX8 tyX8 tyX8_ok nmX8 0 rfl rfl 0 (by decide) w_912 rfl rfl rfl rfl (Nat.le_of_ble_eq_true rfl) (ws' := [(o, .inr (8, [.int (nI 0), .ref g1, .ref g2, .ref g3, .ref g4, .int (nI 0), .int (nI 0), .int (nI 0), .int (nI 0), .int (nI 0), .int (nI 0), .int (nI 0), .int (nI 0), .int (nI 0), .int (-1), .ref g15, .int (nI 0), .ref g17, .int (nI 0), .int (nI 0), .ref g20, .int (nI 0), .ref g22, .ref g23, .ref g24, .int (nI 0), .int (nI 0), .int (nI 0), .ref g28, .ref g29, .int (nI 0), .ref g31, .ref g32, .ref g33])), (g31, .inl (T 0, 4, .inl (upd (upd (upd (upd (fun _ => nI 0) 0 (-1)) 1 (-1)) 2 (-1)) 3 (-1))))]) rfl dX8_holds_2 (fun H locs V => ?_)
  refine lv_iload_n hx hb dX8_holds_5 rfl (lv_at hl 1 rfl) ?_
  refine lv_i2l (v := row.toInt64) hx hb dX8_holds_6 rfl ?_
  refine lv_lconst (v := (nI 0).toInt64) hx hb dX8_holds_7 (by decide +kernel) ?_
  refine lv_ldc2 (v := (3)) hx hb hown (hts _ w_1144) dX8_holds_8 ?_
  refine g_vl (y := (nI 3).toInt64) (by decide +kernel) ?_
  refine g_callS (wr := [(o, .inr (8, [.int (nI 0), .ref g1, .ref g2, .ref g3, .ref g4, .int (nI 0), .int (nI 0), .int (nI 0), .int (nI 0), .int (nI 0), .int (nI 0), .int (nI 0), .int (nI 0), .int (nI 0), .int (-1), .ref g15, .int (nI 0), .ref g17, .int (nI 0), .int (nI 0), .ref g20, .int (nI 0), .ref g22, .ref g23, .ref g24, .int (nI 0), .int (nI 0), .int (nI 0), .ref g28, .ref g29, .int (nI 0), .ref g31, .ref g32, .ref g33])), (g31, .inl (T 0, 4, .inl (upd (upd (upd (upd (fun _ => nI 0) 0 (-1)) 1 (-1)) 2 (-1)) 3 (-1))))]) (nA := 3) hC V hl.1 (c_within l D T row (nI 0) (nI 3)) w_1023 w_1024 w_9 w_1025 (by decide +kernel) rfl ⟨(Nat.le_of_ble_eq_true rfl), (Nat.le_of_ble_eq_true rfl)⟩ [] [0, 1] rfl rfl rfl rfl (by decide) (Nat.le_of_ble_eq_true rfl) dX8_holds_11 ⟨(Nat.le_of_ble_eq_true rfl), (Nat.le_of_ble_eq_true rfl)⟩ rfl (fun r w1 H locs hQ V => ?_)
  rcases hQ with ⟨rfl, rfl, f_1, f_2⟩ | ⟨rfl, rfl, f_3⟩
  · have V : gW D T A s [(o, .inr (8, [.int (nI 0), .ref g1, .ref g2, .ref g3, .ref g4, .int (nI 0), .int (nI 0), .int (nI 0), .int (nI 0), .int (nI 0), .int (nI 0), .int (nI 0), .int (nI 0), .int (nI 0), .int (-1), .ref g15, .int (nI 0), .ref g17, .int (nI 0), .int (nI 0), .ref g20, .int (nI 0), .ref g22, .ref g23, .ref g24, .int (nI 0), .int (nI 0), .int (nI 0), .ref g28, .ref g29, .int (nI 0), .ref g31, .ref g32, .ref g33])), (g31, .inl (T 0, 4, .inl (upd (upd (upd (upd (fun _ => nI 0) 0 (-1)) 1 (-1)) 2 (-1)) 3 (-1))))] H locs := V
    show W p l e _ s m args below meth c H locs _ _ _ (F0 m 14 ls [.int (nI 1)])
    have r1_row : ¬ row < 0 := f_1
    have r2_row : ¬ nI 4 ≤ row := cv_r2 rfl (by decide) f_2
    refine lv_if_eq (tgt := 27) hx hb dX8_holds_14 (by decide) (fun c => absurd (show (nI 1) = 0 from c) (by decide +kernel)) (fun _ => ?_)
    refine lv_iload_n hx hb dX8_holds_17 rfl (lv_at hl 3 rfl) ?_
    refine lv_i2l (v := what.toInt64) hx hb dX8_holds_18 rfl ?_
    refine lv_lconst (v := (nI 0).toInt64) hx hb dX8_holds_19 (by decide +kernel) ?_
    refine lv_lconst (v := (nI 1).toInt64) hx hb dX8_holds_20 (by decide +kernel) ?_
    refine g_callS (wr := [(o, .inr (8, [.int (nI 0), .ref g1, .ref g2, .ref g3, .ref g4, .int (nI 0), .int (nI 0), .int (nI 0), .int (nI 0), .int (nI 0), .int (nI 0), .int (nI 0), .int (nI 0), .int (nI 0), .int (-1), .ref g15, .int (nI 0), .ref g17, .int (nI 0), .int (nI 0), .ref g20, .int (nI 0), .ref g22, .ref g23, .ref g24, .int (nI 0), .int (nI 0), .int (nI 0), .ref g28, .ref g29, .int (nI 0), .ref g31, .ref g32, .ref g33])), (g31, .inl (T 0, 4, .inl (upd (upd (upd (upd (fun _ => nI 0) 0 (-1)) 1 (-1)) 2 (-1)) 3 (-1))))]) (nA := 3) hC V hl.1 (c_within l D T what (nI 0) (nI 1)) w_1023 w_1024 w_9 w_1025 (by decide +kernel) rfl ⟨(Nat.le_of_ble_eq_true rfl), (Nat.le_of_ble_eq_true rfl)⟩ [] [0, 1] rfl rfl rfl rfl (by decide) (Nat.le_of_ble_eq_true rfl) dX8_holds_21 ⟨(Nat.le_of_ble_eq_true rfl), (Nat.le_of_ble_eq_true rfl)⟩ rfl (fun r w1 H locs hQ V => ?_)
    rcases hQ with ⟨rfl, rfl, f_4, f_5⟩ | ⟨rfl, rfl, f_6⟩
    · have V : gW D T A s [(o, .inr (8, [.int (nI 0), .ref g1, .ref g2, .ref g3, .ref g4, .int (nI 0), .int (nI 0), .int (nI 0), .int (nI 0), .int (nI 0), .int (nI 0), .int (nI 0), .int (nI 0), .int (nI 0), .int (-1), .ref g15, .int (nI 0), .ref g17, .int (nI 0), .int (nI 0), .ref g20, .int (nI 0), .ref g22, .ref g23, .ref g24, .int (nI 0), .int (nI 0), .int (nI 0), .ref g28, .ref g29, .int (nI 0), .ref g31, .ref g32, .ref g33])), (g31, .inl (T 0, 4, .inl (upd (upd (upd (upd (fun _ => nI 0) 0 (-1)) 1 (-1)) 2 (-1)) 3 (-1))))] H locs := V
      show W p l e _ s m args below meth c H locs _ _ _ (F0 m 24 ls [.int (nI 1)])
      obtain ⟨rj, hrj, erj⟩ := g_idx (n := 4) (by decide) r1_row r2_row
      rw [erj] at hl
      refine lv_if_ne (tgt := 30) hx hb dX8_holds_24 (by decide) (fun _ => ?_) (fun c => absurd (show (nI 1) = 0 from c) (by decide +kernel))
      refine lv_aload_n hx hb dX8_holds_30 rfl (lv_at hl 0 rfl) ?_
      refine lv_iload_n hx hb dX8_holds_31 rfl (lv_at hl 1 rfl) ?_
      refine lv_iload_n hx hb dX8_holds_32 rfl (lv_at hl 2 rfl) ?_
      refine g_callV (wr := []) (nA := 2) hC V hl.1 (m_takesRhythm l D T o rj len (nI 0) g1 g2 g3 g4 (nI 0) (nI 0) (nI 0) (nI 0) (nI 0) (nI 0) (nI 0) (nI 0) (nI 0) (-1) g15 (nI 0) g17 (nI 0) (nI 0) g20 (nI 0) g22 g23 g24 (nI 0) (nI 0) (nI 0) g28 g29 (nI 0) g31 g32 g33 (by first | assumption | omega | decide)) w_1224 w_1226 w_s63 w_9 w_1227 (by decide +kernel) rfl ⟨(Nat.le_of_ble_eq_true rfl), (Nat.le_of_ble_eq_true rfl)⟩ 0 (ci := 8) rfl rfl [0, 1] [] rfl rfl rfl rfl (by decide) (Nat.le_of_ble_eq_true rfl) dX8_holds_33 ⟨(Nat.le_of_ble_eq_true rfl), (Nat.le_of_ble_eq_true rfl)⟩ rfl (fun r w1 H locs hQ V => ?_)
      obtain ⟨rfl, rfl⟩ := hQ
      have V : gW D T A s [(o, .inr (8, [.int (nI 0), .ref g1, .ref g2, .ref g3, .ref g4, .int (nI 0), .int (nI 0), .int (nI 0), .int (nI 0), .int (nI 0), .int (nI 0), .int (nI 0), .int (nI 0), .int (nI 0), .int (-1), .ref g15, .int (nI 0), .ref g17, .int (nI 0), .int (nI 0), .ref g20, .int (nI 0), .ref g22, .ref g23, .ref g24, .int (nI 0), .int (nI 0), .int (nI 0), .ref g28, .ref g29, .int (nI 0), .ref g31, .ref g32, .ref g33])), (g31, .inl (T 0, 4, .inl (upd (upd (upd (upd (fun _ => nI 0) 0 (-1)) 1 (-1)) 2 (-1)) 3 (-1))))] H locs := V
      show W p l e _ s m args below meth c H locs _ _ _ (F0 m 36 ls [.int (-6)])
      refine lv_istore (lv' := [(4, .int (-6)), (0, .ref o), (1, .int (nI rj)), (2, .int len), (3, .int what)]) hx hb dX8_holds_36 hl (by decide) rfl (fun ls hl => ?_)
      refine lv_iload hx hb dX8_holds_38 (lv_at hl 0 rfl) ?_
      refine lv_if_eq (tgt := 46) hx hb dX8_holds_40 (by decide) (fun c => absurd (show (-6 : Int32) = 0 from c) (by decide +kernel)) (fun _ => ?_)
      refine lv_iload hx hb dX8_holds_43 (lv_at hl 0 rfl) ?_
      have V := V.sub (ws' := []) [] rfl rfl
      exact g_iret (Qr := (q_pm_holds T o row len what g1 g2 g3 g4 g15 g17 g20 g22 g23 g24 g28 g29 g31 g32 g33)) hC V ⟨(Nat.le_of_ble_eq_true rfl), (Nat.le_of_ble_eq_true rfl)⟩ ⟨(-6), rfl, rfl, (by first | exact pf_holds_1 ‹_› | exact pf_holds_2 ‹_› | exact pf_holds_3 ‹_› ‹_› ‹_› ‹_›)⟩ dX8_holds_45
    · have V : gW D T A s [(o, .inr (8, [.int (nI 0), .ref g1, .ref g2, .ref g3, .ref g4, .int (nI 0), .int (nI 0), .int (nI 0), .int (nI 0), .int (nI 0), .int (nI 0), .int (nI 0), .int (nI 0), .int (nI 0), .int (-1), .ref g15, .int (nI 0), .ref g17, .int (nI 0), .int (nI 0), .ref g20, .int (nI 0), .ref g22, .ref g23, .ref g24, .int (nI 0), .int (nI 0), .int (nI 0), .ref g28, .ref g29, .int (nI 0), .ref g31, .ref g32, .ref g33])), (g31, .inl (T 0, 4, .inl (upd (upd (upd (upd (fun _ => nI 0) 0 (-1)) 1 (-1)) 2 (-1)) 3 (-1))))] H locs := V
      show W p l e _ s m args below meth c H locs _ _ _ (F0 m 24 ls [.int (nI 0)])
      refine lv_if_ne (tgt := 30) hx hb dX8_holds_24 (by decide) (fun c => absurd (show (nI 0) = 0 by decide +kernel) c) (fun _ => ?_)
      refine lv_bipush (v := (-2)) hx hb dX8_holds_27 (by decide +kernel) ?_
      have V := V.sub (ws' := []) [] rfl rfl
      exact g_iret (Qr := (q_pm_holds T o row len what g1 g2 g3 g4 g15 g17 g20 g22 g23 g24 g28 g29 g31 g32 g33)) hC V ⟨(Nat.le_of_ble_eq_true rfl), (Nat.le_of_ble_eq_true rfl)⟩ ⟨(-2), rfl, rfl, (by first | exact pf_holds_1 ‹_› | exact pf_holds_2 ‹_› | exact pf_holds_3 ‹_› ‹_› ‹_› ‹_›)⟩ dX8_holds_29
  · have V : gW D T A s [(o, .inr (8, [.int (nI 0), .ref g1, .ref g2, .ref g3, .ref g4, .int (nI 0), .int (nI 0), .int (nI 0), .int (nI 0), .int (nI 0), .int (nI 0), .int (nI 0), .int (nI 0), .int (nI 0), .int (-1), .ref g15, .int (nI 0), .ref g17, .int (nI 0), .int (nI 0), .ref g20, .int (nI 0), .ref g22, .ref g23, .ref g24, .int (nI 0), .int (nI 0), .int (nI 0), .ref g28, .ref g29, .int (nI 0), .ref g31, .ref g32, .ref g33])), (g31, .inl (T 0, 4, .inl (upd (upd (upd (upd (fun _ => nI 0) 0 (-1)) 1 (-1)) 2 (-1)) 3 (-1))))] H locs := V
    show W p l e _ s m args below meth c H locs _ _ _ (F0 m 14 ls [.int (nI 0)])
    have r0_row : (row < 0 ∨ nI 4 ≤ row) := cv_r0 rfl (by decide) f_3
    refine lv_if_eq (tgt := 27) hx hb dX8_holds_14 (by decide) (fun _ => ?_) (fun c => absurd (show (nI 0) = 0 by decide +kernel) c)
    refine lv_bipush (v := (-2)) hx hb dX8_holds_27 (by decide +kernel) ?_
    have V := V.sub (ws' := []) [] rfl rfl
    exact g_iret (Qr := (q_pm_holds T o row len what g1 g2 g3 g4 g15 g17 g20 g22 g23 g24 g28 g29 g31 g32 g33)) hC V ⟨(Nat.le_of_ble_eq_true rfl), (Nat.le_of_ble_eq_true rfl)⟩ ⟨(-2), rfl, rfl, (by first | exact pf_holds_1 ‹_› | exact pf_holds_2 ‹_› | exact pf_holds_3 ‹_› ‹_› ‹_› ‹_›)⟩ dX8_holds_29

def q_pm_write (T : Nat → ClassId) (o : Nat) (row : Int32) (i : Int32) (vv : Int64) (g1 : Nat) (g2 : Nat) (g3 : Nat) (g4 : Nat) (g15 : Nat) (g17 : Nat) (g20 : Nat) (g22 : Nat) (g23 : Nat) (g24 : Nat) (g28 : Nat) (g29 : Nat) (g31 : Nat) (g32 : Nat) (g33 : Nat) : Option Value → va_W → Prop := fun rr ww => (∃ (z : Int64), rr = some (.long z) ∧ ww = [] ∧ z = (pf_row row).toInt64)
set_option maxHeartbeats 4000000 in
set_option maxRecDepth 100000 in
theorem pm_write (l : Launch) (D : va_G) (T : Nat → ClassId) (o : Nat) (row : Int32) (i : Int32) (vv : Int64) (g1 : Nat) (g2 : Nat) (g3 : Nat) (g4 : Nat) (g15 : Nat) (g17 : Nat) (g20 : Nat) (g22 : Nat) (g23 : Nat) (g24 : Nat) (g28 : Nat) (g29 : Nat) (g31 : Nat) (g32 : Nat) (g33 : Nat) : Ct l yX8_write cX8_write 5 (some .long) 1 0 0 D T [.ref o, .int row, .int i, .long vv] [(o, .inr (8, [.int (nI 0), .ref g1, .ref g2, .ref g3, .ref g4, .int (nI 0), .int (nI 0), .int (nI 0), .int (nI 0), .int (nI 0), .int (nI 0), .int (nI 0), .int (nI 0), .int (nI 0), .int (-1), .ref g15, .int (nI 0), .ref g17, .int (nI 0), .int (nI 0), .ref g20, .int (nI 0), .ref g22, .ref g23, .ref g24, .int (nI 0), .int (nI 0), .int (nI 0), .ref g28, .ref g29, .int (nI 0), .ref g31, .ref g32, .ref g33])), (g31, .inl (T 0, 4, .inl (upd (upd (upd (upd (fun _ => nI 0) 0 (-1)) 1 (-1)) 2 (-1)) 3 (-1))))] (q_pm_write T o row i vv g1 g2 g3 g4 g15 g17 g20 g22 g23 g24 g28 g29 g31 g32 g33) := by
  refine Ct.of (cc := cX8_write) (maxL := 5) (ret := (some .long)) (by decide) (Nat.le_of_ble_eq_true rfl) ?_
  intro p e s m args below meth c A ls hC hnm V hl
  obtain ⟨hx, hb, hr, hml, hown, hts, hlocks⟩ := id hC
  generalize hH : s.heap = H at V ⊢
  clear hH
  have hl : lv_has ls 5 [(0, .ref o), (1, .int row), (2, .int i), (3, .long vv)] := hl
  generalize hlo : ([] : List Loc) = locs at V ⊢
  clear hlo
  refine lv_aload_n hx hb dX8_write_0 rfl (lv_at hl 0 rfl) ?_
  refine lv_iconst (v := (nI 0)) hx hb dX8_write_1 (by decide +kernel) ?_
  refine g_put hC V (ci := 8) uwX8 tyX8 tyX8_ok nmX8 0 rfl rfl 0 (by decide) w_912 rfl rfl rfl rfl (Nat.le_of_ble_eq_true rfl) (ws' := [(o, .inr (8, [.int (nI 0), .ref g1, .ref g2, .ref g3, .ref g4, .int (nI 0), .int (nI 0), .int (nI 0), .int (nI 0), .int (nI 0), .int (nI 0), .int (nI 0), .int (nI 0), .int (nI 0), .int (-1), .ref g15, .int (nI 0), .ref g17, .int (nI 0), .int (nI 0), .ref g20, .int (nI 0), .ref g22, .ref g23, .ref g24, .int (nI 0), .int (nI 0), .int (nI 0), .ref g28, .ref g29, .int (nI 0), .ref g31, .ref g32, .ref g33])), (g31, .inl (T 0, 4, .inl (upd (upd (upd (upd (fun _ => nI 0) 0 (-1)) 1 (-1)) 2 (-1)) 3 (-1))))]) rfl dX8_write_2 (fun H locs V => ?_)
  refine lv_iload_n hx hb dX8_write_5 rfl (lv_at hl 1 rfl) ?_
  refine lv_i2l (v := row.toInt64) hx hb dX8_write_6 rfl ?_
  refine lv_lconst (v := (nI 0).toInt64) hx hb dX8_write_7 (by decide +kernel) ?_
  refine lv_ldc2 (v := (3)) hx hb hown (hts _ w_1144) dX8_write_8 ?_
  refine g_vl (y := (nI 3).toInt64) (by decide +kernel) ?_
  refine g_callS (wr := [(o, .inr (8, [.int (nI 0), .ref g1, .ref g2, .ref g3, .ref g4, .int (nI 0), .int (nI 0), .int (nI 0), .int (nI 0), .int (nI 0), .int (nI 0), .int (nI 0), .int (nI 0), .int (nI 0), .int (-1), .ref g15, .int (nI 0), .ref g17, .int (nI 0), .int (nI 0), .ref g20, .int (nI 0), .ref g22, .ref g23, .ref g24, .int (nI 0), .int (nI 0), .int (nI 0), .ref g28, .ref g29, .int (nI 0), .ref g31, .ref g32, .ref g33])), (g31, .inl (T 0, 4, .inl (upd (upd (upd (upd (fun _ => nI 0) 0 (-1)) 1 (-1)) 2 (-1)) 3 (-1))))]) (nA := 3) hC V hl.1 (c_within l D T row (nI 0) (nI 3)) w_1023 w_1024 w_9 w_1025 (by decide +kernel) rfl ⟨(Nat.le_of_ble_eq_true rfl), (Nat.le_of_ble_eq_true rfl)⟩ [] [0, 1] rfl rfl rfl rfl (by decide) (Nat.le_of_ble_eq_true rfl) dX8_write_11 ⟨(Nat.le_of_ble_eq_true rfl), (Nat.le_of_ble_eq_true rfl)⟩ rfl (fun r w1 H locs hQ V => ?_)
  rcases hQ with ⟨rfl, rfl, f_1, f_2⟩ | ⟨rfl, rfl, f_3⟩
  · have V : gW D T A s [(o, .inr (8, [.int (nI 0), .ref g1, .ref g2, .ref g3, .ref g4, .int (nI 0), .int (nI 0), .int (nI 0), .int (nI 0), .int (nI 0), .int (nI 0), .int (nI 0), .int (nI 0), .int (nI 0), .int (-1), .ref g15, .int (nI 0), .ref g17, .int (nI 0), .int (nI 0), .ref g20, .int (nI 0), .ref g22, .ref g23, .ref g24, .int (nI 0), .int (nI 0), .int (nI 0), .ref g28, .ref g29, .int (nI 0), .ref g31, .ref g32, .ref g33])), (g31, .inl (T 0, 4, .inl (upd (upd (upd (upd (fun _ => nI 0) 0 (-1)) 1 (-1)) 2 (-1)) 3 (-1))))] H locs := V
    show W p l e _ s m args below meth c H locs _ _ _ (F0 m 14 ls [.int (nI 1)])
    have r1_row : ¬ row < 0 := f_1
    have r2_row : ¬ nI 4 ≤ row := cv_r2 rfl (by decide) f_2
    obtain ⟨j_4, hj_4, ej_4⟩ := g_idx (n := 4) (by decide) r1_row r2_row
    rw [ej_4] at hl
    have hj_4 : j_4 = 0 ∨ j_4 = 1 ∨ j_4 = 2 ∨ j_4 = 3 := by omega
    rcases hj_4 with rfl | rfl | rfl | rfl
    · skip
      refine lv_if_ne (tgt := 21) hx hb dX8_write_14 (by decide) (fun _ => ?_) (fun c => absurd (show (nI 1) = 0 from c) (by decide +kernel))
      refine lv_aload_n hx hb dX8_write_21 rfl (lv_at hl 0 rfl) ?_
      refine g_get hC V (ci := 8) uwX8 0 rfl rfl 31 (by decide) w_943 rfl rfl dX8_write_22 ?_
      refine lv_iload_n hx hb dX8_write_25 rfl (lv_at hl 1 rfl) ?_
      refine g_iald hC V 1 rfl (vp_in_nI (by decide) (by decide)) (v := (-1)) (by rw [nI_clamp (by decide)]; rfl) dX8_write_26 ?_
      refine lv_iconst (v := (-1)) hx hb dX8_write_27 (by decide +kernel) ?_
      refine lv_icmp_ne (tgt := 35) hx hb dX8_write_28 (by decide) (fun c => absurd (show (-1 : Int32) = (-1 : Int32) by first | rfl | decide +kernel) c) (fun _ => ?_)
      refine lv_ldc2 (v := (-6)) hx hb hown (hts _ w_1382) dX8_write_31 ?_
      have V := V.sub (ws' := []) [] rfl rfl
      exact g_lret (Qr := (q_pm_write T o row i vv g1 g2 g3 g4 g15 g17 g20 g22 g23 g24 g28 g29 g31 g32 g33)) hC V ⟨(Nat.le_of_ble_eq_true rfl), (Nat.le_of_ble_eq_true rfl)⟩ ⟨(-6), rfl, rfl, (Eq.trans (show (-6 : Int64) = (-6 : Int32).toInt64 by decide +kernel) (congrArg Int32.toInt64 (by first | exact pf_row_1 ‹_› | exact pf_row_2 ‹_› ‹_›)))⟩ dX8_write_34
    · skip
      refine lv_if_ne (tgt := 21) hx hb dX8_write_14 (by decide) (fun _ => ?_) (fun c => absurd (show (nI 1) = 0 from c) (by decide +kernel))
      refine lv_aload_n hx hb dX8_write_21 rfl (lv_at hl 0 rfl) ?_
      refine g_get hC V (ci := 8) uwX8 0 rfl rfl 31 (by decide) w_943 rfl rfl dX8_write_22 ?_
      refine lv_iload_n hx hb dX8_write_25 rfl (lv_at hl 1 rfl) ?_
      refine g_iald hC V 1 rfl (vp_in_nI (by decide) (by decide)) (v := (-1)) (by rw [nI_clamp (by decide)]; rfl) dX8_write_26 ?_
      refine lv_iconst (v := (-1)) hx hb dX8_write_27 (by decide +kernel) ?_
      refine lv_icmp_ne (tgt := 35) hx hb dX8_write_28 (by decide) (fun c => absurd (show (-1 : Int32) = (-1 : Int32) by first | rfl | decide +kernel) c) (fun _ => ?_)
      refine lv_ldc2 (v := (-6)) hx hb hown (hts _ w_1382) dX8_write_31 ?_
      have V := V.sub (ws' := []) [] rfl rfl
      exact g_lret (Qr := (q_pm_write T o row i vv g1 g2 g3 g4 g15 g17 g20 g22 g23 g24 g28 g29 g31 g32 g33)) hC V ⟨(Nat.le_of_ble_eq_true rfl), (Nat.le_of_ble_eq_true rfl)⟩ ⟨(-6), rfl, rfl, (Eq.trans (show (-6 : Int64) = (-6 : Int32).toInt64 by decide +kernel) (congrArg Int32.toInt64 (by first | exact pf_row_1 ‹_› | exact pf_row_2 ‹_› ‹_›)))⟩ dX8_write_34
    · skip
      refine lv_if_ne (tgt := 21) hx hb dX8_write_14 (by decide) (fun _ => ?_) (fun c => absurd (show (nI 1) = 0 from c) (by decide +kernel))
      refine lv_aload_n hx hb dX8_write_21 rfl (lv_at hl 0 rfl) ?_
      refine g_get hC V (ci := 8) uwX8 0 rfl rfl 31 (by decide) w_943 rfl rfl dX8_write_22 ?_
      refine lv_iload_n hx hb dX8_write_25 rfl (lv_at hl 1 rfl) ?_
      refine g_iald hC V 1 rfl (vp_in_nI (by decide) (by decide)) (v := (-1)) (by rw [nI_clamp (by decide)]; rfl) dX8_write_26 ?_
      refine lv_iconst (v := (-1)) hx hb dX8_write_27 (by decide +kernel) ?_
      refine lv_icmp_ne (tgt := 35) hx hb dX8_write_28 (by decide) (fun c => absurd (show (-1 : Int32) = (-1 : Int32) by first | rfl | decide +kernel) c) (fun _ => ?_)
      refine lv_ldc2 (v := (-6)) hx hb hown (hts _ w_1382) dX8_write_31 ?_
      have V := V.sub (ws' := []) [] rfl rfl
      exact g_lret (Qr := (q_pm_write T o row i vv g1 g2 g3 g4 g15 g17 g20 g22 g23 g24 g28 g29 g31 g32 g33)) hC V ⟨(Nat.le_of_ble_eq_true rfl), (Nat.le_of_ble_eq_true rfl)⟩ ⟨(-6), rfl, rfl, (Eq.trans (show (-6 : Int64) = (-6 : Int32).toInt64 by decide +kernel) (congrArg Int32.toInt64 (by first | exact pf_row_1 ‹_› | exact pf_row_2 ‹_› ‹_›)))⟩ dX8_write_34
    · skip
      refine lv_if_ne (tgt := 21) hx hb dX8_write_14 (by decide) (fun _ => ?_) (fun c => absurd (show (nI 1) = 0 from c) (by decide +kernel))
      refine lv_aload_n hx hb dX8_write_21 rfl (lv_at hl 0 rfl) ?_
      refine g_get hC V (ci := 8) uwX8 0 rfl rfl 31 (by decide) w_943 rfl rfl dX8_write_22 ?_
      refine lv_iload_n hx hb dX8_write_25 rfl (lv_at hl 1 rfl) ?_
      refine g_iald hC V 1 rfl (vp_in_nI (by decide) (by decide)) (v := (-1)) (by rw [nI_clamp (by decide)]; rfl) dX8_write_26 ?_
      refine lv_iconst (v := (-1)) hx hb dX8_write_27 (by decide +kernel) ?_
      refine lv_icmp_ne (tgt := 35) hx hb dX8_write_28 (by decide) (fun c => absurd (show (-1 : Int32) = (-1 : Int32) by first | rfl | decide +kernel) c) (fun _ => ?_)
      refine lv_ldc2 (v := (-6)) hx hb hown (hts _ w_1382) dX8_write_31 ?_
      have V := V.sub (ws' := []) [] rfl rfl
      exact g_lret (Qr := (q_pm_write T o row i vv g1 g2 g3 g4 g15 g17 g20 g22 g23 g24 g28 g29 g31 g32 g33)) hC V ⟨(Nat.le_of_ble_eq_true rfl), (Nat.le_of_ble_eq_true rfl)⟩ ⟨(-6), rfl, rfl, (Eq.trans (show (-6 : Int64) = (-6 : Int32).toInt64 by decide +kernel) (congrArg Int32.toInt64 (by first | exact pf_row_1 ‹_› | exact pf_row_2 ‹_› ‹_›)))⟩ dX8_write_34
  · have V : gW D T A s [(o, .inr (8, [.int (nI 0), .ref g1, .ref g2, .ref g3, .ref g4, .int (nI 0), .int (nI 0), .int (nI 0), .int (nI 0), .int (nI 0), .int (nI 0), .int (nI 0), .int (nI 0), .int (nI 0), .int (-1), .ref g15, .int (nI 0), .ref g17, .int (nI 0), .int (nI 0), .ref g20, .int (nI 0), .ref g22, .ref g23, .ref g24, .int (nI 0), .int (nI 0), .int (nI 0), .ref g28, .ref g29, .int (nI 0), .ref g31, .ref g32, .ref g33])), (g31, .inl (T 0, 4, .inl (upd (upd (upd (upd (fun _ => nI 0) 0 (-1)) 1 (-1)) 2 (-1)) 3 (-1))))] H locs := V
    show W p l e _ s m args below meth c H locs _ _ _ (F0 m 14 ls [.int (nI 0)])
    have r0_row : (row < 0 ∨ nI 4 ≤ row) := cv_r0 rfl (by decide) f_3
    refine lv_if_ne (tgt := 21) hx hb dX8_write_14 (by decide) (fun c => absurd (show (nI 0) = 0 by decide +kernel) c) (fun _ => ?_)
    refine lv_ldc2 (v := (-2)) hx hb hown (hts _ w_1381) dX8_write_17 ?_
    have V := V.sub (ws' := []) [] rfl rfl
    exact g_lret (Qr := (q_pm_write T o row i vv g1 g2 g3 g4 g15 g17 g20 g22 g23 g24 g28 g29 g31 g32 g33)) hC V ⟨(Nat.le_of_ble_eq_true rfl), (Nat.le_of_ble_eq_true rfl)⟩ ⟨(-2), rfl, rfl, (Eq.trans (show (-2 : Int64) = (-2 : Int32).toInt64 by decide +kernel) (congrArg Int32.toInt64 (by first | exact pf_row_1 ‹_› | exact pf_row_2 ‹_› ‹_›)))⟩ dX8_write_20
