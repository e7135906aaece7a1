def q_pm_custom (T : Nat → ClassId) (o : Nat) (n : Int32) (g1 : Nat) (g2 : Nat) (g3 : Nat) (g4 : Nat) (g15 : Nat) (g17 : Nat) (g20 : Nat) (g22 : Nat) (g23 : Nat) (g24 : Nat) (g28 : Nat) (g29 : Nat) (g31 : Nat) (g32 : Nat) (g33 : Nat) : Option Value → va_W → Prop := fun rr ww => (∃ (z : Int32), rr = some (.int z) ∧ ww = [] ∧ z = pf_time n)
set_option maxHeartbeats 4000000 in
set_option maxRecDepth 100000 in
theorem pm_custom (l : Launch) (D : va_G) (T : Nat → ClassId) (o : Nat) (n : Int32) (g1 : Nat) (g2 : Nat) (g3 : Nat) (g4 : Nat) (g15 : Nat) (g17 : Nat) (g20 : Nat) (g22 : Nat) (g23 : Nat) (g24 : Nat) (g28 : Nat) (g29 : Nat) (g31 : Nat) (g32 : Nat) (g33 : Nat) : Ct l yX8_custom cX8_custom 3 (some .int) 4 0 0 D T [.ref o, .int n] [(o, .inr (8, [.int (nI 0), .ref g1, .ref g2, .ref g3, .ref g4, .int (nI 0), .int (nI 0), .int (nI 0), .int (nI 0), .int (nI 0), .int (nI 0), .int (nI 0), .int (nI 0), .int (nI 0), .int (-1), .ref g15, .int (nI 0), .ref g17, .int (nI 0), .int (nI 0), .ref g20, .int (nI 0), .ref g22, .ref g23, .ref g24, .int (nI 0), .int (nI 0), .int (nI 0), .ref g28, .ref g29, .int (nI 0), .ref g31, .ref g32, .ref g33])), (g1, .inl (T 0, 282, .inl (upd (fun _ => nI 0) 2 (nI 20)))), (g17, .inl (T 0, 94, .inl (fun _ => nI 0)))] (q_pm_custom T o n g1 g2 g3 g4 g15 g17 g20 g22 g23 g24 g28 g29 g31 g32 g33) := by
  refine Ct.of (cc := cX8_custom) (maxL := 3) (ret := (some .int)) (by decide) (Nat.le_of_ble_eq_true rfl) ?_
  intro p e s m args below meth c A ls hC hnm V hl
  obtain ⟨hx, hb, hr, hml, hown, hts, hlocks⟩ := id hC
  generalize hH : s.heap = H at V ⊢
  clear hH
  have hl : lv_has ls 3 [(0, .ref o), (1, .int n)] := hl
  generalize hlo : ([] : List Loc) = locs at V ⊢
  clear hlo
  refine lv_aload_n hx hb dX8_custom_0 rfl (lv_at hl 0 rfl) ?_
  refine lv_iconst (v := (nI 0)) hx hb dX8_custom_1 (by decide +kernel) ?_
  refine g_put hC V (ci := 8) uwX8 tyX8 tyX8_ok nmX8 0 rfl rfl 0 (by decide) w_912 rfl rfl rfl rfl (Nat.le_of_ble_eq_true rfl) (ws' := [(o, .inr (8, [.int (nI 0), .ref g1, .ref g2, .ref g3, .ref g4, .int (nI 0), .int (nI 0), .int (nI 0), .int (nI 0), .int (nI 0), .int (nI 0), .int (nI 0), .int (nI 0), .int (nI 0), .int (-1), .ref g15, .int (nI 0), .ref g17, .int (nI 0), .int (nI 0), .ref g20, .int (nI 0), .ref g22, .ref g23, .ref g24, .int (nI 0), .int (nI 0), .int (nI 0), .ref g28, .ref g29, .int (nI 0), .ref g31, .ref g32, .ref g33])), (g1, .inl (T 0, 282, .inl (upd (fun _ => nI 0) 2 (nI 20)))), (g17, .inl (T 0, 94, .inl (fun _ => nI 0)))]) rfl dX8_custom_2 (fun H locs V => ?_)
  refine lv_aload_n hx hb dX8_custom_5 rfl (lv_at hl 0 rfl) ?_
  refine lv_iload_n hx hb dX8_custom_6 rfl (lv_at hl 1 rfl) ?_
  refine g_callV (wr := [(g17, .inl (T 0, 94, .inl (fun _ => nI 0)))]) (nA := 1) hC V hl.1 (m_refusesTime l D T o n (nI 0) g1 g2 g3 g4 (nI 0) (nI 0) (nI 0) (nI 0) (nI 0) (nI 0) (nI 0) (nI 0) (nI 0) (-1) g15 (nI 0) g17 (nI 0) (nI 0) g20 (nI 0) g22 g23 g24 (nI 0) (nI 0) (nI 0) g28 g29 (nI 0) g31 g32 g33) w_1174 w_1176 w_s58 w_9 w_1177 (by decide +kernel) rfl ⟨(Nat.le_of_ble_eq_true rfl), (Nat.le_of_ble_eq_true rfl)⟩ 0 (ci := 8) rfl rfl [0, 1] [2] rfl rfl rfl rfl (by decide) (Nat.le_of_ble_eq_true rfl) dX8_custom_7 ⟨(Nat.le_of_ble_eq_true rfl), (Nat.le_of_ble_eq_true rfl)⟩ rfl (fun r w1 H locs hQ V => ?_)
  rcases hQ with ⟨rfl, rfl, f_1⟩ | ⟨jj, rfl, rfl, f_2, f_3, f_4, f_5, f_6⟩
  · have V : gW D T A s [(g17, .inl (T 0, 94, .inl (fun _ => nI 0))), (o, .inr (8, [.int (nI 0), .ref g1, .ref g2, .ref g3, .ref g4, .int (nI 0), .int (nI 0), .int (nI 0), .int (nI 0), .int (nI 0), .int (nI 0), .int (nI 0), .int (nI 0), .int (nI 0), .int (-1), .ref g15, .int (nI 0), .ref g17, .int (nI 0), .int (nI 0), .ref g20, .int (nI 0), .ref g22, .ref g23, .ref g24, .int (nI 0), .int (nI 0), .int (nI 0), .ref g28, .ref g29, .int (nI 0), .ref g31, .ref g32, .ref g33])), (g1, .inl (T 0, 282, .inl (upd (fun _ => nI 0) 2 (nI 20))))] H locs := V
    show W p l e _ s m args below meth c H locs _ _ _ (F0 m 10 ls [.int (-3)])
    refine lv_istore_n (lv' := [(2, .int (-3)), (0, .ref o), (1, .int n)]) hx hb dX8_custom_10 rfl hl (by decide) rfl (fun ls hl => ?_)
    refine lv_iload_n hx hb dX8_custom_11 rfl (lv_at hl 0 rfl) ?_
    refine lv_if_eq (tgt := 19) hx hb dX8_custom_12 (by decide) (fun c => absurd (show (-3 : Int32) = 0 from c) (by decide +kernel)) (fun _ => ?_)
    refine lv_iload_n hx hb dX8_custom_15 rfl (lv_at hl 0 rfl) ?_
    refine lv_goto (tgt := 27) hx hb dX8_custom_16 (by decide) ?_
    have V := V.sub (ws' := []) [] rfl rfl
    exact g_iret (Qr := (q_pm_custom T o n g1 g2 g3 g4 g15 g17 g20 g22 g23 g24 g28 g29 g31 g32 g33)) hC V ⟨(Nat.le_of_ble_eq_true rfl), (Nat.le_of_ble_eq_true rfl)⟩ ⟨(-3), rfl, rfl, (by first | exact pf_time_1 ‹_› | exact pf_time_2 ‹_› ‹_›)⟩ dX8_custom_27
  · have V : gW D T A s [(g17, .inl (T 0, 94, .inl (fun _ => nI 0))), (o, .inr (8, [.int (nI 0), .ref g1, .ref g2, .ref g3, .ref g4, .int (nI 0), .int (nI 0), .int (nI 0), .int (nI 0), .int (nI 0), .int (nI 0), .int (nI 0), .int (nI 0), .int (nI 0), .int (-1), .ref g15, .int (nI 0), .ref g17, .int (nI 0), .int (nI 0), .ref g20, .int (nI 0), .ref g22, .ref g23, .ref g24, .int (nI 0), .int (nI 0), .int (nI 0), .ref g28, .ref g29, .int (nI 0), .ref g31, .ref g32, .ref g33])), (g1, .inl (T 0, 282, .inl (upd (fun _ => nI 0) 2 (nI 20))))] H locs := V
    show W p l e _ s m args below meth c H locs _ _ _ (F0 m 10 ls [.int (nI 0)])
    rw [f_6] at hl
    refine lv_istore_n (lv' := [(2, .int (nI 0)), (0, .ref o), (1, .int (nI jj))]) hx hb dX8_custom_10 rfl hl (by decide) rfl (fun ls hl => ?_)
    refine lv_iload_n hx hb dX8_custom_11 rfl (lv_at hl 0 rfl) ?_
    refine lv_if_eq (tgt := 19) hx hb dX8_custom_12 (by decide) (fun _ => ?_) (fun c => absurd (show (nI 0) = 0 by decide +kernel) c)
    refine lv_aload_n hx hb dX8_custom_19 rfl (lv_at hl 1 rfl) ?_
    refine lv_iload_n hx hb dX8_custom_20 rfl (lv_at hl 2 rfl) ?_
    refine lv_iconst (v := (-1)) hx hb dX8_custom_21 (by decide +kernel) ?_
    refine lv_iconst (v := (-1)) hx hb dX8_custom_22 (by decide +kernel) ?_
    refine lv_iconst (v := (nI 0)) hx hb dX8_custom_23 (by decide +kernel) ?_
    refine g_callV (wr := []) (nA := 4) hC V hl.1 (m_doneBy l D T o jj (-1) (nI 0) g1 g2 g3 g4 (nI 0) (nI 0) (nI 0) (nI 0) (nI 0) (nI 0) (nI 0) (nI 0) (nI 0) (-1) g15 (nI 0) g17 (nI 0) (nI 0) g20 (nI 0) g22 g23 g24 (nI 0) (nI 0) (nI 0) g28 g29 (nI 0) g31 g32 g33 (upd (fun _ => nI 0) 2 (nI 20)) (fun _ => nI 0) (by first | rfl | assumption | omega | decide) (by first | rfl | assumption | omega | decide)) w_1179 w_1181 w_s59 w_9 w_1182 (by decide +kernel) rfl ⟨(Nat.le_of_ble_eq_true rfl), (Nat.le_of_ble_eq_true rfl)⟩ 1 (ci := 8) rfl rfl [1, 2, 0] [] rfl rfl rfl rfl (by decide) (Nat.le_of_ble_eq_true rfl) dX8_custom_24 ⟨(Nat.le_of_ble_eq_true rfl), (Nat.le_of_ble_eq_true rfl)⟩ rfl (fun r w1 H locs hQ V => ?_)
    obtain ⟨ga_7, gk_8, rfl, rfl, f_9⟩ := hQ
    have V : gW D T A s [(o, .inr (8, [.int (nI 0), .ref g1, .ref g2, .ref g3, .ref g4, .int (nI 0), .int (nI 0), .int (nI 0), .int (nI 0), .int (nI 0), .int (nI 0), .int (nI 0), .int (nI 0), .int (nI 0), .int (-1), .ref g15, .int (nI 0), .ref g17, .int (nI 0), .int (nI 0), .ref g20, .int (nI 0), .ref g22, .ref g23, .ref g24, .int (nI 0), .int (nI 0), .int (nI 0), .ref g28, .ref g29, .int (nI 0), .ref g31, .ref g32, .ref g33])), (g1, .inl (T 0, 282, .inl ga_7)), (g17, .inl (T 0, 94, .inl gk_8))] H locs := V
    show W p l e _ s m args below meth c H locs _ _ _ (F0 m 27 ls [.int (nI 0)])
    have V := V.sub (ws' := []) [] rfl rfl
    exact g_iret (Qr := (q_pm_custom T o n g1 g2 g3 g4 g15 g17 g20 g22 g23 g24 g28 g29 g31 g32 g33)) hC V ⟨(Nat.le_of_ble_eq_true rfl), (Nat.le_of_ble_eq_true rfl)⟩ ⟨(nI 0), rfl, rfl, (by first | exact pf_time_1 ‹_› | exact pf_time_2 ‹_› ‹_›)⟩ dX8_custom_27

def q_pm_live (T : Nat → ClassId) (o : Nat) (n : Int32) (g1 : Nat) (g2 : Nat) (g3 : Nat) (g4 : Nat) (g15 : Nat) (g17 : Nat) (g20 : Nat) (g22 : Nat) (g23 : Nat) (g24 : Nat) (g28 : Nat) (g29 : Nat) (g31 : Nat) (g32 : Nat) (g33 : Nat) : Option Value → va_W → Prop := fun rr ww => (∃ (z : Int32), rr = some (.int z) ∧ ww = [] ∧ z = pf_time n)
set_option maxHeartbeats 4000000 in
set_option maxRecDepth 100000 in
theorem pm_live (l : Launch) (D : va_G) (T : Nat → ClassId) (o : Nat) (n : Int32) (g1 : Nat) (g2 : Nat) (g3 : Nat) (g4 : Nat) (g15 : Nat) (g17 : Nat) (g20 : Nat) (g22 : Nat) (g23 : Nat) (g24 : Nat) (g28 : Nat) (g29 : Nat) (g31 : Nat) (g32 : Nat) (g33 : Nat) : Ct l yX8_live cX8_live 3 (some .int) 3 0 0 D T [.ref o, .int n] [(o, .inr (8, [.int (nI 0), .ref g1, .ref g2, .ref g3, .ref g4, .int (nI 0), .int (nI 0), .int (nI 0), .int (nI 0), .int (nI 0), .int (nI 0), .int (nI 0), .int (nI 0), .int (nI 0), .int (-1), .ref g15, .int (nI 0), .ref g17, .int (nI 0), .int (nI 0), .ref g20, .int (nI 0), .ref g22, .ref g23, .ref g24, .int (nI 0), .int (nI 0), .int (nI 0), .ref g28, .ref g29, .int (nI 0), .ref g31, .ref g32, .ref g33])), (g1, .inl (T 0, 282, .inl (upd (fun _ => nI 0) 2 (nI 20))))] (q_pm_live T o n g1 g2 g3 g4 g15 g17 g20 g22 g23 g24 g28 g29 g31 g32 g33) := by
  refine Ct.of (cc := cX8_live) (maxL := 3) (ret := (some .int)) (by decide) (Nat.le_of_ble_eq_true rfl) ?_
  intro p e s m args below meth c A ls hC hnm V hl
  obtain ⟨hx, hb, hr, hml, hown, hts, hlocks⟩ := id hC
  generalize hH : s.heap = H at V ⊢
  clear hH
  have hl : lv_has ls 3 [(0, .ref o), (1, .int n)] := hl
  generalize hlo : ([] : List Loc) = locs at V ⊢
  clear hlo
  refine lv_aload_n hx hb dX8_live_0 rfl (lv_at hl 0 rfl) ?_
  refine lv_iconst (v := (nI 0)) hx hb dX8_live_1 (by decide +kernel) ?_
  refine g_put hC V (ci := 8) uwX8 tyX8 tyX8_ok nmX8 0 rfl rfl 0 (by decide) w_912 rfl rfl rfl rfl (Nat.le_of_ble_eq_true rfl) (ws' := [(o, .inr (8, [.int (nI 0), .ref g1, .ref g2, .ref g3, .ref g4, .int (nI 0), .int (nI 0), .int (nI 0), .int (nI 0), .int (nI 0), .int (nI 0), .int (nI 0), .int (nI 0), .int (nI 0), .int (-1), .ref g15, .int (nI 0), .ref g17, .int (nI 0), .int (nI 0), .ref g20, .int (nI 0), .ref g22, .ref g23, .ref g24, .int (nI 0), .int (nI 0), .int (nI 0), .ref g28, .ref g29, .int (nI 0), .ref g31, .ref g32, .ref g33])), (g1, .inl (T 0, 282, .inl (upd (fun _ => nI 0) 2 (nI 20))))]) rfl dX8_live_2 (fun H locs V => ?_)
  refine lv_aload_n hx hb dX8_live_5 rfl (lv_at hl 0 rfl) ?_
  refine lv_iload_n hx hb dX8_live_6 rfl (lv_at hl 1 rfl) ?_
  refine g_callV (wr := []) (nA := 1) hC V hl.1 (m_refusesTime l D T o n (nI 0) g1 g2 g3 g4 (nI 0) (nI 0) (nI 0) (nI 0) (nI 0) (nI 0) (nI 0) (nI 0) (nI 0) (-1) g15 (nI 0) g17 (nI 0) (nI 0) g20 (nI 0) g22 g23 g24 (nI 0) (nI 0) (nI 0) g28 g29 (nI 0) g31 g32 g33) w_1174 w_1176 w_s58 w_9 w_1177 (by decide +kernel) rfl ⟨(Nat.le_of_ble_eq_true rfl), (Nat.le_of_ble_eq_true rfl)⟩ 0 (ci := 8) rfl rfl [0, 1] [] rfl rfl rfl rfl (by decide) (Nat.le_of_ble_eq_true rfl) dX8_live_7 ⟨(Nat.le_of_ble_eq_true rfl), (Nat.le_of_ble_eq_true rfl)⟩ rfl (fun r w1 H locs hQ V => ?_)
  rcases hQ with ⟨rfl, rfl, f_1⟩ | ⟨jj, rfl, rfl, f_2, f_3, f_4, f_5, f_6⟩
  · have V : gW D T A s [(o, .inr (8, [.int (nI 0), .ref g1, .ref g2, .ref g3, .ref g4, .int (nI 0), .int (nI 0), .int (nI 0), .int (nI 0), .int (nI 0), .int (nI 0), .int (nI 0), .int (nI 0), .int (nI 0), .int (-1), .ref g15, .int (nI 0), .ref g17, .int (nI 0), .int (nI 0), .ref g20, .int (nI 0), .ref g22, .ref g23, .ref g24, .int (nI 0), .int (nI 0), .int (nI 0), .ref g28, .ref g29, .int (nI 0), .ref g31, .ref g32, .ref g33])), (g1, .inl (T 0, 282, .inl (upd (fun _ => nI 0) 2 (nI 20))))] H locs := V
    show W p l e _ s m args below meth c H locs _ _ _ (F0 m 10 ls [.int (-3)])
    refine lv_istore_n (lv' := [(2, .int (-3)), (0, .ref o), (1, .int n)]) hx hb dX8_live_10 rfl hl (by decide) rfl (fun ls hl => ?_)
    refine lv_iload_n hx hb dX8_live_11 rfl (lv_at hl 0 rfl) ?_
    refine lv_if_eq (tgt := 19) hx hb dX8_live_12 (by decide) (fun c => absurd (show (-3 : Int32) = 0 from c) (by decide +kernel)) (fun _ => ?_)
    refine lv_iload_n hx hb dX8_live_15 rfl (lv_at hl 0 rfl) ?_
    refine lv_goto (tgt := 27) hx hb dX8_live_16 (by decide) ?_
    have V := V.sub (ws' := []) [] rfl rfl
    exact g_iret (Qr := (q_pm_live T o n g1 g2 g3 g4 g15 g17 g20 g22 g23 g24 g28 g29 g31 g32 g33)) hC V ⟨(Nat.le_of_ble_eq_true rfl), (Nat.le_of_ble_eq_true rfl)⟩ ⟨(-3), rfl, rfl, (by first | exact pf_time_1 ‹_› | exact pf_time_2 ‹_› ‹_›)⟩ dX8_live_27
  · have V : gW D T A s [(o, .inr (8, [.int (nI 0), .ref g1, .ref g2, .ref g3, .ref g4, .int (nI 0), .int (nI 0), .int (nI 0), .int (nI 0), .int (nI 0), .int (nI 0), .int (nI 0), .int (nI 0), .int (nI 0), .int (-1), .ref g15, .int (nI 0), .ref g17, .int (nI 0), .int (nI 0), .ref g20, .int (nI 0), .ref g22, .ref g23, .ref g24, .int (nI 0), .int (nI 0), .int (nI 0), .ref g28, .ref g29, .int (nI 0), .ref g31, .ref g32, .ref g33])), (g1, .inl (T 0, 282, .inl (upd (fun _ => nI 0) 2 (nI 20))))] H locs := V
    show W p l e _ s m args below meth c H locs _ _ _ (F0 m 10 ls [.int (nI 0)])
    rw [f_6] at hl
    refine lv_istore_n (lv' := [(2, .int (nI 0)), (0, .ref o), (1, .int (nI jj))]) hx hb dX8_live_10 rfl hl (by decide) rfl (fun ls hl => ?_)
    refine lv_iload_n hx hb dX8_live_11 rfl (lv_at hl 0 rfl) ?_
    refine lv_if_eq (tgt := 19) hx hb dX8_live_12 (by decide) (fun _ => ?_) (fun c => absurd (show (nI 0) = 0 by decide +kernel) c)
    refine lv_aload_n hx hb dX8_live_19 rfl (lv_at hl 1 rfl) ?_
    refine lv_iload_n hx hb dX8_live_20 rfl (lv_at hl 2 rfl) ?_
    refine lv_iconst (v := (-1)) hx hb dX8_live_21 (by decide +kernel) ?_
    refine lv_iconst (v := (-1)) hx hb dX8_live_22 (by decide +kernel) ?_
    refine lv_iconst (v := (nI 0)) hx hb dX8_live_23 (by decide +kernel) ?_
    refine g_callV (wr := []) (nA := 4) hC V hl.1 (m_lives l D T o jj (-1) (nI 0) g1 g2 g3 g4 (nI 0) (nI 0) (nI 0) (nI 0) (nI 0) (nI 0) (nI 0) (nI 0) (nI 0) (-1) g15 (nI 0) g17 (nI 0) (nI 0) g20 (nI 0) g22 g23 g24 (nI 0) (nI 0) (nI 0) g28 g29 (nI 0) g31 g32 g33 (upd (fun _ => nI 0) 2 (nI 20)) (by first | rfl | assumption | omega | decide) (by first | rfl | assumption | omega | decide)) w_1183 w_1185 w_s60 w_9 w_1186 (by decide +kernel) rfl ⟨(Nat.le_of_ble_eq_true rfl), (Nat.le_of_ble_eq_true rfl)⟩ 0 (ci := 8) rfl rfl [0, 1] [] rfl rfl rfl rfl (by decide) (Nat.le_of_ble_eq_true rfl) dX8_live_24 ⟨(Nat.le_of_ble_eq_true rfl), (Nat.le_of_ble_eq_true rfl)⟩ rfl (fun r w1 H locs hQ V => ?_)
    obtain ⟨ga_7, rfl, rfl, f_8⟩ := hQ
    have V : gW D T A s [(o, .inr (8, [.int (nI 0), .ref g1, .ref g2, .ref g3, .ref g4, .int (nI 0), .int (nI 0), .int (nI 0), .int (nI 0), .int (nI 0), .int (nI 0), .int (nI 0), .int (nI 0), .int (nI 0), .int (-1), .ref g15, .int (nI 0), .ref g17, .int (nI 0), .int (nI 0), .ref g20, .int (nI 0), .ref g22, .ref g23, .ref g24, .int (nI 0), .int (nI 0), .int (nI 0), .ref g28, .ref g29, .int (nI 0), .ref g31, .ref g32, .ref g33])), (g1, .inl (T 0, 282, .inl ga_7))] H locs := V
    show W p l e _ s m args below meth c H locs _ _ _ (F0 m 27 ls [.int (nI 0)])
    have V := V.sub (ws' := []) [] rfl rfl
    exact g_iret (Qr := (q_pm_live T o n g1 g2 g3 g4 g15 g17 g20 g22 g23 g24 g28 g29 g31 g32 g33)) hC V ⟨(Nat.le_of_ble_eq_true rfl), (Nat.le_of_ble_eq_true rfl)⟩ ⟨(nI 0), rfl, rfl, (by first | exact pf_time_1 ‹_› | exact pf_time_2 ‹_› ‹_›)⟩ dX8_live_27

def q_pm_day (T : Nat → ClassId) (o : Nat) (seed : Int32) (n : Int32) (g1 : Nat) (g2 : Nat) (g3 : Nat) (g4 : Nat) (g15 : Nat) (g17 : Nat) (g20 : Nat) (g22 : Nat) (g23 : Nat) (g24 : Nat) (g28 : Nat) (g29 : Nat) (g31 : Nat) (g32 : Nat) (g33 : Nat) : Option Value → va_W → Prop := fun rr ww => (∃ (z : Int32), rr = some (.int z) ∧ ww = [] ∧ z = pf_day n)
set_option maxHeartbeats 4000000 in
set_option maxRecDepth 100000 in
theorem pm_day (l : Launch) (D : va_G) (T : Nat → ClassId) (o : Nat) (seed : Int32) (n : Int32) (g1 : Nat) (g2 : Nat) (g3 : Nat) (g4 : Nat) (g15 : Nat) (g17 : Nat) (g20 : Nat) (g22 : Nat) (g23 : Nat) (g24 : Nat) (g28 : Nat) (g29 : Nat) (g31 : Nat) (g32 : Nat) (g33 : Nat) : Ct l yX8_day cX8_day 10 (some .int) 2 0 0 D T [.ref o, .int seed, .int n] [(o, .inr (8, [.int (nI 0), .ref g1, .ref g2, .ref g3, .ref g4, .int (nI 0), .int (nI 0), .int (nI 0), .int (nI 0), .int (nI 0), .int (nI 0), .int (nI 0), .int (nI 0), .int (nI 0), .int (-1), .ref g15, .int (nI 0), .ref g17, .int (nI 0), .int (nI 0), .ref g20, .int (nI 0), .ref g22, .ref g23, .ref g24, .int (nI 0), .int (nI 0), .int (nI 0), .ref g28, .ref g29, .int (nI 0), .ref g31, .ref g32, .ref g33])), (g1, .inl (T 0, 282, .inl (upd (fun _ => nI 0) 2 (nI 20))))] (q_pm_day T o seed n g1 g2 g3 g4 g15 g17 g20 g22 g23 g24 g28 g29 g31 g32 g33) := by
  refine Ct.of (cc := cX8_day) (maxL := 10) (ret := (some .int)) (by decide) (Nat.le_of_ble_eq_true rfl) ?_
  intro p e s m args below meth c A ls hC hnm V hl
  obtain ⟨hx, hb, hr, hml, hown, hts, hlocks⟩ := id hC
  generalize hH : s.heap = H at V ⊢
  clear hH
  have hl : lv_has ls 10 [(0, .ref o), (1, .int seed), (2, .int n)] := hl
  generalize hlo : ([] : List Loc) = locs at V ⊢
  clear hlo
  refine lv_aload_n hx hb dX8_day_0 rfl (lv_at hl 0 rfl) ?_
  refine lv_iconst (v := (nI 0)) hx hb dX8_day_1 (by decide +kernel) ?_
  refine g_put hC V (ci := 8) uwX8 tyX8 tyX8_ok nmX8 0 rfl rfl 0 (by decide) w_912 rfl rfl rfl rfl (Nat.le_of_ble_eq_true rfl) (ws' := [(o, .inr (8, [.int (nI 0), .ref g1, .ref g2, .ref g3, .ref g4, .int (nI 0), .int (nI 0), .int (nI 0), .int (nI 0), .int (nI 0), .int (nI 0), .int (nI 0), .int (nI 0), .int (nI 0), .int (-1), .ref g15, .int (nI 0), .ref g17, .int (nI 0), .int (nI 0), .ref g20, .int (nI 0), .ref g22, .ref g23, .ref g24, .int (nI 0), .int (nI 0), .int (nI 0), .ref g28, .ref g29, .int (nI 0), .ref g31, .ref g32, .ref g33])), (g1, .inl (T 0, 282, .inl (upd (fun _ => nI 0) 2 (nI 20))))]) rfl dX8_day_2 (fun H locs V => ?_)
  refine lv_iload_n hx hb dX8_day_5 rfl (lv_at hl 2 rfl) ?_
  refine lv_i2l (v := n.toInt64) hx hb dX8_day_6 rfl ?_
  refine lv_lconst (v := (nI 1).toInt64) hx hb dX8_day_7 (by decide +kernel) ?_
  refine lv_ldc2 (v := (60)) hx hb hown (hts _ w_1108) dX8_day_8 ?_
  refine g_vl (y := (nI 60).toInt64) (by decide +kernel) ?_
  refine g_callS (wr := [(o, .inr (8, [.int (nI 0), .ref g1, .ref g2, .ref g3, .ref g4, .int (nI 0), .int (nI 0), .int (nI 0), .int (nI 0), .int (nI 0), .int (nI 0), .int (nI 0), .int (nI 0), .int (nI 0), .int (-1), .ref g15, .int (nI 0), .ref g17, .int (nI 0), .int (nI 0), .ref g20, .int (nI 0), .ref g22, .ref g23, .ref g24, .int (nI 0), .int (nI 0), .int (nI 0), .ref g28, .ref g29, .int (nI 0), .ref g31, .ref g32, .ref g33])), (g1, .inl (T 0, 282, .inl (upd (fun _ => nI 0) 2 (nI 20))))]) (nA := 3) hC V hl.1 (c_within l D T n (nI 1) (nI 60)) w_1023 w_1024 w_9 w_1025 (by decide +kernel) rfl ⟨(Nat.le_of_ble_eq_true rfl), (Nat.le_of_ble_eq_true rfl)⟩ [] [0, 1] rfl rfl rfl rfl (by decide) (Nat.le_of_ble_eq_true rfl) dX8_day_11 ⟨(Nat.le_of_ble_eq_true rfl), (Nat.le_of_ble_eq_true rfl)⟩ rfl (fun r w1 H locs hQ V => ?_)
  rcases hQ with ⟨rfl, rfl, f_1, f_2⟩ | ⟨rfl, rfl, f_3⟩
  · have V : gW D T A s [(o, .inr (8, [.int (nI 0), .ref g1, .ref g2, .ref g3, .ref g4, .int (nI 0), .int (nI 0), .int (nI 0), .int (nI 0), .int (nI 0), .int (nI 0), .int (nI 0), .int (nI 0), .int (nI 0), .int (-1), .ref g15, .int (nI 0), .ref g17, .int (nI 0), .int (nI 0), .ref g20, .int (nI 0), .ref g22, .ref g23, .ref g24, .int (nI 0), .int (nI 0), .int (nI 0), .ref g28, .ref g29, .int (nI 0), .ref g31, .ref g32, .ref g33])), (g1, .inl (T 0, 282, .inl (upd (fun _ => nI 0) 2 (nI 20))))] H locs := V
    show W p l e _ s m args below meth c H locs _ _ _ (F0 m 14 ls [.int (nI 1)])
    obtain ⟨jj, hjj1, hjj2, ejj⟩ := g_rng (by first | decide | omega) (by first | decide | omega) f_1 f_2
    rw [ejj] at hl
    refine lv_if_ne (tgt := 20) hx hb dX8_day_14 (by decide) (fun _ => ?_) (fun c => absurd (show (nI 1) = 0 from c) (by decide +kernel))
    refine lv_aload_n hx hb dX8_day_20 rfl (lv_at hl 0 rfl) ?_
    refine g_get hC V (ci := 8) uwX8 0 rfl rfl 1 (by decide) w_913 rfl rfl dX8_day_21 ?_
    refine lv_iconst (v := (nI 1)) hx hb dX8_day_24 (by decide +kernel) ?_
    refine g_iald hC V 1 rfl (vp_in_nI (by decide) (by decide)) (v := (nI 0)) (by rw [nI_clamp (by decide)]; first | rfl | exact hf) dX8_day_25 ?_
    refine lv_iload_n hx hb dX8_day_26 rfl (lv_at hl 2 rfl) ?_
    refine lv_iadd hx hb dX8_day_27 ?_
    refine g_vi (y := (nI (0 + jj))) (nI_add _ _) ?_
    refine lv_sipush (v := (nI 9999)) hx hb dX8_day_28 (by decide +kernel) ?_
    refine lv_icmp_le (tgt := 37) hx hb dX8_day_31 (by decide) (fun c_4 => ?_) (fun c_4 => ?_)
    · skip
      have c_4 := b_le (by omega) (by omega) c_4
      refine lv_iload_n hx hb dX8_day_37 rfl (lv_at hl 1 rfl) ?_
      refine lv_istore_n (lv' := [(3, .int seed), (0, .ref o), (1, .int seed), (2, .int (nI jj))]) hx hb dX8_day_38 rfl hl (by decide) rfl (fun ls hl => ?_)
      refine lv_iconst (v := (nI 0)) hx hb dX8_day_39 (by decide +kernel) ?_
      refine lv_istore (lv' := [(4, .int (nI 0)), (3, .int seed), (0, .ref o), (1, .int seed), (2, .int (nI jj))]) hx hb dX8_day_40 hl (by decide) rfl (fun ls hl => ?_)
      refine lv_iconst (v := (nI 0)) hx hb dX8_day_42 (by decide +kernel) ?_
      refine lv_istore (lv' := [(5, .int (nI 0)), (4, .int (nI 0)), (3, .int seed), (0, .ref o), (1, .int seed), (2, .int (nI jj))]) hx hb dX8_day_43 hl (by decide) rfl (fun ls hl => ?_)
      have L_5 : ∀ (fu : Nat) (k : Nat) (f : Nat → Int32), k ≤ jj → f 0 = nI 0 → jj - k < fu → ∀ (H : Heap) (locs : List Loc) (ls : Array Slot), gW D T A s [(o, .inr (8, [.int (nI 0), .ref g1, .ref g2, .ref g3, .ref g4, .int (nI 0), .int (nI 0), .int (nI 0), .int (nI 0), .int (nI 0), .int (nI 0), .int (nI 0), .int (nI 0), .int (nI 0), .int (-1), .ref g15, .int (nI 0), .ref g17, .int (nI 0), .int (nI 0), .ref g20, .int (nI 0), .ref g22, .ref g23, .ref g24, .int (nI 0), .int (nI 0), .int (nI 0), .ref g28, .ref g29, .int (nI 0), .ref g31, .ref g32, .ref g33])), (g1, .inl (T 0, 282, .inl f))] H locs → lv_has ls 10 [(5, .int (nI k)), (4, .int (nI 0)), (3, .int seed), (0, .ref o), (1, .int seed), (2, .int (nI jj))] → W p l e (rmD 2 0 0) s m args below meth c H locs 0 0 (MQ below (gQ D A (q_pm_day T o seed n g1 g2 g3 g4 g15 g17 g20 g22 g23 g24 g28 g29 g31 g32 g33)) args s 0 0 A) (F0 m 45 ls []) := by
        intro fu
        induction fu with
        | zero => intro k f hk hf hmu; exact absurd hmu (Nat.not_lt_zero _)
        | succ fu ih =>
          intro k f hk hf hmu H locs ls V hl
          refine lv_iload hx hb dX8_day_45 (lv_at hl 0 rfl) ?_
          refine lv_iload_n hx hb dX8_day_47 rfl (lv_at hl 5 rfl) ?_
          refine lv_icmp_ge (tgt := 153) hx hb dX8_day_48 (by decide) (fun c_6 => ?_) (fun c_6 => ?_)
          · skip
            have c_6 := b_le (by omega) (by omega) c_6
            refine lv_iload hx hb dX8_day_153 (lv_at hl 1 rfl) ?_
            have V := V.sub (ws' := []) [] rfl rfl
            exact g_iret (Qr := (q_pm_day T o seed n g1 g2 g3 g4 g15 g17 g20 g22 g23 g24 g28 g29 g31 g32 g33)) hC V ⟨(Nat.le_of_ble_eq_true rfl), (Nat.le_of_ble_eq_true rfl)⟩ ⟨(nI 0), rfl, rfl, (by first | exact pf_day_1 ‹_› | exact pf_day_2 ‹_› ‹_›)⟩ dX8_day_155
          · skip
            have c_6 := b_nle (by omega) (by omega) c_6
            refine lv_iconst (v := (nI 0)) hx hb dX8_day_51 (by decide +kernel) ?_
            refine lv_istore (lv' := [(6, .int (nI 0)), (5, .int (nI k)), (4, .int (nI 0)), (3, .int seed), (0, .ref o), (1, .int seed), (2, .int (nI jj))]) hx hb dX8_day_52 hl (by decide) rfl (fun ls hl => ?_)
            refine lv_iconst (v := (nI 0)) hx hb dX8_day_54 (by decide +kernel) ?_
            refine lv_istore (lv' := [(7, .int (nI 0)), (6, .int (nI 0)), (5, .int (nI k)), (4, .int (nI 0)), (3, .int seed), (0, .ref o), (1, .int seed), (2, .int (nI jj))]) hx hb dX8_day_55 hl (by decide) rfl (fun ls hl => ?_)
            refine lv_iconst (v := (nI 0)) hx hb dX8_day_57 (by decide +kernel) ?_
            refine lv_istore (lv' := [(8, .int (nI 0)), (7, .int (nI 0)), (6, .int (nI 0)), (5, .int (nI k)), (4, .int (nI 0)), (3, .int seed), (0, .ref o), (1, .int seed), (2, .int (nI jj))]) hx hb dX8_day_58 hl (by decide) rfl (fun ls hl => ?_)
            refine lv_iload hx hb dX8_day_60 (lv_at hl 0 rfl) ?_
            refine lv_aload_n hx hb dX8_day_62 rfl (lv_at hl 6 rfl) ?_
            refine g_get hC V (ci := 8) uwX8 0 rfl rfl 1 (by decide) w_913 rfl rfl dX8_day_63 ?_
            refine lv_iconst (v := (nI 0)) hx hb dX8_day_66 (by decide +kernel) ?_
            refine g_iald hC V 1 rfl (vp_in_nI (by decide) (by decide)) (v := (nI 0)) (by rw [nI_clamp (by decide)]; first | rfl | exact hf) dX8_day_67 ?_
            refine lv_icmp_ge (tgt := 132) hx hb dX8_day_68 (by decide) (fun _ => ?_) (fun c => absurd (show (nI 0) ≤ (nI 0) by first | rfl | decide +kernel) c)
            refine lv_iload hx hb dX8_day_132 (lv_at hl 4 rfl) ?_
            refine lv_aload_n hx hb dX8_day_134 rfl (lv_at hl 6 rfl) ?_
            refine lv_iload hx hb dX8_day_135 (lv_at hl 2 rfl) ?_
            refine lv_iload hx hb dX8_day_137 (lv_at hl 1 rfl) ?_
            refine lv_iconst (v := (-1)) hx hb dX8_day_139 (by decide +kernel) ?_
            refine lv_iconst (v := (nI 0)) hx hb dX8_day_140 (by decide +kernel) ?_
            refine g_callV (wr := []) (nA := 4) hC V hl.1 (m_goes l D T o (nI 0) (nI 0) (-1) (nI 0) (nI 0) g1 g2 g3 g4 (nI 0) (nI 0) (nI 0) (nI 0) (nI 0) (nI 0) (nI 0) (nI 0) (nI 0) (-1) g15 (nI 0) g17 (nI 0) (nI 0) g20 (nI 0) g22 g23 g24 (nI 0) (nI 0) (nI 0) g28 g29 (nI 0) g31 g32 g33 f hf) w_1122 w_1124 w_s50 w_9 w_1125 (by decide +kernel) rfl ⟨(Nat.le_of_ble_eq_true rfl), (Nat.le_of_ble_eq_true rfl)⟩ 0 (ci := 8) rfl rfl [0, 1] [] rfl rfl rfl rfl (by decide) (Nat.le_of_ble_eq_true rfl) dX8_day_141 ⟨(Nat.le_of_ble_eq_true rfl), (Nat.le_of_ble_eq_true rfl)⟩ rfl (fun r w1 H locs hQ V => ?_)
            obtain ⟨ga_7, rfl, rfl, f_8⟩ := hQ
            have V : gW D T A s [(o, .inr (8, [.int (nI 0), .ref g1, .ref g2, .ref g3, .ref g4, .int (nI 0), .int (nI 0), .int (nI 0), .int (nI 0), .int (nI 0), .int (nI 0), .int (nI 0), .int (nI 0), .int (nI 0), .int (-1), .ref g15, .int (nI 0), .ref g17, .int (nI 0), .int (nI 0), .ref g20, .int (nI 0), .ref g22, .ref g23, .ref g24, .int (nI 0), .int (nI 0), .int (nI 0), .ref g28, .ref g29, .int (nI 0), .ref g31, .ref g32, .ref g33])), (g1, .inl (T 0, 282, .inl ga_7))] H locs := V
            show W p l e _ s m args below meth c H locs _ _ _ (F0 m 144 ls [.int (nI 0), .int (nI 0)])
            refine lv_iadd hx hb dX8_day_144 ?_
            refine g_vi (y := (nI 0)) (by decide +kernel) ?_
            refine lv_istore (lv' := [(4, .int (nI 0)), (8, .int (nI 0)), (7, .int (nI 0)), (6, .int (nI 0)), (5, .int (nI k)), (3, .int seed), (0, .ref o), (1, .int seed), (2, .int (nI jj))]) hx hb dX8_day_145 hl (by decide) rfl (fun ls hl => ?_)
            refine lv_iinc (v := (nI (k + 1))) (lv' := [(5, .int (nI (k + 1))), (4, .int (nI 0)), (8, .int (nI 0)), (7, .int (nI 0)), (6, .int (nI 0)), (3, .int seed), (0, .ref o), (1, .int seed), (2, .int (nI jj))]) hx hb dX8_day_147 hl (k := 4) rfl (nI_1 _) (by decide) rfl (fun ls hl => ?_)
            refine lv_goto (tgt := 45) hx hb dX8_day_150 (by decide) ?_
            exact ih (k + 1) ga_7 (by omega) (by assumption) (by omega) _ _ _ V (lv_sub hl [0, 1, 5, 6, 7, 8] rfl)
      exact L_5 _ 0 (upd (fun _ => nI 0) 2 (nI 20)) (Nat.zero_le _) rfl (Nat.lt_succ_self _) _ _ _ V (lv_sub hl [0, 1, 2, 3, 4, 5] rfl)
    · skip
      have c_4 := b_nle (by omega) (by omega) c_4
      exact (by omega : False).elim
  · have V : gW D T A s [(o, .inr (8, [.int (nI 0), .ref g1, .ref g2, .ref g3, .ref g4, .int (nI 0), .int (nI 0), .int (nI 0), .int (nI 0), .int (nI 0), .int (nI 0), .int (nI 0), .int (nI 0), .int (nI 0), .int (-1), .ref g15, .int (nI 0), .ref g17, .int (nI 0), .int (nI 0), .ref g20, .int (nI 0), .ref g22, .ref g23, .ref g24, .int (nI 0), .int (nI 0), .int (nI 0), .ref g28, .ref g29, .int (nI 0), .ref g31, .ref g32, .ref g33])), (g1, .inl (T 0, 282, .inl (upd (fun _ => nI 0) 2 (nI 20))))] H locs := V
    show W p l e _ s m args below meth c H locs _ _ _ (F0 m 14 ls [.int (nI 0)])
    refine lv_if_ne (tgt := 20) hx hb dX8_day_14 (by decide) (fun c => absurd (show (nI 0) = 0 by decide +kernel) c) (fun _ => ?_)
    refine lv_bipush (v := (-3)) hx hb dX8_day_17 (by decide +kernel) ?_
    have V := V.sub (ws' := []) [] rfl rfl
    exact g_iret (Qr := (q_pm_day T o seed n g1 g2 g3 g4 g15 g17 g20 g22 g23 g24 g28 g29 g31 g32 g33)) hC V ⟨(Nat.le_of_ble_eq_true rfl), (Nat.le_of_ble_eq_true rfl)⟩ ⟨(-3), rfl, rfl, (by first | exact pf_day_1 ‹_› | exact pf_day_2 ‹_› ‹_›)⟩ dX8_day_19

def q_pm_wave (T : Nat → ClassId) (o : Nat) (len : Int32) (step : Int32) (g1 : Nat) (g2 : Nat) (g3 : Nat) (g4 : Nat) (g15 : Nat) (g17 : Nat) (g20 : Nat) (g22 : Nat) (g23 : Nat) (g24 : Nat) (g28 : Nat) (g29 : Nat) (g31 : Nat) (g32 : Nat) (g33 : Nat) : Option Value → va_W → Prop := fun rr ww => (∃ (z : Int32), rr = some (.int z) ∧ ww = [] ∧ z = pf_wave len step)
set_option maxHeartbeats 4000000 in
set_option maxRecDepth 100000 in
theorem pm_wave (l : Launch) (D : va_G) (T : Nat → ClassId) (o : Nat) (len : Int32) (step : Int32) (g1 : Nat) (g2 : Nat) (g3 : Nat) (g4 : Nat) (g15 : Nat) (g17 : Nat) (g20 : Nat) (g22 : Nat) (g23 : Nat) (g24 : Nat) (g28 : Nat) (g29 : Nat) (g31 : Nat) (g32 : Nat) (g33 : Nat) : Ct l yX8_wave cX8_wave 3 (some .int) 4 0 0 D T [.ref o, .int len, .int step] [(o, .inr (8, [.int (nI 0), .ref g1, .ref g2, .ref g3, .ref g4, .int (nI 0), .int (nI 0), .int (nI 0), .int (nI 0), .int (nI 0), .int (nI 0), .int (nI 0), .int (nI 0), .int (nI 0), .int (-1), .ref g15, .int (nI 0), .ref g17, .int (nI 0), .int (nI 0), .ref g20, .int (nI 0), .ref g22, .ref g23, .ref g24, .int (nI 0), .int (nI 0), .int (nI 0), .ref g28, .ref g29, .int (nI 0), .ref g31, .ref g32, .ref g33])), (g1, .inl (T 0, 282, .inl (upd (fun _ => nI 0) 2 (nI 20)))), (g17, .inl (T 0, 94, .inl (fun _ => nI 0)))] (q_pm_wave T o len step g1 g2 g3 g4 g15 g17 g20 g22 g23 g24 g28 g29 g31 g32 g33) := by
  refine Ct.of (cc := cX8_wave) (maxL := 3) (ret := (some .int)) (by decide) (Nat.le_of_ble_eq_true rfl) ?_
  intro p e s m args below meth c A ls hC hnm V hl
  obtain ⟨hx, hb, hr, hml, hown, hts, hlocks⟩ := id hC
  generalize hH : s.heap = H at V ⊢
  clear hH
  have hl : lv_has ls 3 [(0, .ref o), (1, .int len), (2, .int step)] := hl
  generalize hlo : ([] : List Loc) = locs at V ⊢
  clear hlo
  refine lv_aload_n hx hb dX8_wave_0 rfl (lv_at hl 0 rfl) ?_
  refine lv_iconst (v := (nI 0)) hx hb dX8_wave_1 (by decide +kernel) ?_
  refine g_put hC V (ci := 8) uwX8 tyX8 tyX8_ok nmX8 0 rfl rfl 0 (by decide) w_912 rfl rfl rfl rfl (Nat.le_of_ble_eq_true rfl) (ws' := [(o, .inr (8, [.int (nI 0), .ref g1, .ref g2, .ref g3, .ref g4, .int (nI 0), .int (nI 0), .int (nI 0), .int (nI 0), .int (nI 0), .int (nI 0), .int (nI 0), .int (nI 0), .int (nI 0), .int (-1), .ref g15, .int (nI 0), .ref g17, .int (nI 0), .int (nI 0), .ref g20, .int (nI 0), .ref g22, .ref g23, .ref g24, .int (nI 0), .int (nI 0), .int (nI 0), .ref g28, .ref g29, .int (nI 0), .ref g31, .ref g32, .ref g33])), (g1, .inl (T 0, 282, .inl (upd (fun _ => nI 0) 2 (nI 20)))), (g17, .inl (T 0, 94, .inl (fun _ => nI 0)))]) rfl dX8_wave_2 (fun H locs V => ?_)
  refine lv_iload_n hx hb dX8_wave_5 rfl (lv_at hl 1 rfl) ?_
  refine lv_i2l (v := len.toInt64) hx hb dX8_wave_6 rfl ?_
  refine lv_lconst (v := (nI 1).toInt64) hx hb dX8_wave_7 (by decide +kernel) ?_
  refine lv_ldc2 (v := (12)) hx hb hown (hts _ w_1228) dX8_wave_8 ?_
  refine g_vl (y := (nI 12).toInt64) (by decide +kernel) ?_
  refine g_callS (wr := [(o, .inr (8, [.int (nI 0), .ref g1, .ref g2, .ref g3, .ref g4, .int (nI 0), .int (nI 0), .int (nI 0), .int (nI 0), .int (nI 0), .int (nI 0), .int (nI 0), .int (nI 0), .int (nI 0), .int (-1), .ref g15, .int (nI 0), .ref g17, .int (nI 0), .int (nI 0), .ref g20, .int (nI 0), .ref g22, .ref g23, .ref g24, .int (nI 0), .int (nI 0), .int (nI 0), .ref g28, .ref g29, .int (nI 0), .ref g31, .ref g32, .ref g33])), (g1, .inl (T 0, 282, .inl (upd (fun _ => nI 0) 2 (nI 20)))), (g17, .inl (T 0, 94, .inl (fun _ => nI 0)))]) (nA := 3) hC V hl.1 (c_within l D T len (nI 1) (nI 12)) w_1023 w_1024 w_9 w_1025 (by decide +kernel) rfl ⟨(Nat.le_of_ble_eq_true rfl), (Nat.le_of_ble_eq_true rfl)⟩ [] [0, 1, 2] rfl rfl rfl rfl (by decide) (Nat.le_of_ble_eq_true rfl) dX8_wave_11 ⟨(Nat.le_of_ble_eq_true rfl), (Nat.le_of_ble_eq_true rfl)⟩ rfl (fun r w1 H locs hQ V => ?_)
  rcases hQ with ⟨rfl, rfl, f_1, f_2⟩ | ⟨rfl, rfl, f_3⟩
  · have V : gW D T A s [(o, .inr (8, [.int (nI 0), .ref g1, .ref g2, .ref g3, .ref g4, .int (nI 0), .int (nI 0), .int (nI 0), .int (nI 0), .int (nI 0), .int (nI 0), .int (nI 0), .int (nI 0), .int (nI 0), .int (-1), .ref g15, .int (nI 0), .ref g17, .int (nI 0), .int (nI 0), .ref g20, .int (nI 0), .ref g22, .ref g23, .ref g24, .int (nI 0), .int (nI 0), .int (nI 0), .ref g28, .ref g29, .int (nI 0), .ref g31, .ref g32, .ref g33])), (g1, .inl (T 0, 282, .inl (upd (fun _ => nI 0) 2 (nI 20)))), (g17, .inl (T 0, 94, .inl (fun _ => nI 0)))] H locs := V
    show W p l e _ s m args below meth c H locs _ _ _ (F0 m 14 ls [.int (nI 1)])
    refine lv_if_eq (tgt := 39) hx hb dX8_wave_14 (by decide) (fun c => absurd (show (nI 1) = 0 from c) (by decide +kernel)) (fun _ => ?_)
    refine lv_iload_n hx hb dX8_wave_17 rfl (lv_at hl 2 rfl) ?_
    refine lv_i2l (v := step.toInt64) hx hb dX8_wave_18 rfl ?_
    refine lv_lconst (v := (nI 0).toInt64) hx hb dX8_wave_19 (by decide +kernel) ?_
    refine lv_iload_n hx hb dX8_wave_20 rfl (lv_at hl 1 rfl) ?_
    refine lv_iconst (v := (nI 1)) hx hb dX8_wave_21 (by decide +kernel) ?_
    refine lv_isub hx hb dX8_wave_22 ?_
    refine lv_i2l (v := (len - (nI 1)).toInt64) hx hb dX8_wave_23 rfl ?_
    refine g_callS (wr := [(o, .inr (8, [.int (nI 0), .ref g1, .ref g2, .ref g3, .ref g4, .int (nI 0), .int (nI 0), .int (nI 0), .int (nI 0), .int (nI 0), .int (nI 0), .int (nI 0), .int (nI 0), .int (nI 0), .int (-1), .ref g15, .int (nI 0), .ref g17, .int (nI 0), .int (nI 0), .ref g20, .int (nI 0), .ref g22, .ref g23, .ref g24, .int (nI 0), .int (nI 0), .int (nI 0), .ref g28, .ref g29, .int (nI 0), .ref g31, .ref g32, .ref g33])), (g1, .inl (T 0, 282, .inl (upd (fun _ => nI 0) 2 (nI 20)))), (g17, .inl (T 0, 94, .inl (fun _ => nI 0)))]) (nA := 3) hC V hl.1 (c_within l D T step (nI 0) (len - (nI 1))) w_1023 w_1024 w_9 w_1025 (by decide +kernel) rfl ⟨(Nat.le_of_ble_eq_true rfl), (Nat.le_of_ble_eq_true rfl)⟩ [] [0, 1, 2] rfl rfl rfl rfl (by decide) (Nat.le_of_ble_eq_true rfl) dX8_wave_24 ⟨(Nat.le_of_ble_eq_true rfl), (Nat.le_of_ble_eq_true rfl)⟩ rfl (fun r w1 H locs hQ V => ?_)
    rcases hQ with ⟨rfl, rfl, f_4, f_5⟩ | ⟨rfl, rfl, f_6⟩
    · have V : gW D T A s [(o, .inr (8, [.int (nI 0), .ref g1, .ref g2, .ref g3, .ref g4, .int (nI 0), .int (nI 0), .int (nI 0), .int (nI 0), .int (nI 0), .int (nI 0), .int (nI 0), .int (nI 0), .int (nI 0), .int (-1), .ref g15, .int (nI 0), .ref g17, .int (nI 0), .int (nI 0), .ref g20, .int (nI 0), .ref g22, .ref g23, .ref g24, .int (nI 0), .int (nI 0), .int (nI 0), .ref g28, .ref g29, .int (nI 0), .ref g31, .ref g32, .ref g33])), (g1, .inl (T 0, 282, .inl (upd (fun _ => nI 0) 2 (nI 20)))), (g17, .inl (T 0, 94, .inl (fun _ => nI 0)))] H locs := V
      show W p l e _ s m args below meth c H locs _ _ _ (F0 m 27 ls [.int (nI 1)])
      obtain ⟨le, hle1, hle2, ele⟩ := g_rng (by decide) (by decide) f_1 f_2
      rw [ele] at hl
      refine lv_if_eq (tgt := 39) hx hb dX8_wave_27 (by decide) (fun c => absurd (show (nI 1) = 0 from c) (by decide +kernel)) (fun _ => ?_)
      refine lv_aload_n hx hb dX8_wave_30 rfl (lv_at hl 0 rfl) ?_
      refine lv_iload_n hx hb dX8_wave_31 rfl (lv_at hl 1 rfl) ?_
      refine lv_iload_n hx hb dX8_wave_32 rfl (lv_at hl 2 rfl) ?_
      refine g_callV (wr := []) (nA := 2) hC V hl.1 (m_waves l D T o le step (nI 0) g1 g2 g3 g4 (nI 0) (nI 0) (nI 0) (nI 0) (nI 0) (nI 0) (nI 0) (nI 0) (nI 0) (-1) g15 (nI 0) g17 (nI 0) (nI 0) g20 (nI 0) g22 g23 g24 (nI 0) (nI 0) (nI 0) g28 g29 (nI 0) g31 g32 g33 (upd (fun _ => nI 0) 2 (nI 20)) (fun _ => nI 0) (by first | rfl | assumption | omega | decide) (by first | rfl | assumption | omega | decide)) w_1245 w_1247 w_s66 w_9 w_1248 (by decide +kernel) rfl ⟨(Nat.le_of_ble_eq_true rfl), (Nat.le_of_ble_eq_true rfl)⟩ 0 (ci := 8) rfl rfl [0, 1, 2] [] rfl rfl rfl rfl (by decide) (Nat.le_of_ble_eq_true rfl) dX8_wave_33 ⟨(Nat.le_of_ble_eq_true rfl), (Nat.le_of_ble_eq_true rfl)⟩ rfl (fun r w1 H locs hQ V => ?_)
      obtain ⟨ga_7, gk_8, rfl, rfl, f_9⟩ := hQ
      have V : gW D T A s [(o, .inr (8, [.int (nI 0), .ref g1, .ref g2, .ref g3, .ref g4, .int (nI 0), .int (nI 0), .int (nI 0), .int (nI 0), .int (nI 0), .int (nI 0), .int (nI 0), .int (nI 0), .int (nI 0), .int (-1), .ref g15, .int (nI 0), .ref g17, .int (nI 0), .int (nI 0), .ref g20, .int (-1), .ref g22, .ref g23, .ref g24, .int (nI 0), .int (nI 0), .int (nI 0), .ref g28, .ref g29, .int (nI 0), .ref g31, .ref g32, .ref g33])), (g1, .inl (T 0, 282, .inl ga_7)), (g17, .inl (T 0, 94, .inl gk_8))] H locs := V
      show W p l e _ s m args below meth c H locs _ _ _ (F0 m 36 ls [.int (-1)])
      refine lv_goto (tgt := 41) hx hb dX8_wave_36 (by decide) ?_
      have V := V.sub (ws' := []) [] rfl rfl
      exact g_iret (Qr := (q_pm_wave T o len step g1 g2 g3 g4 g15 g17 g20 g22 g23 g24 g28 g29 g31 g32 g33)) hC V ⟨(Nat.le_of_ble_eq_true rfl), (Nat.le_of_ble_eq_true rfl)⟩ ⟨(-1), rfl, rfl, (by first | exact pf_wave_1 ‹_› | exact pf_wave_2 ‹_› | exact pf_wave_3 ‹_› ‹_› ‹_› ‹_›)⟩ dX8_wave_41
    · have V : gW D T A s [(o, .inr (8, [.int (nI 0), .ref g1, .ref g2, .ref g3, .ref g4, .int (nI 0), .int (nI 0), .int (nI 0), .int (nI 0), .int (nI 0), .int (nI 0), .int (nI 0), .int (nI 0), .int (nI 0), .int (-1), .ref g15, .int (nI 0), .ref g17, .int (nI 0), .int (nI 0), .ref g20, .int (nI 0), .ref g22, .ref g23, .ref g24, .int (nI 0), .int (nI 0), .int (nI 0), .ref g28, .ref g29, .int (nI 0), .ref g31, .ref g32, .ref g33])), (g1, .inl (T 0, 282, .inl (upd (fun _ => nI 0) 2 (nI 20)))), (g17, .inl (T 0, 94, .inl (fun _ => nI 0)))] H locs := V
      show W p l e _ s m args below meth c H locs _ _ _ (F0 m 27 ls [.int (nI 0)])
      refine lv_if_eq (tgt := 39) hx hb dX8_wave_27 (by decide) (fun _ => ?_) (fun c => absurd (show (nI 0) = 0 by decide +kernel) c)
      refine lv_bipush (v := (-3)) hx hb dX8_wave_39 (by decide +kernel) ?_
      have V := V.sub (ws' := []) [] rfl rfl
      exact g_iret (Qr := (q_pm_wave T o len step g1 g2 g3 g4 g15 g17 g20 g22 g23 g24 g28 g29 g31 g32 g33)) hC V ⟨(Nat.le_of_ble_eq_true rfl), (Nat.le_of_ble_eq_true rfl)⟩ ⟨(-3), rfl, rfl, (by first | exact pf_wave_1 ‹_› | exact pf_wave_2 ‹_› | exact pf_wave_3 ‹_› ‹_› ‹_› ‹_›)⟩ dX8_wave_41
  · have V : gW D T A s [(o, .inr (8, [.int (nI 0), .ref g1, .ref g2, .ref g3, .ref g4, .int (nI 0), .int (nI 0), .int (nI 0), .int (nI 0), .int (nI 0), .int (nI 0), .int (nI 0), .int (nI 0), .int (nI 0), .int (-1), .ref g15, .int (nI 0), .ref g17, .int (nI 0), .int (nI 0), .ref g20, .int (nI 0), .ref g22, .ref g23, .ref g24, .int (nI 0), .int (nI 0), .int (nI 0), .ref g28, .ref g29, .int (nI 0), .ref g31, .ref g32, .ref g33])), (g1, .inl (T 0, 282, .inl (upd (fun _ => nI 0) 2 (nI 20)))), (g17, .inl (T 0, 94, .inl (fun _ => nI 0)))] H locs := V
    show W p l e _ s m args below meth c H locs _ _ _ (F0 m 14 ls [.int (nI 0)])
    refine lv_if_eq (tgt := 39) hx hb dX8_wave_14 (by decide) (fun _ => ?_) (fun c => absurd (show (nI 0) = 0 by decide +kernel) c)
    refine lv_bipush (v := (-3)) hx hb dX8_wave_39 (by decide +kernel) ?_
    have V := V.sub (ws' := []) [] rfl rfl
    exact g_iret (Qr := (q_pm_wave T o len step g1 g2 g3 g4 g15 g17 g20 g22 g23 g24 g28 g29 g31 g32 g33)) hC V ⟨(Nat.le_of_ble_eq_true rfl), (Nat.le_of_ble_eq_true rfl)⟩ ⟨(-3), rfl, rfl, (by first | exact pf_wave_1 ‹_› | exact pf_wave_2 ‹_› | exact pf_wave_3 ‹_› ‹_› ‹_› ‹_›)⟩ dX8_wave_41

def q_pm_bestWave (T : Nat → ClassId) (o : Nat) (len : Int32) (g1 : Nat) (g2 : Nat) (g3 : Nat) (g4 : Nat) (g15 : Nat) (g17 : Nat) (g20 : Nat) (g22 : Nat) (g23 : Nat) (g24 : Nat) (g28 : Nat) (g29 : Nat) (g31 : Nat) (g32 : Nat) (g33 : Nat) : Option Value → va_W → Prop := fun rr ww => (∃ (z : Int32), rr = some (.int z) ∧ ww = [] ∧ z = pf_bestWave len)
set_option maxHeartbeats 4000000 in
set_option maxRecDepth 100000 in
theorem pm_bestWave (l : Launch) (D : va_G) (T : Nat → ClassId) (o : Nat) (len : Int32) (g1 : Nat) (g2 : Nat) (g3 : Nat) (g4 : Nat) (g15 : Nat) (g17 : Nat) (g20 : Nat) (g22 : Nat) (g23 : Nat) (g24 : Nat) (g28 : Nat) (g29 : Nat) (g31 : Nat) (g32 : Nat) (g33 : Nat) : Ct l yX8_bestWave cX8_bestWave 6 (some .int) 4 0 0 D T [.ref o, .int len] [(o, .inr (8, [.int (nI 0), .ref g1, .ref g2, .ref g3, .ref g4, .int (nI 0), .int (nI 0), .int (nI 0), .int (nI 0), .int (nI 0), .int (nI 0), .int (nI 0), .int (nI 0), .int (nI 0), .int (-1), .ref g15, .int (nI 0), .ref g17, .int (nI 0), .int (nI 0), .ref g20, .int (nI 0), .ref g22, .ref g23, .ref g24, .int (nI 0), .int (nI 0), .int (nI 0), .ref g28, .ref g29, .int (nI 0), .ref g31, .ref g32, .ref g33])), (g1, .inl (T 0, 282, .inl (upd (fun _ => nI 0) 2 (nI 20)))), (g17, .inl (T 0, 94, .inl (fun _ => nI 0)))] (q_pm_bestWave T o len g1 g2 g3 g4 g15 g17 g20 g22 g23 g24 g28 g29 g31 g32 g33) := by
  refine Ct.of (cc := cX8_bestWave) (maxL := 6) (ret := (some .int)) (by decide) (Nat.le_of_ble_eq_true rfl) ?_
  intro p e s m args below meth c A ls hC hnm V hl
  obtain ⟨hx, hb, hr, hml, hown, hts, hlocks⟩ := id hC
  generalize hH : s.heap = H at V ⊢
  clear hH
  have hl : lv_has ls 6 [(0, .ref o), (1, .int len)] := hl
  generalize hlo : ([] : List Loc) = locs at V ⊢
  clear hlo
  refine lv_aload_n hx hb dX8_bestWave_0 rfl (lv_at hl 0 rfl) ?_
  refine lv_iconst (v := (nI 0)) hx hb dX8_bestWave_1 (by decide +kernel) ?_
  refine g_put hC V (ci := 8) uwX8 tyX8 tyX8_ok nmX8 0 rfl rfl 0 (by decide) w_912 rfl rfl rfl rfl (Nat.le_of_ble_eq_true rfl) (ws' := [(o, .inr (8, [.int (nI 0), .ref g1, .ref g2, .ref g3, .ref g4, .int (nI 0), .int (nI 0), .int (nI 0), .int (nI 0), .int (nI 0), .int (nI 0), .int (nI 0), .int (nI 0), .int (nI 0), .int (-1), .ref g15, .int (nI 0), .ref g17, .int (nI 0), .int (nI 0), .ref g20, .int (nI 0), .ref g22, .ref g23, .ref g24, .int (nI 0), .int (nI 0), .int (nI 0), .ref g28, .ref g29, .int (nI 0), .ref g31, .ref g32, .ref g33])), (g1, .inl (T 0, 282, .inl (upd (fun _ => nI 0) 2 (nI 20)))), (g17, .inl (T 0, 94, .inl (fun _ => nI 0)))]) rfl dX8_bestWave_2 (fun H locs V => ?_)
  refine lv_iload_n hx hb dX8_bestWave_5 rfl (lv_at hl 1 rfl) ?_
  refine lv_i2l (v := len.toInt64) hx hb dX8_bestWave_6 rfl ?_
  refine lv_lconst (v := (nI 1).toInt64) hx hb dX8_bestWave_7 (by decide +kernel) ?_
  refine lv_ldc2 (v := (12)) hx hb hown (hts _ w_1228) dX8_bestWave_8 ?_
  refine g_vl (y := (nI 12).toInt64) (by decide +kernel) ?_
  refine g_callS (wr := [(o, .inr (8, [.int (nI 0), .ref g1, .ref g2, .ref g3, .ref g4, .int (nI 0), .int (nI 0), .int (nI 0), .int (nI 0), .int (nI 0), .int (nI 0), .int (nI 0), .int (nI 0), .int (nI 0), .int (-1), .ref g15, .int (nI 0), .ref g17, .int (nI 0), .int (nI 0), .ref g20, .int (nI 0), .ref g22, .ref g23, .ref g24, .int (nI 0), .int (nI 0), .int (nI 0), .ref g28, .ref g29, .int (nI 0), .ref g31, .ref g32, .ref g33])), (g1, .inl (T 0, 282, .inl (upd (fun _ => nI 0) 2 (nI 20)))), (g17, .inl (T 0, 94, .inl (fun _ => nI 0)))]) (nA := 3) hC V hl.1 (c_within l D T len (nI 1) (nI 12)) w_1023 w_1024 w_9 w_1025 (by decide +kernel) rfl ⟨(Nat.le_of_ble_eq_true rfl), (Nat.le_of_ble_eq_true rfl)⟩ [] [0, 1, 2] rfl rfl rfl rfl (by decide) (Nat.le_of_ble_eq_true rfl) dX8_bestWave_11 ⟨(Nat.le_of_ble_eq_true rfl), (Nat.le_of_ble_eq_true rfl)⟩ rfl (fun r w1 H locs hQ V => ?_)
  rcases hQ with ⟨rfl, rfl, f_1, f_2⟩ | ⟨rfl, rfl, f_3⟩
  · have V : gW D T A s [(o, .inr (8, [.int (nI 0), .ref g1, .ref g2, .ref g3, .ref g4, .int (nI 0), .int (nI 0), .int (nI 0), .int (nI 0), .int (nI 0), .int (nI 0), .int (nI 0), .int (nI 0), .int (nI 0), .int (-1), .ref g15, .int (nI 0), .ref g17, .int (nI 0), .int (nI 0), .ref g20, .int (nI 0), .ref g22, .ref g23, .ref g24, .int (nI 0), .int (nI 0), .int (nI 0), .ref g28, .ref g29, .int (nI 0), .ref g31, .ref g32, .ref g33])), (g1, .inl (T 0, 282, .inl (upd (fun _ => nI 0) 2 (nI 20)))), (g17, .inl (T 0, 94, .inl (fun _ => nI 0)))] H locs := V
    show W p l e _ s m args below meth c H locs _ _ _ (F0 m 14 ls [.int (nI 1)])
    obtain ⟨le, hle1, hle2, ele⟩ := g_rng (by decide) (by decide) f_1 f_2
    rw [ele] at hl
    refine lv_if_ne (tgt := 20) hx hb dX8_bestWave_14 (by decide) (fun _ => ?_) (fun c => absurd (show (nI 1) = 0 from c) (by decide +kernel))
    refine lv_iconst (v := (nI 0)) hx hb dX8_bestWave_20 (by decide +kernel) ?_
    refine lv_istore_n (lv' := [(2, .int (nI 0)), (0, .ref o), (1, .int (nI le))]) hx hb dX8_bestWave_21 rfl hl (by decide) rfl (fun ls hl => ?_)
    refine lv_iconst (v := (nI 0)) hx hb dX8_bestWave_22 (by decide +kernel) ?_
    refine lv_istore_n (lv' := [(3, .int (nI 0)), (2, .int (nI 0)), (0, .ref o), (1, .int (nI le))]) hx hb dX8_bestWave_23 rfl hl (by decide) rfl (fun ls hl => ?_)
    refine lv_iconst (v := (nI 0)) hx hb dX8_bestWave_24 (by decide +kernel) ?_
    refine lv_istore (lv' := [(4, .int (nI 0)), (3, .int (nI 0)), (2, .int (nI 0)), (0, .ref o), (1, .int (nI le))]) hx hb dX8_bestWave_25 hl (by decide) rfl (fun ls hl => ?_)
    refine lv_iload hx hb dX8_bestWave_27 (lv_at hl 0 rfl) ?_
    refine lv_iload_n hx hb dX8_bestWave_29 rfl (lv_at hl 4 rfl) ?_
    refine lv_icmp_ge (tgt := 72) hx hb dX8_bestWave_30 (by decide) (fun c_4 => ?_) (fun c_4 => ?_)
    · skip
      have c_4 := b_le (by omega) (by omega) c_4
      exact (by omega : False).elim
    · skip
      have c_4 := b_nle (by omega) (by omega) c_4
      refine lv_aload_n hx hb dX8_bestWave_33 rfl (lv_at hl 3 rfl) ?_
      refine lv_iload_n hx hb dX8_bestWave_34 rfl (lv_at hl 4 rfl) ?_
      refine lv_iload hx hb dX8_bestWave_35 (lv_at hl 0 rfl) ?_
      refine g_callV (wr := []) (nA := 2) hC V hl.1 (m_waves l D T o le (nI 0) (nI 0) g1 g2 g3 g4 (nI 0) (nI 0) (nI 0) (nI 0) (nI 0) (nI 0) (nI 0) (nI 0) (nI 0) (-1) g15 (nI 0) g17 (nI 0) (nI 0) g20 (nI 0) g22 g23 g24 (nI 0) (nI 0) (nI 0) g28 g29 (nI 0) g31 g32 g33 (upd (fun _ => nI 0) 2 (nI 20)) (fun _ => nI 0) (by first | rfl | assumption | omega | decide) (by first | rfl | assumption | omega | decide)) w_1245 w_1247 w_s66 w_9 w_1248 (by decide +kernel) rfl ⟨(Nat.le_of_ble_eq_true rfl), (Nat.le_of_ble_eq_true rfl)⟩ 0 (ci := 8) rfl rfl [0, 1, 2] [] rfl rfl rfl rfl (by decide) (Nat.le_of_ble_eq_true rfl) dX8_bestWave_37 ⟨(Nat.le_of_ble_eq_true rfl), (Nat.le_of_ble_eq_true rfl)⟩ rfl (fun r w1 H locs hQ V => ?_)
      obtain ⟨ga_5, gk_6, rfl, rfl, f_7⟩ := hQ
      have V : gW D T A s [(o, .inr (8, [.int (nI 0), .ref g1, .ref g2, .ref g3, .ref g4, .int (nI 0), .int (nI 0), .int (nI 0), .int (nI 0), .int (nI 0), .int (nI 0), .int (nI 0), .int (nI 0), .int (nI 0), .int (-1), .ref g15, .int (nI 0), .ref g17, .int (nI 0), .int (nI 0), .ref g20, .int (-1), .ref g22, .ref g23, .ref g24, .int (nI 0), .int (nI 0), .int (nI 0), .ref g28, .ref g29, .int (nI 0), .ref g31, .ref g32, .ref g33])), (g1, .inl (T 0, 282, .inl ga_5)), (g17, .inl (T 0, 94, .inl gk_6))] H locs := V
      show W p l e _ s m args below meth c H locs _ _ _ (F0 m 40 ls [.int (-1)])
      refine lv_istore (lv' := [(5, .int (-1)), (4, .int (nI 0)), (3, .int (nI 0)), (2, .int (nI 0)), (0, .ref o), (1, .int (nI le))]) hx hb dX8_bestWave_40 hl (by decide) rfl (fun ls hl => ?_)
      refine lv_iload hx hb dX8_bestWave_42 (lv_at hl 0 rfl) ?_
      refine lv_iconst (v := (-1)) hx hb dX8_bestWave_44 (by decide +kernel) ?_
      refine lv_icmp_ne (tgt := 51) hx hb dX8_bestWave_45 (by decide) (fun c => absurd (show (-1 : Int32) = (-1 : Int32) by first | rfl | decide +kernel) c) (fun _ => ?_)
      refine lv_iload hx hb dX8_bestWave_48 (lv_at hl 1 rfl) ?_
      have V := V.sub (ws' := []) [] rfl rfl
      exact g_iret (Qr := (q_pm_bestWave T o len g1 g2 g3 g4 g15 g17 g20 g22 g23 g24 g28 g29 g31 g32 g33)) hC V ⟨(Nat.le_of_ble_eq_true rfl), (Nat.le_of_ble_eq_true rfl)⟩ ⟨(nI 0), rfl, rfl, (by first | exact pf_bestWave_1 ‹_› | exact pf_bestWave_2 ‹_› ‹_›)⟩ dX8_bestWave_50
  · have V : gW D T A s [(o, .inr (8, [.int (nI 0), .ref g1, .ref g2, .ref g3, .ref g4, .int (nI 0), .int (nI 0), .int (nI 0), .int (nI 0), .int (nI 0), .int (nI 0), .int (nI 0), .int (nI 0), .int (nI 0), .int (-1), .ref g15, .int (nI 0), .ref g17, .int (nI 0), .int (nI 0), .ref g20, .int (nI 0), .ref g22, .ref g23, .ref g24, .int (nI 0), .int (nI 0), .int (nI 0), .ref g28, .ref g29, .int (nI 0), .ref g31, .ref g32, .ref g33])), (g1, .inl (T 0, 282, .inl (upd (fun _ => nI 0) 2 (nI 20)))), (g17, .inl (T 0, 94, .inl (fun _ => nI 0)))] H locs := V
    show W p l e _ s m args below meth c H locs _ _ _ (F0 m 14 ls [.int (nI 0)])
    refine lv_if_ne (tgt := 20) hx hb dX8_bestWave_14 (by decide) (fun c => absurd (show (nI 0) = 0 by decide +kernel) c) (fun _ => ?_)
    refine lv_bipush (v := (-3)) hx hb dX8_bestWave_17 (by decide +kernel) ?_
    have V := V.sub (ws' := []) [] rfl rfl
    exact g_iret (Qr := (q_pm_bestWave T o len g1 g2 g3 g4 g15 g17 g20 g22 g23 g24 g28 g29 g31 g32 g33)) hC V ⟨(Nat.le_of_ble_eq_true rfl), (Nat.le_of_ble_eq_true rfl)⟩ ⟨(-3), rfl, rfl, (by first | exact pf_bestWave_1 ‹_› | exact pf_bestWave_2 ‹_› ‹_›)⟩ dX8_bestWave_19

def q_pm_bestRound (T : Nat → ClassId) (o : Nat) (len : Int32) (what : Int32) (g1 : Nat) (g2 : Nat) (g3 : Nat) (g4 : Nat) (g15 : Nat) (g17 : Nat) (g20 : Nat) (g22 : Nat) (g23 : Nat) (g24 : Nat) (g28 : Nat) (g29 : Nat) (g31 : Nat) (g32 : Nat) (g33 : Nat) : Option Value → va_W → Prop := fun rr ww => (∃ (z : Int32), rr = some (.int z) ∧ ww = [] ∧ z = pf_bestRound len what)
set_option maxHeartbeats 4000000 in
set_option maxRecDepth 100000 in
theorem pm_bestRound (l : Launch) (D : va_G) (T : Nat → ClassId) (o : Nat) (len : Int32) (what : Int32) (g1 : Nat) (g2 : Nat) (g3 : Nat) (g4 : Nat) (g15 : Nat) (g17 : Nat) (g20 : Nat) (g22 : Nat) (g23 : Nat) (g24 : Nat) (g28 : Nat) (g29 : Nat) (g31 : Nat) (g32 : Nat) (g33 : Nat) : Ct l yX8_bestRound cX8_bestRound 7 (some .int) 3 0 0 D T [.ref o, .int len, .int what] [(o, .inr (8, [.int (nI 0), .ref g1, .ref g2, .ref g3, .ref g4, .int (nI 0), .int (nI 0), .int (nI 0), .int (nI 0), .int (nI 0), .int (nI 0), .int (nI 0), .int (nI 0), .int (nI 0), .int (-1), .ref g15, .int (nI 0), .ref g17, .int (nI 0), .int (nI 0), .ref g20, .int (nI 0), .ref g22, .ref g23, .ref g24, .int (nI 0), .int (nI 0), .int (nI 0), .ref g28, .ref g29, .int (nI 0), .ref g31, .ref g32, .ref g33])), (g1, .inl (T 0, 282, .inl (upd (fun _ => nI 0) 2 (nI 20)))), (g17, .inl (T 0, 94, .inl (fun _ => nI 0)))] (q_pm_bestRound T o len what g1 g2 g3 g4 g15 g17 g20 g22 g23 g24 g28 g29 g31 g32 g33) := by
  refine Ct.of (cc := cX8_bestRound) (maxL := 7) (ret := (some .int)) (by decide) (Nat.le_of_ble_eq_true rfl) ?_
  intro p e s m args below meth c A ls hC hnm V hl
  obtain ⟨hx, hb, hr, hml, hown, hts, hlocks⟩ := id hC
  generalize hH : s.heap = H at V ⊢
  clear hH
  have hl : lv_has ls 7 [(0, .ref o), (1, .int len), (2, .int what)] := hl
  generalize hlo : ([] : List Loc) = locs at V ⊢
  clear hlo
  refine lv_aload_n hx hb dX8_bestRound_0 rfl (lv_at hl 0 rfl) ?_
  refine lv_iconst (v := (nI 0)) hx hb dX8_bestRound_1 (by decide +kernel) ?_
  refine g_put hC V (ci := 8) uwX8 tyX8 tyX8_ok nmX8 0 rfl rfl 0 (by decide) w_912 rfl rfl rfl rfl (Nat.le_of_ble_eq_true rfl) (ws' := [(o, .inr (8, [.int (nI 0), .ref g1, .ref g2, .ref g3, .ref g4, .int (nI 0), .int (nI 0), .int (nI 0), .int (nI 0), .int (nI 0), .int (nI 0), .int (nI 0), .int (nI 0), .int (nI 0), .int (-1), .ref g15, .int (nI 0), .ref g17, .int (nI 0), .int (nI 0), .ref g20, .int (nI 0), .ref g22, .ref g23, .ref g24, .int (nI 0), .int (nI 0), .int (nI 0), .ref g28, .ref g29, .int (nI 0), .ref g31, .ref g32, .ref g33])), (g1, .inl (T 0, 282, .inl (upd (fun _ => nI 0) 2 (nI 20)))), (g17, .inl (T 0, 94, .inl (fun _ => nI 0)))]) rfl dX8_bestRound_2 (fun H locs V => ?_)
  refine lv_iload_n hx hb dX8_bestRound_5 rfl (lv_at hl 2 rfl) ?_
  refine lv_if_eq (tgt := 33) hx hb dX8_bestRound_6 (by decide) (fun c_1 => ?_) (fun c_1 => ?_)
  · skip
    refine lv_iload_n hx hb dX8_bestRound_33 rfl (lv_at hl 1 rfl) ?_
    refine lv_i2l (v := len.toInt64) hx hb dX8_bestRound_34 rfl ?_
    refine lv_lconst (v := (nI 1).toInt64) hx hb dX8_bestRound_35 (by decide +kernel) ?_
    refine lv_ldc2 (v := (10)) hx hb hown (hts _ w_1257) dX8_bestRound_36 ?_
    refine g_vl (y := (nI 10).toInt64) (by decide +kernel) ?_
    refine g_callS (wr := [(o, .inr (8, [.int (nI 0), .ref g1, .ref g2, .ref g3, .ref g4, .int (nI 0), .int (nI 0), .int (nI 0), .int (nI 0), .int (nI 0), .int (nI 0), .int (nI 0), .int (nI 0), .int (nI 0), .int (-1), .ref g15, .int (nI 0), .ref g17, .int (nI 0), .int (nI 0), .ref g20, .int (nI 0), .ref g22, .ref g23, .ref g24, .int (nI 0), .int (nI 0), .int (nI 0), .ref g28, .ref g29, .int (nI 0), .ref g31, .ref g32, .ref g33])), (g1, .inl (T 0, 282, .inl (upd (fun _ => nI 0) 2 (nI 20)))), (g17, .inl (T 0, 94, .inl (fun _ => nI 0)))]) (nA := 3) hC V hl.1 (c_within l D T len (nI 1) (nI 10)) w_1023 w_1024 w_9 w_1025 (by decide +kernel) rfl ⟨(Nat.le_of_ble_eq_true rfl), (Nat.le_of_ble_eq_true rfl)⟩ [] [0, 1, 2] rfl rfl rfl rfl (by decide) (Nat.le_of_ble_eq_true rfl) dX8_bestRound_39 ⟨(Nat.le_of_ble_eq_true rfl), (Nat.le_of_ble_eq_true rfl)⟩ rfl (fun r w1 H locs hQ V => ?_)
    rcases hQ with ⟨rfl, rfl, f_2, f_3⟩ | ⟨rfl, rfl, f_4⟩
    · have V : gW D T A s [(o, .inr (8, [.int (nI 0), .ref g1, .ref g2, .ref g3, .ref g4, .int (nI 0), .int (nI 0), .int (nI 0), .int (nI 0), .int (nI 0), .int (nI 0), .int (nI 0), .int (nI 0), .int (nI 0), .int (-1), .ref g15, .int (nI 0), .ref g17, .int (nI 0), .int (nI 0), .ref g20, .int (nI 0), .ref g22, .ref g23, .ref g24, .int (nI 0), .int (nI 0), .int (nI 0), .ref g28, .ref g29, .int (nI 0), .ref g31, .ref g32, .ref g33])), (g1, .inl (T 0, 282, .inl (upd (fun _ => nI 0) 2 (nI 20)))), (g17, .inl (T 0, 94, .inl (fun _ => nI 0)))] H locs := V
      show W p l e _ s m args below meth c H locs _ _ _ (F0 m 42 ls [.int (nI 1)])
      obtain ⟨le, hle1, hle2, ele⟩ := g_rng (by decide) (by decide) f_2 f_3
      rw [ele] at hl
      refine lv_if_ne (tgt := 48) hx hb dX8_bestRound_42 (by decide) (fun _ => ?_) (fun c => absurd (show (nI 1) = 0 from c) (by decide +kernel))
      refine lv_aload_n hx hb dX8_bestRound_48 rfl (lv_at hl 0 rfl) ?_
      refine g_get hC V (ci := 8) uwX8 0 rfl rfl 1 (by decide) w_913 rfl rfl dX8_bestRound_49 ?_
      refine lv_iconst (v := (nI 0)) hx hb dX8_bestRound_52 (by decide +kernel) ?_
      refine g_iald hC V 1 rfl (vp_in_nI (by decide) (by decide)) (v := (nI 0)) (by rw [nI_clamp (by decide)]; first | rfl | exact hgA) dX8_bestRound_53 ?_
      refine lv_iload_n hx hb dX8_bestRound_54 rfl (lv_at hl 1 rfl) ?_
      refine lv_imul hx hb dX8_bestRound_55 ?_
      refine g_vi (y := (nI 0)) (by rw [nI_0]; exact Int32.zero_mul) ?_
      refine lv_bipush (v := (nI 10)) hx hb dX8_bestRound_56 (by decide +kernel) ?_
      refine lv_icmp_le (tgt := 64) hx hb dX8_bestRound_58 (by decide) (fun _ => ?_) (fun c => absurd (show (nI 0) ≤ (nI 10) by first | rfl | decide +kernel) c)
      refine lv_iconst (v := (-1)) hx hb dX8_bestRound_64 (by decide +kernel) ?_
      refine lv_istore_n (lv' := [(3, .int (-1)), (0, .ref o), (1, .int (nI le)), (2, .int what)]) hx hb dX8_bestRound_65 rfl hl (by decide) rfl (fun ls hl => ?_)
      refine lv_iconst (v := (nI 0)) hx hb dX8_bestRound_66 (by decide +kernel) ?_
      refine lv_istore (lv' := [(4, .int (nI 0)), (3, .int (-1)), (0, .ref o), (1, .int (nI le)), (2, .int what)]) hx hb dX8_bestRound_67 hl (by decide) rfl (fun ls hl => ?_)
      refine lv_iload hx hb dX8_bestRound_69 (lv_at hl 0 rfl) ?_
      refine lv_iconst (v := (nI 1)) hx hb dX8_bestRound_71 (by decide +kernel) ?_
      refine lv_aload_n hx hb dX8_bestRound_72 rfl (lv_at hl 2 rfl) ?_
      refine g_get hC V (ci := 8) uwX8 0 rfl rfl 1 (by decide) w_913 rfl rfl dX8_bestRound_73 ?_
      refine lv_iconst (v := (nI 0)) hx hb dX8_bestRound_76 (by decide +kernel) ?_
      refine g_iald hC V 1 rfl (vp_in_nI (by decide) (by decide)) (v := (nI 0)) (by rw [nI_clamp (by decide)]; first | rfl | exact hgA) dX8_bestRound_77 ?_
      refine lv_iload_n hx hb dX8_bestRound_78 rfl (lv_at hl 3 rfl) ?_
      refine lv_imul hx hb dX8_bestRound_79 ?_
      refine g_vi (y := (nI 0)) (by rw [nI_0]; exact Int32.zero_mul) ?_
      refine lv_ishl hx hb dX8_bestRound_80 ?_
      refine g_vi (y := (nI 1)) (by decide +kernel) ?_
      refine lv_icmp_ge (tgt := 211) hx hb dX8_bestRound_81 (by decide) (fun c => absurd (show (nI 1) ≤ (nI 0) from c) (by decide +kernel)) (fun _ => ?_)
      refine lv_iload hx hb dX8_bestRound_84 (lv_at hl 0 rfl) ?_
      refine lv_i2l (v := (nI 0).toInt64) hx hb dX8_bestRound_86 rfl ?_
      refine g_callS (wr := [(o, .inr (8, [.int (nI 0), .ref g1, .ref g2, .ref g3, .ref g4, .int (nI 0), .int (nI 0), .int (nI 0), .int (nI 0), .int (nI 0), .int (nI 0), .int (nI 0), .int (nI 0), .int (nI 0), .int (-1), .ref g15, .int (nI 0), .ref g17, .int (nI 0), .int (nI 0), .ref g20, .int (nI 0), .ref g22, .ref g23, .ref g24, .int (nI 0), .int (nI 0), .int (nI 0), .ref g28, .ref g29, .int (nI 0), .ref g31, .ref g32, .ref g33])), (g1, .inl (T 0, 282, .inl (upd (fun _ => nI 0) 2 (nI 20)))), (g17, .inl (T 0, 94, .inl (fun _ => nI 0)))]) (nA := 1) hC V hl.1 (m_bits0 l D T) w_1258 w_1259 w_9 w_1260 (by decide +kernel) rfl ⟨(Nat.le_of_ble_eq_true rfl), (Nat.le_of_ble_eq_true rfl)⟩ [] [0, 1, 2] rfl rfl rfl rfl (by decide) (Nat.le_of_ble_eq_true rfl) dX8_bestRound_87 ⟨(Nat.le_of_ble_eq_true rfl), (Nat.le_of_ble_eq_true rfl)⟩ rfl (fun r w1 H locs hQ V => ?_)
      obtain ⟨rfl, rfl⟩ := hQ
      have V : gW D T A s [(o, .inr (8, [.int (nI 0), .ref g1, .ref g2, .ref g3, .ref g4, .int (nI 0), .int (nI 0), .int (nI 0), .int (nI 0), .int (nI 0), .int (nI 0), .int (nI 0), .int (nI 0), .int (nI 0), .int (-1), .ref g15, .int (nI 0), .ref g17, .int (nI 0), .int (nI 0), .ref g20, .int (nI 0), .ref g22, .ref g23, .ref g24, .int (nI 0), .int (nI 0), .int (nI 0), .ref g28, .ref g29, .int (nI 0), .ref g31, .ref g32, .ref g33])), (g1, .inl (T 0, 282, .inl (upd (fun _ => nI 0) 2 (nI 20)))), (g17, .inl (T 0, 94, .inl (fun _ => nI 0)))] H locs := V
      show W p l e _ s m args below meth c H locs _ _ _ (F0 m 90 ls [.int (nI 0)])
      refine lv_istore (lv' := [(5, .int (nI 0)), (4, .int (nI 0)), (3, .int (-1)), (0, .ref o), (1, .int (nI le)), (2, .int what)]) hx hb dX8_bestRound_90 hl (by decide) rfl (fun ls hl => ?_)
      refine lv_iload_n hx hb dX8_bestRound_92 rfl (lv_at hl 2 rfl) ?_
      refine lv_iconst (v := (-1)) hx hb dX8_bestRound_93 (by decide +kernel) ?_
      refine lv_icmp_eq (tgt := 106) hx hb dX8_bestRound_94 (by decide) (fun _ => ?_) (fun c => absurd (show (-1 : Int32) = (-1 : Int32) by first | rfl | decide +kernel) c)
      refine lv_iconst (v := (nI 0)) hx hb dX8_bestRound_106 (by decide +kernel) ?_
      refine lv_istore (lv' := [(6, .int (nI 0)), (5, .int (nI 0)), (4, .int (nI 0)), (3, .int (-1)), (0, .ref o), (1, .int (nI le)), (2, .int what)]) hx hb dX8_bestRound_107 hl (by decide) rfl (fun ls hl => ?_)
      refine lv_iload hx hb dX8_bestRound_109 (lv_at hl 0 rfl) ?_
      refine lv_aload_n hx hb dX8_bestRound_111 rfl (lv_at hl 4 rfl) ?_
      refine g_get hC V (ci := 8) uwX8 0 rfl rfl 1 (by decide) w_913 rfl rfl dX8_bestRound_112 ?_
      refine lv_iconst (v := (nI 0)) hx hb dX8_bestRound_115 (by decide +kernel) ?_
      refine g_iald hC V 1 rfl (vp_in_nI (by decide) (by decide)) (v := (nI 0)) (by rw [nI_clamp (by decide)]; first | rfl | exact hgA) dX8_bestRound_116 ?_
      refine lv_icmp_ge (tgt := 156) hx hb dX8_bestRound_117 (by decide) (fun _ => ?_) (fun c => absurd (show (nI 0) ≤ (nI 0) by first | rfl | decide +kernel) c)
      refine lv_aload_n hx hb dX8_bestRound_156 rfl (lv_at hl 4 rfl) ?_
      refine lv_iload_n hx hb dX8_bestRound_157 rfl (lv_at hl 5 rfl) ?_
      refine g_callV (wr := []) (nA := 1) hC V hl.1 (m_holdsBy l D T o le (nI 0) g1 g2 g3 g4 (nI 0) (nI 0) (nI 0) (nI 0) (nI 0) (nI 0) (nI 0) (nI 0) (nI 0) (-1) g15 (nI 0) g17 (nI 0) (nI 0) g20 (nI 0) g22 g23 g24 (nI 0) (nI 0) (nI 0) g28 g29 (nI 0) g31 g32 g33 (upd (fun _ => nI 0) 2 (nI 20)) (fun _ => nI 0) (by first | rfl | assumption | omega | decide) (by first | rfl | assumption | omega | decide)) w_1229 w_1231 w_s64 w_9 w_1232 (by decide +kernel) rfl ⟨(Nat.le_of_ble_eq_true rfl), (Nat.le_of_ble_eq_true rfl)⟩ 0 (ci := 8) rfl rfl [0, 1, 2] [] rfl rfl rfl rfl (by decide) (Nat.le_of_ble_eq_true rfl) dX8_bestRound_158 ⟨(Nat.le_of_ble_eq_true rfl), (Nat.le_of_ble_eq_true rfl)⟩ rfl (fun r w1 H locs hQ V => ?_)
      obtain ⟨gA, gK, rfl, rfl, f_5⟩ := hQ
      have V : gW D T A s [(o, .inr (8, [.int (nI 0), .ref g1, .ref g2, .ref g3, .ref g4, .int (nI 0), .int (nI 0), .int (nI 0), .int (nI 0), .int (nI 0), .int (nI 0), .int (nI 0), .int (nI 0), .int (nI 0), .int (-1), .ref g15, .int (nI 0), .ref g17, .int (nI 0), .int (nI 0), .ref g20, .int (-1), .ref g22, .ref g23, .ref g24, .int (nI 0), .int (nI 0), .int (nI 0), .ref g28, .ref g29, .int (nI 0), .ref g31, .ref g32, .ref g33])), (g1, .inl (T 0, 282, .inl gA)), (g17, .inl (T 0, 94, .inl gK))] H locs := V
      show W p l e _ s m args below meth c H locs _ _ _ (F0 m 161 ls [.int (-1)])
      have hgA := f_5
      refine lv_iconst (v := (-1)) hx hb dX8_bestRound_161 (by decide +kernel) ?_
      refine lv_icmp_eq (tgt := 168) hx hb dX8_bestRound_162 (by decide) (fun _ => ?_) (fun c => absurd (show (-1 : Int32) = (-1 : Int32) by first | rfl | decide +kernel) c)
      refine lv_iload hx hb dX8_bestRound_168 (lv_at hl 1 rfl) ?_
      refine lv_istore_n (lv' := [(3, .int (nI 0)), (6, .int (nI 0)), (5, .int (nI 0)), (4, .int (nI 0)), (0, .ref o), (1, .int (nI le)), (2, .int what)]) hx hb dX8_bestRound_170 rfl hl (by decide) rfl (fun ls hl => ?_)
      refine lv_iconst (v := (nI 0)) hx hb dX8_bestRound_171 (by decide +kernel) ?_
      refine lv_istore (lv' := [(6, .int (nI 0)), (3, .int (nI 0)), (5, .int (nI 0)), (4, .int (nI 0)), (0, .ref o), (1, .int (nI le)), (2, .int what)]) hx hb dX8_bestRound_172 hl (by decide) rfl (fun ls hl => ?_)
      refine lv_iload hx hb dX8_bestRound_174 (lv_at hl 0 rfl) ?_
      refine lv_aload_n hx hb dX8_bestRound_176 rfl (lv_at hl 4 rfl) ?_
      refine g_get hC V (ci := 8) uwX8 0 rfl rfl 1 (by decide) w_913 rfl rfl dX8_bestRound_177 ?_
      refine lv_iconst (v := (nI 0)) hx hb dX8_bestRound_180 (by decide +kernel) ?_
      refine g_iald hC V 1 rfl (vp_in_nI (by decide) (by decide)) (v := (nI 0)) (by rw [nI_clamp (by decide)]; first | rfl | exact hgA) dX8_bestRound_181 ?_
      refine lv_icmp_ge (tgt := 205) hx hb dX8_bestRound_182 (by decide) (fun _ => ?_) (fun c => absurd (show (nI 0) ≤ (nI 0) by first | rfl | decide +kernel) c)
      refine lv_iinc (v := (nI 1)) (lv' := [(4, .int (nI 1)), (6, .int (nI 0)), (3, .int (nI 0)), (5, .int (nI 0)), (0, .ref o), (1, .int (nI le)), (2, .int what)]) hx hb dX8_bestRound_205 hl (k := 3) rfl (by decide +kernel) (by decide) rfl (fun ls hl => ?_)
      refine lv_goto (tgt := 69) hx hb dX8_bestRound_208 (by decide) ?_
      refine lv_iload hx hb dX8_bestRound_69 (lv_at hl 0 rfl) ?_
      refine lv_iconst (v := (nI 1)) hx hb dX8_bestRound_71 (by decide +kernel) ?_
      refine lv_aload_n hx hb dX8_bestRound_72 rfl (lv_at hl 4 rfl) ?_
      refine g_get hC V (ci := 8) uwX8 0 rfl rfl 1 (by decide) w_913 rfl rfl dX8_bestRound_73 ?_
      refine lv_iconst (v := (nI 0)) hx hb dX8_bestRound_76 (by decide +kernel) ?_
      refine g_iald hC V 1 rfl (vp_in_nI (by decide) (by decide)) (v := (nI 0)) (by rw [nI_clamp (by decide)]; first | rfl | exact hgA) dX8_bestRound_77 ?_
      refine lv_iload_n hx hb dX8_bestRound_78 rfl (lv_at hl 5 rfl) ?_
      refine lv_imul hx hb dX8_bestRound_79 ?_
      refine g_vi (y := (nI 0)) (by rw [nI_0]; exact Int32.zero_mul) ?_
      refine lv_ishl hx hb dX8_bestRound_80 ?_
      refine g_vi (y := (nI 1)) (by decide +kernel) ?_
      refine lv_icmp_ge (tgt := 211) hx hb dX8_bestRound_81 (by decide) (fun _ => ?_) (fun c => absurd (show (nI 1) ≤ (nI 1) by first | rfl | decide +kernel) c)
      refine lv_iload_n hx hb dX8_bestRound_211 rfl (lv_at hl 2 rfl) ?_
      refine lv_iconst (v := (-1)) hx hb dX8_bestRound_212 (by decide +kernel) ?_
      refine lv_icmp_eq (tgt := 220) hx hb dX8_bestRound_213 (by decide) (fun c => absurd (show (nI 0) = (-1 : Int32) from c) (by decide +kernel)) (fun _ => ?_)
      refine lv_iload_n hx hb dX8_bestRound_216 rfl (lv_at hl 6 rfl) ?_
      refine lv_if_ne (tgt := 224) hx hb dX8_bestRound_217 (by decide) (fun c_6 => ?_) (fun c_6 => ?_)
      · skip
        exact (c_6 ‹_› : False).elim
      · skip
        refine lv_iload_n hx hb dX8_bestRound_220 rfl (lv_at hl 2 rfl) ?_
        refine lv_goto (tgt := 234) hx hb dX8_bestRound_221 (by decide) ?_
        have V := V.sub (ws' := []) [] rfl rfl
        exact g_iret (Qr := (q_pm_bestRound T o len what g1 g2 g3 g4 g15 g17 g20 g22 g23 g24 g28 g29 g31 g32 g33)) hC V ⟨(Nat.le_of_ble_eq_true rfl), (Nat.le_of_ble_eq_true rfl)⟩ ⟨(nI 0), rfl, rfl, (by first | exact pf_bestRound_1 ‹_› | exact pf_bestRound_2 ‹_› ‹_› | exact pf_bestRound_3 ‹_› ‹_› ‹_›)⟩ dX8_bestRound_234
    · have V : gW D T A s [(o, .inr (8, [.int (nI 0), .ref g1, .ref g2, .ref g3, .ref g4, .int (nI 0), .int (nI 0), .int (nI 0), .int (nI 0), .int (nI 0), .int (nI 0), .int (nI 0), .int (nI 0), .int (nI 0), .int (-1), .ref g15, .int (nI 0), .ref g17, .int (nI 0), .int (nI 0), .ref g20, .int (nI 0), .ref g22, .ref g23, .ref g24, .int (nI 0), .int (nI 0), .int (nI 0), .ref g28, .ref g29, .int (nI 0), .ref g31, .ref g32, .ref g33])), (g1, .inl (T 0, 282, .inl (upd (fun _ => nI 0) 2 (nI 20)))), (g17, .inl (T 0, 94, .inl (fun _ => nI 0)))] H locs := V
      show W p l e _ s m args below meth c H locs _ _ _ (F0 m 42 ls [.int (nI 0)])
      refine lv_if_ne (tgt := 48) hx hb dX8_bestRound_42 (by decide) (fun c => absurd (show (nI 0) = 0 by decide +kernel) c) (fun _ => ?_)
      refine lv_bipush (v := (-3)) hx hb dX8_bestRound_45 (by decide +kernel) ?_
      have V := V.sub (ws' := []) [] rfl rfl
      exact g_iret (Qr := (q_pm_bestRound T o len what g1 g2 g3 g4 g15 g17 g20 g22 g23 g24 g28 g29 g31 g32 g33)) hC V ⟨(Nat.le_of_ble_eq_true rfl), (Nat.le_of_ble_eq_true rfl)⟩ ⟨(-3), rfl, rfl, (by first | exact pf_bestRound_1 ‹_› | exact pf_bestRound_2 ‹_› ‹_› | exact pf_bestRound_3 ‹_› ‹_› ‹_›)⟩ dX8_bestRound_47
  · skip
    refine lv_iload_n hx hb dX8_bestRound_9 rfl (lv_at hl 2 rfl) ?_
    refine lv_i2l (v := what.toInt64) hx hb dX8_bestRound_10 rfl ?_
    refine lv_ldc2 (v := (10)) hx hb hown (hts _ w_1257) dX8_bestRound_11 ?_
    refine g_vl (y := (nI 10).toInt64) (by decide +kernel) ?_
    refine lv_bipush (v := (nI 9)) hx hb dX8_bestRound_14 (by decide +kernel) ?_
    refine lv_aload_n hx hb dX8_bestRound_16 rfl (lv_at hl 0 rfl) ?_
    refine g_get hC V (ci := 8) uwX8 0 rfl rfl 1 (by decide) w_913 rfl rfl dX8_bestRound_17 ?_
    refine lv_iconst (v := (nI 0)) hx hb dX8_bestRound_20 (by decide +kernel) ?_
    refine g_iald hC V 1 rfl (vp_in_nI (by decide) (by decide)) (v := (nI 0)) (by rw [nI_clamp (by decide)]; first | rfl | exact hgA) dX8_bestRound_21 ?_
    refine lv_iadd hx hb dX8_bestRound_22 ?_
    refine g_vi (y := (nI 9)) (by decide +kernel) ?_
    refine lv_i2l (v := (nI 9).toInt64) hx hb dX8_bestRound_23 rfl ?_
    refine g_callS (wr := [(o, .inr (8, [.int (nI 0), .ref g1, .ref g2, .ref g3, .ref g4, .int (nI 0), .int (nI 0), .int (nI 0), .int (nI 0), .int (nI 0), .int (nI 0), .int (nI 0), .int (nI 0), .int (nI 0), .int (-1), .ref g15, .int (nI 0), .ref g17, .int (nI 0), .int (nI 0), .ref g20, .int (nI 0), .ref g22, .ref g23, .ref g24, .int (nI 0), .int (nI 0), .int (nI 0), .ref g28, .ref g29, .int (nI 0), .ref g31, .ref g32, .ref g33])), (g1, .inl (T 0, 282, .inl (upd (fun _ => nI 0) 2 (nI 20)))), (g17, .inl (T 0, 94, .inl (fun _ => nI 0)))]) (nA := 3) hC V hl.1 (c_within l D T what (nI 10) (nI 9)) w_1023 w_1024 w_9 w_1025 (by decide +kernel) rfl ⟨(Nat.le_of_ble_eq_true rfl), (Nat.le_of_ble_eq_true rfl)⟩ [] [0, 1, 2] rfl rfl rfl rfl (by decide) (Nat.le_of_ble_eq_true rfl) dX8_bestRound_24 ⟨(Nat.le_of_ble_eq_true rfl), (Nat.le_of_ble_eq_true rfl)⟩ rfl (fun r w1 H locs hQ V => ?_)
    rcases hQ with ⟨rfl, rfl, f_7, f_8⟩ | ⟨rfl, rfl, f_9⟩
    · have V : gW D T A s [(o, .inr (8, [.int (nI 0), .ref g1, .ref g2, .ref g3, .ref g4, .int (nI 0), .int (nI 0), .int (nI 0), .int (nI 0), .int (nI 0), .int (nI 0), .int (nI 0), .int (nI 0), .int (nI 0), .int (-1), .ref g15, .int (nI 0), .ref g17, .int (nI 0), .int (nI 0), .ref g20, .int (nI 0), .ref g22, .ref g23, .ref g24, .int (nI 0), .int (nI 0), .int (nI 0), .ref g28, .ref g29, .int (nI 0), .ref g31, .ref g32, .ref g33])), (g1, .inl (T 0, 282, .inl (upd (fun _ => nI 0) 2 (nI 20)))), (g17, .inl (T 0, 94, .inl (fun _ => nI 0)))] H locs := V
      show W p l e _ s m args below meth c H locs _ _ _ (F0 m 27 ls [.int (nI 1)])
      exact (cv_no9 f_7 f_8 : False).elim
    · have V : gW D T A s [(o, .inr (8, [.int (nI 0), .ref g1, .ref g2, .ref g3, .ref g4, .int (nI 0), .int (nI 0), .int (nI 0), .int (nI 0), .int (nI 0), .int (nI 0), .int (nI 0), .int (nI 0), .int (nI 0), .int (-1), .ref g15, .int (nI 0), .ref g17, .int (nI 0), .int (nI 0), .ref g20, .int (nI 0), .ref g22, .ref g23, .ref g24, .int (nI 0), .int (nI 0), .int (nI 0), .ref g28, .ref g29, .int (nI 0), .ref g31, .ref g32, .ref g33])), (g1, .inl (T 0, 282, .inl (upd (fun _ => nI 0) 2 (nI 20)))), (g17, .inl (T 0, 94, .inl (fun _ => nI 0)))] H locs := V
      show W p l e _ s m args below meth c H locs _ _ _ (F0 m 27 ls [.int (nI 0)])
      refine lv_if_ne (tgt := 33) hx hb dX8_bestRound_27 (by decide) (fun c => absurd (show (nI 0) = 0 by decide +kernel) c) (fun _ => ?_)
      refine lv_bipush (v := (-2)) hx hb dX8_bestRound_30 (by decide +kernel) ?_
      have V := V.sub (ws' := []) [] rfl rfl
      exact g_iret (Qr := (q_pm_bestRound T o len what g1 g2 g3 g4 g15 g17 g20 g22 g23 g24 g28 g29 g31 g32 g33)) hC V ⟨(Nat.le_of_ble_eq_true rfl), (Nat.le_of_ble_eq_true rfl)⟩ ⟨(-2), rfl, rfl, (by first | exact pf_bestRound_1 ‹_› | exact pf_bestRound_2 ‹_› ‹_› | exact pf_bestRound_3 ‹_› ‹_› ‹_›)⟩ dX8_bestRound_32

def q_pm_peace (T : Nat → ClassId) (o : Nat) (what : Int32) (g1 : Nat) (g2 : Nat) (g3 : Nat) (g4 : Nat) (g15 : Nat) (g17 : Nat) (g20 : Nat) (g22 : Nat) (g23 : Nat) (g24 : Nat) (g28 : Nat) (g29 : Nat) (g31 : Nat) (g32 : Nat) (g33 : Nat) : Option Value → va_W → Prop := fun rr ww => (∃ (z : Int32), rr = some (.int z) ∧ ww = [] ∧ z = pf_peace what)
set_option maxHeartbeats 4000000 in
set_option maxRecDepth 100000 in
theorem pm_peace (l : Launch) (D : va_G) (T : Nat → ClassId) (o : Nat) (what : Int32) (g1 : Nat) (g2 : Nat) (g3 : Nat) (g4 : Nat) (g15 : Nat) (g17 : Nat) (g20 : Nat) (g22 : Nat) (g23 : Nat) (g24 : Nat) (g28 : Nat) (g29 : Nat) (g31 : Nat) (g32 : Nat) (g33 : Nat) : Ct l yX8_peace cX8_peace 4 (some .int) 2 0 0 D T [.ref o, .int what] [(o, .inr (8, [.int (nI 0), .ref g1, .ref g2, .ref g3, .ref g4, .int (nI 0), .int (nI 0), .int (nI 0), .int (nI 0), .int (nI 0), .int (nI 0), .int (nI 0), .int (nI 0), .int (nI 0), .int (-1), .ref g15, .int (nI 0), .ref g17, .int (nI 0), .int (nI 0), .ref g20, .int (nI 0), .ref g22, .ref g23, .ref g24, .int (nI 0), .int (nI 0), .int (nI 0), .ref g28, .ref g29, .int (nI 0), .ref g31, .ref g32, .ref g33])), (g1, .inl (T 0, 282, .inl (upd (fun _ => nI 0) 2 (nI 20))))] (q_pm_peace T o what g1 g2 g3 g4 g15 g17 g20 g22 g23 g24 g28 g29 g31 g32 g33) := by
  refine Ct.of (cc := cX8_peace) (maxL := 4) (ret := (some .int)) (by decide) (Nat.le_of_ble_eq_true rfl) ?_
  intro p e s m args below meth c A ls hC hnm V hl
  obtain ⟨hx, hb, hr, hml, hown, hts, hlocks⟩ := id hC
  generalize hH : s.heap = H at V ⊢
  clear hH
  have hl : lv_has ls 4 [(0, .ref o), (1, .int what)] := hl
  generalize hlo : ([] : List Loc) = locs at V ⊢
  clear hlo
  refine lv_aload_n hx hb dX8_peace_0 rfl (lv_at hl 0 rfl) ?_
  refine lv_iconst (v := (nI 0)) hx hb dX8_peace_1 (by decide +kernel) ?_
  refine g_put hC V (ci := 8) uwX8 tyX8 tyX8_ok nmX8 0 rfl rfl 0 (by decide) w_912 rfl rfl rfl rfl (Nat.le_of_ble_eq_true rfl) (ws' := [(o, .inr (8, [.int (nI 0), .ref g1, .ref g2, .ref g3, .ref g4, .int (nI 0), .int (nI 0), .int (nI 0), .int (nI 0), .int (nI 0), .int (nI 0), .int (nI 0), .int (nI 0), .int (nI 0), .int (-1), .ref g15, .int (nI 0), .ref g17, .int (nI 0), .int (nI 0), .ref g20, .int (nI 0), .ref g22, .ref g23, .ref g24, .int (nI 0), .int (nI 0), .int (nI 0), .ref g28, .ref g29, .int (nI 0), .ref g31, .ref g32, .ref g33])), (g1, .inl (T 0, 282, .inl (upd (fun _ => nI 0) 2 (nI 20))))]) rfl dX8_peace_2 (fun H locs V => ?_)
  refine lv_iload_n hx hb dX8_peace_5 rfl (lv_at hl 1 rfl) ?_
  refine lv_i2l (v := what.toInt64) hx hb dX8_peace_6 rfl ?_
  refine lv_lconst (v := (nI 0).toInt64) hx hb dX8_peace_7 (by decide +kernel) ?_
  refine lv_lconst (v := (nI 1).toInt64) hx hb dX8_peace_8 (by decide +kernel) ?_
  refine g_callS (wr := [(o, .inr (8, [.int (nI 0), .ref g1, .ref g2, .ref g3, .ref g4, .int (nI 0), .int (nI 0), .int (nI 0), .int (nI 0), .int (nI 0), .int (nI 0), .int (nI 0), .int (nI 0), .int (nI 0), .int (-1), .ref g15, .int (nI 0), .ref g17, .int (nI 0), .int (nI 0), .ref g20, .int (nI 0), .ref g22, .ref g23, .ref g24, .int (nI 0), .int (nI 0), .int (nI 0), .ref g28, .ref g29, .int (nI 0), .ref g31, .ref g32, .ref g33])), (g1, .inl (T 0, 282, .inl (upd (fun _ => nI 0) 2 (nI 20))))]) (nA := 3) hC V hl.1 (c_within l D T what (nI 0) (nI 1)) w_1023 w_1024 w_9 w_1025 (by decide +kernel) rfl ⟨(Nat.le_of_ble_eq_true rfl), (Nat.le_of_ble_eq_true rfl)⟩ [] [0, 1] rfl rfl rfl rfl (by decide) (Nat.le_of_ble_eq_true rfl) dX8_peace_9 ⟨(Nat.le_of_ble_eq_true rfl), (Nat.le_of_ble_eq_true rfl)⟩ rfl (fun r w1 H locs hQ V => ?_)
  rcases hQ with ⟨rfl, rfl, f_1, f_2⟩ | ⟨rfl, rfl, f_3⟩
  · have V : gW D T A s [(o, .inr (8, [.int (nI 0), .ref g1, .ref g2, .ref g3, .ref g4, .int (nI 0), .int (nI 0), .int (nI 0), .int (nI 0), .int (nI 0), .int (nI 0), .int (nI 0), .int (nI 0), .int (nI 0), .int (-1), .ref g15, .int (nI 0), .ref g17, .int (nI 0), .int (nI 0), .ref g20, .int (nI 0), .ref g22, .ref g23, .ref g24, .int (nI 0), .int (nI 0), .int (nI 0), .ref g28, .ref g29, .int (nI 0), .ref g31, .ref g32, .ref g33])), (g1, .inl (T 0, 282, .inl (upd (fun _ => nI 0) 2 (nI 20))))] H locs := V
    show W p l e _ s m args below meth c H locs _ _ _ (F0 m 12 ls [.int (nI 1)])
    refine lv_if_ne (tgt := 18) hx hb dX8_peace_12 (by decide) (fun _ => ?_) (fun c => absurd (show (nI 1) = 0 from c) (by decide +kernel))
    refine lv_iconst (v := (nI 0)) hx hb dX8_peace_18 (by decide +kernel) ?_
    refine lv_istore_n (lv' := [(2, .int (nI 0)), (0, .ref o), (1, .int what)]) hx hb dX8_peace_19 rfl hl (by decide) rfl (fun ls hl => ?_)
    refine lv_iconst (v := (nI 1)) hx hb dX8_peace_20 (by decide +kernel) ?_
    refine lv_istore_n (lv' := [(3, .int (nI 1)), (2, .int (nI 0)), (0, .ref o), (1, .int what)]) hx hb dX8_peace_21 rfl hl (by decide) rfl (fun ls hl => ?_)
    refine lv_iload_n hx hb dX8_peace_22 rfl (lv_at hl 0 rfl) ?_
    refine lv_iconst (v := (nI 1)) hx hb dX8_peace_23 (by decide +kernel) ?_
    refine lv_aload_n hx hb dX8_peace_24 rfl (lv_at hl 2 rfl) ?_
    refine g_get hC V (ci := 8) uwX8 0 rfl rfl 1 (by decide) w_913 rfl rfl dX8_peace_25 ?_
    refine lv_iconst (v := (nI 0)) hx hb dX8_peace_28 (by decide +kernel) ?_
    refine g_iald hC V 1 rfl (vp_in_nI (by decide) (by decide)) (v := (nI 0)) (by rw [nI_clamp (by decide)]; rfl) dX8_peace_29 ?_
    refine lv_ishl hx hb dX8_peace_30 ?_
    refine g_vi (y := (nI 1)) (by decide +kernel) ?_
    refine lv_icmp_ge (tgt := 55) hx hb dX8_peace_31 (by decide) (fun _ => ?_) (fun c => absurd (show (nI 1) ≤ (nI 1) by first | rfl | decide +kernel) c)
    refine lv_iload_n hx hb dX8_peace_55 rfl (lv_at hl 3 rfl) ?_
    refine lv_if_ne (tgt := 67) hx hb dX8_peace_56 (by decide) (fun c_4 => ?_) (fun c_4 => ?_)
    · skip
      refine lv_iload_n hx hb dX8_peace_67 rfl (lv_at hl 1 rfl) ?_
      have V := V.sub (ws' := []) [] rfl rfl
      exact g_iret (Qr := (q_pm_peace T o what g1 g2 g3 g4 g15 g17 g20 g22 g23 g24 g28 g29 g31 g32 g33)) hC V ⟨(Nat.le_of_ble_eq_true rfl), (Nat.le_of_ble_eq_true rfl)⟩ ⟨(nI 0), rfl, rfl, (by first | exact pf_peace_1 ‹_› | exact pf_peace_2 ‹_› ‹_›)⟩ dX8_peace_68
    · skip
      refine lv_aload_n hx hb dX8_peace_59 rfl (lv_at hl 2 rfl) ?_
      refine lv_iload_n hx hb dX8_peace_60 rfl (lv_at hl 1 rfl) ?_
      refine g_callV (wr := []) (nA := 1) hC V hl.1 (m_payOfAll l D T o (nI 0) (nI 0) g1 g2 g3 g4 (nI 0) (nI 0) (nI 0) (nI 0) (nI 0) (nI 0) (nI 0) (nI 0) (nI 0) (-1) g15 (nI 0) g17 (nI 0) (nI 0) g20 (nI 0) g22 g23 g24 (nI 0) (nI 0) (nI 0) g28 g29 (nI 0) g31 g32 g33 (upd (fun _ => nI 0) 2 (nI 20)) (by first | rfl | assumption | omega | decide)) w_1265 w_1267 w_s67 w_9 w_1268 (by decide +kernel) rfl ⟨(Nat.le_of_ble_eq_true rfl), (Nat.le_of_ble_eq_true rfl)⟩ 0 (ci := 8) rfl rfl [0, 1] [] rfl rfl rfl rfl (by decide) (Nat.le_of_ble_eq_true rfl) dX8_peace_61 ⟨(Nat.le_of_ble_eq_true rfl), (Nat.le_of_ble_eq_true rfl)⟩ rfl (fun r w1 H locs hQ V => ?_)
      obtain ⟨rfl, rfl⟩ := hQ
      have V : gW D T A s [(o, .inr (8, [.int (nI 0), .ref g1, .ref g2, .ref g3, .ref g4, .int (nI 0), .int (nI 0), .int (nI 0), .int (nI 0), .int (nI 0), .int (nI 0), .int (nI 0), .int (nI 0), .int (nI 0), .int (-1), .ref g15, .int (nI 0), .ref g17, .int (nI 0), .int (nI 0), .ref g20, .int (nI 0), .ref g22, .ref g23, .ref g24, .int (nI 0), .int (nI 0), .int (nI 0), .ref g28, .ref g29, .int (nI 0), .ref g31, .ref g32, .ref g33])), (g1, .inl (T 0, 282, .inl (upd (fun _ => nI 0) 2 (nI 20))))] H locs := V
      show W p l e _ s m args below meth c H locs _ _ _ (F0 m 64 ls [.int (nI 0)])
      refine lv_goto (tgt := 68) hx hb dX8_peace_64 (by decide) ?_
      have V := V.sub (ws' := []) [] rfl rfl
      exact g_iret (Qr := (q_pm_peace T o what g1 g2 g3 g4 g15 g17 g20 g22 g23 g24 g28 g29 g31 g32 g33)) hC V ⟨(Nat.le_of_ble_eq_true rfl), (Nat.le_of_ble_eq_true rfl)⟩ ⟨(nI 0), rfl, rfl, (by first | exact pf_peace_1 ‹_› | exact pf_peace_2 ‹_› ‹_›)⟩ dX8_peace_68
  · have V : gW D T A s [(o, .inr (8, [.int (nI 0), .ref g1, .ref g2, .ref g3, .ref g4, .int (nI 0), .int (nI 0), .int (nI 0), .int (nI 0), .int (nI 0), .int (nI 0), .int (nI 0), .int (nI 0), .int (nI 0), .int (-1), .ref g15, .int (nI 0), .ref g17, .int (nI 0), .int (nI 0), .ref g20, .int (nI 0), .ref g22, .ref g23, .ref g24, .int (nI 0), .int (nI 0), .int (nI 0), .ref g28, .ref g29, .int (nI 0), .ref g31, .ref g32, .ref g33])), (g1, .inl (T 0, 282, .inl (upd (fun _ => nI 0) 2 (nI 20))))] H locs := V
    show W p l e _ s m args below meth c H locs _ _ _ (F0 m 12 ls [.int (nI 0)])
    refine lv_if_ne (tgt := 18) hx hb dX8_peace_12 (by decide) (fun c => absurd (show (nI 0) = 0 by decide +kernel) c) (fun _ => ?_)
    refine lv_bipush (v := (-2)) hx hb dX8_peace_15 (by decide +kernel) ?_
    have V := V.sub (ws' := []) [] rfl rfl
    exact g_iret (Qr := (q_pm_peace T o what g1 g2 g3 g4 g15 g17 g20 g22 g23 g24 g28 g29 g31 g32 g33)) hC V ⟨(Nat.le_of_ble_eq_true rfl), (Nat.le_of_ble_eq_true rfl)⟩ ⟨(-2), rfl, rfl, (by first | exact pf_peace_1 ‹_› | exact pf_peace_2 ‹_› ‹_›)⟩ dX8_peace_17

def q_pm_selfish (T : Nat → ClassId) (o : Nat) (k : Int32) (g1 : Nat) (g2 : Nat) (g3 : Nat) (g4 : Nat) (g15 : Nat) (g17 : Nat) (g20 : Nat) (g22 : Nat) (g23 : Nat) (g24 : Nat) (g28 : Nat) (g29 : Nat) (g31 : Nat) (g32 : Nat) (g33 : Nat) : Option Value → va_W → Prop := fun rr ww => (∃ (z : Int32), rr = some (.int z) ∧ ww = [] ∧ z = pf_selfish k)
set_option maxHeartbeats 4000000 in
set_option maxRecDepth 100000 in
theorem pm_selfish (l : Launch) (D : va_G) (T : Nat → ClassId) (o : Nat) (k : Int32) (g1 : Nat) (g2 : Nat) (g3 : Nat) (g4 : Nat) (g15 : Nat) (g17 : Nat) (g20 : Nat) (g22 : Nat) (g23 : Nat) (g24 : Nat) (g28 : Nat) (g29 : Nat) (g31 : Nat) (g32 : Nat) (g33 : Nat) : Ct l yX8_selfish cX8_selfish 6 (some .int) 1 0 0 D T [.ref o, .int k] [(o, .inr (8, [.int (nI 0), .ref g1, .ref g2, .ref g3, .ref g4, .int (nI 0), .int (nI 0), .int (nI 0), .int (nI 0), .int (nI 0), .int (nI 0), .int (nI 0), .int (nI 0), .int (nI 0), .int (-1), .ref g15, .int (nI 0), .ref g17, .int (nI 0), .int (nI 0), .ref g20, .int (nI 0), .ref g22, .ref g23, .ref g24, .int (nI 0), .int (nI 0), .int (nI 0), .ref g28, .ref g29, .int (nI 0), .ref g31, .ref g32, .ref g33])), (g1, .inl (T 0, 282, .inl (upd (fun _ => nI 0) 2 (nI 20))))] (q_pm_selfish T o k g1 g2 g3 g4 g15 g17 g20 g22 g23 g24 g28 g29 g31 g32 g33) := by
  refine Ct.of (cc := cX8_selfish) (maxL := 6) (ret := (some .int)) (by decide) (Nat.le_of_ble_eq_true rfl) ?_
  intro p e s m args below meth c A ls hC hnm V hl
  obtain ⟨hx, hb, hr, hml, hown, hts, hlocks⟩ := id hC
  generalize hH : s.heap = H at V ⊢
  clear hH
  have hl : lv_has ls 6 [(0, .ref o), (1, .int k)] := hl
  generalize hlo : ([] : List Loc) = locs at V ⊢
  clear hlo
  refine lv_aload_n hx hb dX8_selfish_0 rfl (lv_at hl 0 rfl) ?_
  refine lv_iconst (v := (nI 0)) hx hb dX8_selfish_1 (by decide +kernel) ?_
  refine g_put hC V (ci := 8) uwX8 tyX8 tyX8_ok nmX8 0 rfl rfl 0 (by decide) w_912 rfl rfl rfl rfl (Nat.le_of_ble_eq_true rfl) (ws' := [(o, .inr (8, [.int (nI 0), .ref g1, .ref g2, .ref g3, .ref g4, .int (nI 0), .int (nI 0), .int (nI 0), .int (nI 0), .int (nI 0), .int (nI 0), .int (nI 0), .int (nI 0), .int (nI 0), .int (-1), .ref g15, .int (nI 0), .ref g17, .int (nI 0), .int (nI 0), .ref g20, .int (nI 0), .ref g22, .ref g23, .ref g24, .int (nI 0), .int (nI 0), .int (nI 0), .ref g28, .ref g29, .int (nI 0), .ref g31, .ref g32, .ref g33])), (g1, .inl (T 0, 282, .inl (upd (fun _ => nI 0) 2 (nI 20))))]) rfl dX8_selfish_2 (fun H locs V => ?_)
  refine lv_iconst (v := (nI 0)) hx hb dX8_selfish_5 (by decide +kernel) ?_
  refine lv_istore_n (lv' := [(2, .int (nI 0)), (0, .ref o), (1, .int k)]) hx hb dX8_selfish_6 rfl hl (by decide) rfl (fun ls hl => ?_)
  refine lv_iconst (v := (nI 0)) hx hb dX8_selfish_7 (by decide +kernel) ?_
  refine lv_istore_n (lv' := [(3, .int (nI 0)), (2, .int (nI 0)), (0, .ref o), (1, .int k)]) hx hb dX8_selfish_8 rfl hl (by decide) rfl (fun ls hl => ?_)
  refine lv_iload_n hx hb dX8_selfish_9 rfl (lv_at hl 0 rfl) ?_
  refine lv_iconst (v := (nI 1)) hx hb dX8_selfish_10 (by decide +kernel) ?_
  refine lv_aload_n hx hb dX8_selfish_11 rfl (lv_at hl 2 rfl) ?_
  refine g_get hC V (ci := 8) uwX8 0 rfl rfl 1 (by decide) w_913 rfl rfl dX8_selfish_12 ?_
  refine lv_iconst (v := (nI 0)) hx hb dX8_selfish_15 (by decide +kernel) ?_
  refine g_iald hC V 1 rfl (vp_in_nI (by decide) (by decide)) (v := (nI 0)) (by rw [nI_clamp (by decide)]; rfl) dX8_selfish_16 ?_
  refine lv_ishl hx hb dX8_selfish_17 ?_
  refine g_vi (y := (nI 1)) (by decide +kernel) ?_
  refine lv_icmp_ge (tgt := 102) hx hb dX8_selfish_18 (by decide) (fun c => absurd (show (nI 1) ≤ (nI 0) from c) (by decide +kernel)) (fun _ => ?_)
  refine lv_iconst (v := (nI 1)) hx hb dX8_selfish_21 (by decide +kernel) ?_
  refine lv_istore (lv' := [(4, .int (nI 1)), (3, .int (nI 0)), (2, .int (nI 0)), (0, .ref o), (1, .int k)]) hx hb dX8_selfish_22 hl (by decide) rfl (fun ls hl => ?_)
  refine lv_iconst (v := (nI 0)) hx hb dX8_selfish_24 (by decide +kernel) ?_
  refine lv_istore (lv' := [(5, .int (nI 0)), (4, .int (nI 1)), (3, .int (nI 0)), (2, .int (nI 0)), (0, .ref o), (1, .int k)]) hx hb dX8_selfish_25 hl (by decide) rfl (fun ls hl => ?_)
  refine lv_iload hx hb dX8_selfish_27 (lv_at hl 0 rfl) ?_
  refine lv_aload_n hx hb dX8_selfish_29 rfl (lv_at hl 4 rfl) ?_
  refine g_get hC V (ci := 8) uwX8 0 rfl rfl 1 (by decide) w_913 rfl rfl dX8_selfish_30 ?_
  refine lv_iconst (v := (nI 0)) hx hb dX8_selfish_33 (by decide +kernel) ?_
  refine g_iald hC V 1 rfl (vp_in_nI (by decide) (by decide)) (v := (nI 0)) (by rw [nI_clamp (by decide)]; rfl) dX8_selfish_34 ?_
  refine lv_icmp_ge (tgt := 78) hx hb dX8_selfish_35 (by decide) (fun _ => ?_) (fun c => absurd (show (nI 0) ≤ (nI 0) by first | rfl | decide +kernel) c)
  refine lv_iload hx hb dX8_selfish_78 (lv_at hl 1 rfl) ?_
  refine lv_if_ne (tgt := 86) hx hb dX8_selfish_80 (by decide) (fun _ => ?_) (fun c => absurd (show (nI 1) = 0 from c) (by decide +kernel))
  refine lv_iload_n hx hb dX8_selfish_86 rfl (lv_at hl 3 rfl) ?_
  refine lv_iload_n hx hb dX8_selfish_87 rfl (lv_at hl 5 rfl) ?_
  refine lv_icmp_ne (tgt := 93) hx hb dX8_selfish_88 (by decide) (fun c_1 => ?_) (fun c_1 => ?_)
  · skip
    have hs2 : ¬ k = nI 0 := fun h => c_1 h.symm
    refine lv_iinc (v := (nI 1)) (lv' := [(2, .int (nI 1)), (5, .int (nI 0)), (4, .int (nI 1)), (3, .int (nI 0)), (0, .ref o), (1, .int k)]) hx hb dX8_selfish_93 hl (k := 3) rfl (by decide +kernel) (by decide) rfl (fun ls hl => ?_)
    refine lv_iinc (v := (nI 1)) (lv' := [(3, .int (nI 1)), (2, .int (nI 1)), (5, .int (nI 0)), (4, .int (nI 1)), (0, .ref o), (1, .int k)]) hx hb dX8_selfish_96 hl (k := 3) rfl (by decide +kernel) (by decide) rfl (fun ls hl => ?_)
    refine lv_goto (tgt := 9) hx hb dX8_selfish_99 (by decide) ?_
    refine lv_iload_n hx hb dX8_selfish_9 rfl (lv_at hl 0 rfl) ?_
    refine lv_iconst (v := (nI 1)) hx hb dX8_selfish_10 (by decide +kernel) ?_
    refine lv_aload_n hx hb dX8_selfish_11 rfl (lv_at hl 4 rfl) ?_
    refine g_get hC V (ci := 8) uwX8 0 rfl rfl 1 (by decide) w_913 rfl rfl dX8_selfish_12 ?_
    refine lv_iconst (v := (nI 0)) hx hb dX8_selfish_15 (by decide +kernel) ?_
    refine g_iald hC V 1 rfl (vp_in_nI (by decide) (by decide)) (v := (nI 0)) (by rw [nI_clamp (by decide)]; rfl) dX8_selfish_16 ?_
    refine lv_ishl hx hb dX8_selfish_17 ?_
    refine g_vi (y := (nI 1)) (by decide +kernel) ?_
    refine lv_icmp_ge (tgt := 102) hx hb dX8_selfish_18 (by decide) (fun _ => ?_) (fun c => absurd (show (nI 1) ≤ (nI 1) by first | rfl | decide +kernel) c)
    refine lv_iload_n hx hb dX8_selfish_102 rfl (lv_at hl 5 rfl) ?_
    refine lv_iconst (v := (-1)) hx hb dX8_selfish_103 (by decide +kernel) ?_
    refine lv_icmp_ne (tgt := 111) hx hb dX8_selfish_104 (by decide) (fun c_2 => ?_) (fun c_2 => ?_)
    · skip
      refine lv_iconst (v := (-1)) hx hb dX8_selfish_111 (by decide +kernel) ?_
      have V := V.sub (ws' := []) [] rfl rfl
      exact g_iret (Qr := (q_pm_selfish T o k g1 g2 g3 g4 g15 g17 g20 g22 g23 g24 g28 g29 g31 g32 g33)) hC V ⟨(Nat.le_of_ble_eq_true rfl), (Nat.le_of_ble_eq_true rfl)⟩ ⟨(-1), rfl, rfl, (by first | exact pf_selfish_1 ‹_› | exact pf_selfish_2 ‹_› ‹_› | exact pf_selfish_3 ‹_› ‹_›)⟩ dX8_selfish_112
    · skip
      refine lv_iload_n hx hb dX8_selfish_107 rfl (lv_at hl 1 rfl) ?_
      refine lv_goto (tgt := 112) hx hb dX8_selfish_108 (by decide) ?_
      have V := V.sub (ws' := []) [] rfl rfl
      exact g_iret (Qr := (q_pm_selfish T o k g1 g2 g3 g4 g15 g17 g20 g22 g23 g24 g28 g29 g31 g32 g33)) hC V ⟨(Nat.le_of_ble_eq_true rfl), (Nat.le_of_ble_eq_true rfl)⟩ ⟨(nI 1), rfl, rfl, (by first | exact pf_selfish_1 ‹_› | exact pf_selfish_2 ‹_› ‹_› | exact pf_selfish_3 ‹_› ‹_›)⟩ dX8_selfish_112
  · skip
    have hs2 : k = nI 0 := c_1.symm
    have hs1 : ¬ k = -1 := by rw [← c_1]; decide +kernel
    refine lv_iload_n hx hb dX8_selfish_91 rfl (lv_at hl 2 rfl) ?_
    have V := V.sub (ws' := []) [] rfl rfl
    exact g_iret (Qr := (q_pm_selfish T o k g1 g2 g3 g4 g15 g17 g20 g22 g23 g24 g28 g29 g31 g32 g33)) hC V ⟨(Nat.le_of_ble_eq_true rfl), (Nat.le_of_ble_eq_true rfl)⟩ ⟨(nI 0), rfl, rfl, (by first | exact pf_selfish_1 ‹_› | exact pf_selfish_2 ‹_› ‹_› | exact pf_selfish_3 ‹_› ‹_›)⟩ dX8_selfish_92

def q_pm_soonest (T : Nat → ClassId) (o : Nat) (g1 : Nat) (g2 : Nat) (g3 : Nat) (g4 : Nat) (g15 : Nat) (g17 : Nat) (g20 : Nat) (g22 : Nat) (g23 : Nat) (g24 : Nat) (g28 : Nat) (g29 : Nat) (g31 : Nat) (g32 : Nat) (g33 : Nat) : Option Value → va_W → Prop := fun rr ww => (∃ (z : Int32), rr = some (.int z) ∧ ww = [] ∧ z = nI 0)
set_option maxHeartbeats 4000000 in
set_option maxRecDepth 100000 in
theorem pm_soonest (l : Launch) (D : va_G) (T : Nat → ClassId) (o : Nat) (g1 : Nat) (g2 : Nat) (g3 : Nat) (g4 : Nat) (g15 : Nat) (g17 : Nat) (g20 : Nat) (g22 : Nat) (g23 : Nat) (g24 : Nat) (g28 : Nat) (g29 : Nat) (g31 : Nat) (g32 : Nat) (g33 : Nat) : Ct l yX8_soonest cX8_soonest 6 (some .int) 2 0 0 D T [.ref o] [(o, .inr (8, [.int (nI 0), .ref g1, .ref g2, .ref g3, .ref g4, .int (nI 0), .int (nI 0), .int (nI 0), .int (nI 0), .int (nI 0), .int (nI 0), .int (nI 0), .int (nI 0), .int (nI 0), .int (-1), .ref g15, .int (nI 0), .ref g17, .int (nI 0), .int (nI 0), .ref g20, .int (nI 0), .ref g22, .ref g23, .ref g24, .int (nI 0), .int (nI 0), .int (nI 0), .ref g28, .ref g29, .int (nI 0), .ref g31, .ref g32, .ref g33])), (g1, .inl (T 0, 282, .inl (upd (fun _ => nI 0) 2 (nI 20))))] (q_pm_soonest T o g1 g2 g3 g4 g15 g17 g20 g22 g23 g24 g28 g29 g31 g32 g33) := by
  refine Ct.of (cc := cX8_soonest) (maxL := 6) (ret := (some .int)) (by decide) (Nat.le_of_ble_eq_true rfl) ?_
  intro p e s m args below meth c A ls hC hnm V hl
  obtain ⟨hx, hb, hr, hml, hown, hts, hlocks⟩ := id hC
  generalize hH : s.heap = H at V ⊢
  clear hH
  have hl : lv_has ls 6 [(0, .ref o)] := hl
  generalize hlo : ([] : List Loc) = locs at V ⊢
  clear hlo
  refine lv_aload_n hx hb dX8_soonest_0 rfl (lv_at hl 0 rfl) ?_
  refine lv_iconst (v := (nI 0)) hx hb dX8_soonest_1 (by decide +kernel) ?_
  refine g_put hC V (ci := 8) uwX8 tyX8 tyX8_ok nmX8 0 rfl rfl 0 (by decide) w_912 rfl rfl rfl rfl (Nat.le_of_ble_eq_true rfl) (ws' := [(o, .inr (8, [.int (nI 0), .ref g1, .ref g2, .ref g3, .ref g4, .int (nI 0), .int (nI 0), .int (nI 0), .int (nI 0), .int (nI 0), .int (nI 0), .int (nI 0), .int (nI 0), .int (nI 0), .int (-1), .ref g15, .int (nI 0), .ref g17, .int (nI 0), .int (nI 0), .ref g20, .int (nI 0), .ref g22, .ref g23, .ref g24, .int (nI 0), .int (nI 0), .int (nI 0), .ref g28, .ref g29, .int (nI 0), .ref g31, .ref g32, .ref g33])), (g1, .inl (T 0, 282, .inl (upd (fun _ => nI 0) 2 (nI 20))))]) rfl dX8_soonest_2 (fun H locs V => ?_)
  refine lv_aload_n hx hb dX8_soonest_5 rfl (lv_at hl 0 rfl) ?_
  refine g_get hC V (ci := 8) uwX8 0 rfl rfl 1 (by decide) w_913 rfl rfl dX8_soonest_6 ?_
  refine lv_iconst (v := (nI 0)) hx hb dX8_soonest_9 (by decide +kernel) ?_
  refine g_iald hC V 1 rfl (vp_in_nI (by decide) (by decide)) (v := (nI 0)) (by rw [nI_clamp (by decide)]; rfl) dX8_soonest_10 ?_
  refine lv_iconst (v := (nI 3)) hx hb dX8_soonest_11 (by decide +kernel) ?_
  refine lv_icmp_le (tgt := 18) hx hb dX8_soonest_12 (by decide) (fun _ => ?_) (fun c => absurd (show (nI 0) ≤ (nI 3) by first | rfl | decide +kernel) c)
  refine lv_aload_n hx hb dX8_soonest_18 rfl (lv_at hl 0 rfl) ?_
  refine g_callV (wr := []) (nA := 0) hC V hl.1 (m_doneMany l D T o (nI 0) g1 g2 g3 g4 (nI 0) (nI 0) (nI 0) (nI 0) (nI 0) (nI 0) (nI 0) (nI 0) (nI 0) (-1) g15 (nI 0) g17 (nI 0) (nI 0) g20 (nI 0) g22 g23 g24 (nI 0) (nI 0) (nI 0) g28 g29 (nI 0) g31 g32 g33 (upd (fun _ => nI 0) 2 (nI 20)) (by first | rfl | assumption | omega | decide)) w_1158 w_1160 w_s56 w_9 w_1161 (by decide +kernel) rfl ⟨(Nat.le_of_ble_eq_true rfl), (Nat.le_of_ble_eq_true rfl)⟩ 0 (ci := 8) rfl rfl [0, 1] [] rfl rfl rfl rfl (by decide) (Nat.le_of_ble_eq_true rfl) dX8_soonest_19 ⟨(Nat.le_of_ble_eq_true rfl), (Nat.le_of_ble_eq_true rfl)⟩ rfl (fun r w1 H locs hQ V => ?_)
  obtain ⟨rfl, rfl⟩ := hQ
  have V : gW D T A s [(o, .inr (8, [.int (nI 0), .ref g1, .ref g2, .ref g3, .ref g4, .int (nI 0), .int (nI 0), .int (nI 0), .int (nI 0), .int (nI 0), .int (nI 0), .int (nI 0), .int (nI 0), .int (nI 0), .int (-1), .ref g15, .int (nI 0), .ref g17, .int (nI 0), .int (nI 0), .ref g20, .int (nI 0), .ref g22, .ref g23, .ref g24, .int (nI 0), .int (nI 0), .int (nI 0), .ref g28, .ref g29, .int (nI 0), .ref g31, .ref g32, .ref g33])), (g1, .inl (T 0, 282, .inl (upd (fun _ => nI 0) 2 (nI 20))))] H locs := V
  show W p l e _ s m args below meth c H locs _ _ _ (F0 m 22 ls [.int (nI 0)])
  refine lv_aload_n hx hb dX8_soonest_22 rfl (lv_at hl 0 rfl) ?_
  refine g_get hC V (ci := 8) uwX8 0 rfl rfl 1 (by decide) w_913 rfl rfl dX8_soonest_23 ?_
  refine lv_iconst (v := (nI 0)) hx hb dX8_soonest_26 (by decide +kernel) ?_
  refine g_iald hC V 1 rfl (vp_in_nI (by decide) (by decide)) (v := (nI 0)) (by rw [nI_clamp (by decide)]; rfl) dX8_soonest_27 ?_
  refine lv_icmp_ne (tgt := 33) hx hb dX8_soonest_28 (by decide) (fun c => absurd (show (nI 0) = (nI 0) by first | rfl | decide +kernel) c) (fun _ => ?_)
  refine lv_iconst (v := (nI 0)) hx hb dX8_soonest_31 (by decide +kernel) ?_
  have V := V.sub (ws' := []) [] rfl rfl
  exact g_iret (Qr := (q_pm_soonest T o g1 g2 g3 g4 g15 g17 g20 g22 g23 g24 g28 g29 g31 g32 g33)) hC V ⟨(Nat.le_of_ble_eq_true rfl), (Nat.le_of_ble_eq_true rfl)⟩ ⟨(nI 0), rfl, rfl, rfl⟩ dX8_soonest_32

def q_pm_ropes (T : Nat → ClassId) (o : Nat) (what : Int32) (g1 : Nat) (g2 : Nat) (g3 : Nat) (g4 : Nat) (g15 : Nat) (g17 : Nat) (g20 : Nat) (g22 : Nat) (g23 : Nat) (g24 : Nat) (g28 : Nat) (g29 : Nat) (g31 : Nat) (g32 : Nat) (g33 : Nat) : Option Value → va_W → Prop := fun rr ww => (∃ (z : Int32), rr = some (.int z) ∧ ww = [] ∧ z = pf_ropes what)
set_option maxHeartbeats 4000000 in
set_option maxRecDepth 100000 in
theorem pm_ropes (l : Launch) (D : va_G) (T : Nat → ClassId) (o : Nat) (what : Int32) (g1 : Nat) (g2 : Nat) (g3 : Nat) (g4 : Nat) (g15 : Nat) (g17 : Nat) (g20 : Nat) (g22 : Nat) (g23 : Nat) (g24 : Nat) (g28 : Nat) (g29 : Nat) (g31 : Nat) (g32 : Nat) (g33 : Nat) : Ct l yX8_ropes cX8_ropes 2 (some .int) 1 0 0 D T [.ref o, .int what] [(o, .inr (8, [.int (nI 0), .ref g1, .ref g2, .ref g3, .ref g4, .int (nI 0), .int (nI 0), .int (nI 0), .int (nI 0), .int (nI 0), .int (nI 0), .int (nI 0), .int (nI 0), .int (nI 0), .int (-1), .ref g15, .int (nI 0), .ref g17, .int (nI 0), .int (nI 0), .ref g20, .int (nI 0), .ref g22, .ref g23, .ref g24, .int (nI 0), .int (nI 0), .int (nI 0), .ref g28, .ref g29, .int (nI 0), .ref g31, .ref g32, .ref g33])), (g1, .inl (T 0, 282, .inl (upd (fun _ => nI 0) 2 (nI 20))))] (q_pm_ropes T o what g1 g2 g3 g4 g15 g17 g20 g22 g23 g24 g28 g29 g31 g32 g33) := by
  refine Ct.of (cc := cX8_ropes) (maxL := 2) (ret := (some .int)) (by decide) (Nat.le_of_ble_eq_true rfl) ?_
  intro p e s m args below meth c A ls hC hnm V hl
  obtain ⟨hx, hb, hr, hml, hown, hts, hlocks⟩ := id hC
  generalize hH : s.heap = H at V ⊢
  clear hH
  have hl : lv_has ls 2 [(0, .ref o), (1, .int what)] := hl
  generalize hlo : ([] : List Loc) = locs at V ⊢
  clear hlo
  refine lv_aload_n hx hb dX8_ropes_0 rfl (lv_at hl 0 rfl) ?_
  refine lv_iconst (v := (nI 0)) hx hb dX8_ropes_1 (by decide +kernel) ?_
  refine g_put hC V (ci := 8) uwX8 tyX8 tyX8_ok nmX8 0 rfl rfl 0 (by decide) w_912 rfl rfl rfl rfl (Nat.le_of_ble_eq_true rfl) (ws' := [(o, .inr (8, [.int (nI 0), .ref g1, .ref g2, .ref g3, .ref g4, .int (nI 0), .int (nI 0), .int (nI 0), .int (nI 0), .int (nI 0), .int (nI 0), .int (nI 0), .int (nI 0), .int (nI 0), .int (-1), .ref g15, .int (nI 0), .ref g17, .int (nI 0), .int (nI 0), .ref g20, .int (nI 0), .ref g22, .ref g23, .ref g24, .int (nI 0), .int (nI 0), .int (nI 0), .ref g28, .ref g29, .int (nI 0), .ref g31, .ref g32, .ref g33])), (g1, .inl (T 0, 282, .inl (upd (fun _ => nI 0) 2 (nI 20))))]) rfl dX8_ropes_2 (fun H locs V => ?_)
  refine lv_iload_n hx hb dX8_ropes_5 rfl (lv_at hl 1 rfl) ?_
  refine lv_if_eq (tgt := 33) hx hb dX8_ropes_6 (by decide) (fun c_1 => ?_) (fun c_1 => ?_)
  · skip
    refine lv_aload_n hx hb dX8_ropes_33 rfl (lv_at hl 0 rfl) ?_
    refine g_get hC V (ci := 8) uwX8 0 rfl rfl 1 (by decide) w_913 rfl rfl dX8_ropes_34 ?_
    refine lv_iconst (v := (nI 0)) hx hb dX8_ropes_37 (by decide +kernel) ?_
    refine g_iald hC V 1 rfl (vp_in_nI (by decide) (by decide)) (v := (nI 0)) (by rw [nI_clamp (by decide)]; rfl) dX8_ropes_38 ?_
    refine lv_bipush (v := (nI 7)) hx hb dX8_ropes_39 (by decide +kernel) ?_
    refine lv_icmp_le (tgt := 47) hx hb dX8_ropes_41 (by decide) (fun _ => ?_) (fun c => absurd (show (nI 0) ≤ (nI 7) by first | rfl | decide +kernel) c)
    refine lv_aload_n hx hb dX8_ropes_47 rfl (lv_at hl 0 rfl) ?_
    refine g_get hC V (ci := 8) uwX8 0 rfl rfl 1 (by decide) w_913 rfl rfl dX8_ropes_48 ?_
    refine lv_iconst (v := (nI 0)) hx hb dX8_ropes_51 (by decide +kernel) ?_
    refine g_iald hC V 1 rfl (vp_in_nI (by decide) (by decide)) (v := (nI 0)) (by rw [nI_clamp (by decide)]; rfl) dX8_ropes_52 ?_
    refine lv_if_ne (tgt := 59) hx hb dX8_ropes_53 (by decide) (fun c => absurd (show (nI 0) = 0 by decide +kernel) c) (fun _ => ?_)
    refine lv_bipush (v := (-5)) hx hb dX8_ropes_56 (by decide +kernel) ?_
    have V := V.sub (ws' := []) [] rfl rfl
    exact g_iret (Qr := (q_pm_ropes T o what g1 g2 g3 g4 g15 g17 g20 g22 g23 g24 g28 g29 g31 g32 g33)) hC V ⟨(Nat.le_of_ble_eq_true rfl), (Nat.le_of_ble_eq_true rfl)⟩ ⟨(-5), rfl, rfl, (by first | exact pf_ropes_1 ‹_› | exact pf_ropes_2 ‹_›)⟩ dX8_ropes_58
  · skip
    refine lv_iload_n hx hb dX8_ropes_9 rfl (lv_at hl 1 rfl) ?_
    refine lv_i2l (v := what.toInt64) hx hb dX8_ropes_10 rfl ?_
    refine lv_ldc2 (v := (10)) hx hb hown (hts _ w_1257) dX8_ropes_11 ?_
    refine g_vl (y := (nI 10).toInt64) (by decide +kernel) ?_
    refine lv_bipush (v := (nI 9)) hx hb dX8_ropes_14 (by decide +kernel) ?_
    refine lv_aload_n hx hb dX8_ropes_16 rfl (lv_at hl 0 rfl) ?_
    refine g_get hC V (ci := 8) uwX8 0 rfl rfl 1 (by decide) w_913 rfl rfl dX8_ropes_17 ?_
    refine lv_iconst (v := (nI 0)) hx hb dX8_ropes_20 (by decide +kernel) ?_
    refine g_iald hC V 1 rfl (vp_in_nI (by decide) (by decide)) (v := (nI 0)) (by rw [nI_clamp (by decide)]; rfl) dX8_ropes_21 ?_
    refine lv_iadd hx hb dX8_ropes_22 ?_
    refine g_vi (y := (nI 9)) (by decide +kernel) ?_
    refine lv_i2l (v := (nI 9).toInt64) hx hb dX8_ropes_23 rfl ?_
    refine g_callS (wr := [(o, .inr (8, [.int (nI 0), .ref g1, .ref g2, .ref g3, .ref g4, .int (nI 0), .int (nI 0), .int (nI 0), .int (nI 0), .int (nI 0), .int (nI 0), .int (nI 0), .int (nI 0), .int (nI 0), .int (-1), .ref g15, .int (nI 0), .ref g17, .int (nI 0), .int (nI 0), .ref g20, .int (nI 0), .ref g22, .ref g23, .ref g24, .int (nI 0), .int (nI 0), .int (nI 0), .ref g28, .ref g29, .int (nI 0), .ref g31, .ref g32, .ref g33])), (g1, .inl (T 0, 282, .inl (upd (fun _ => nI 0) 2 (nI 20))))]) (nA := 3) hC V hl.1 (c_within l D T what (nI 10) (nI 9)) w_1023 w_1024 w_9 w_1025 (by decide +kernel) rfl ⟨(Nat.le_of_ble_eq_true rfl), (Nat.le_of_ble_eq_true rfl)⟩ [] [0, 1] rfl rfl rfl rfl (by decide) (Nat.le_of_ble_eq_true rfl) dX8_ropes_24 ⟨(Nat.le_of_ble_eq_true rfl), (Nat.le_of_ble_eq_true rfl)⟩ rfl (fun r w1 H locs hQ V => ?_)
    rcases hQ with ⟨rfl, rfl, f_2, f_3⟩ | ⟨rfl, rfl, f_4⟩
    · have V : gW D T A s [(o, .inr (8, [.int (nI 0), .ref g1, .ref g2, .ref g3, .ref g4, .int (nI 0), .int (nI 0), .int (nI 0), .int (nI 0), .int (nI 0), .int (nI 0), .int (nI 0), .int (nI 0), .int (nI 0), .int (-1), .ref g15, .int (nI 0), .ref g17, .int (nI 0), .int (nI 0), .ref g20, .int (nI 0), .ref g22, .ref g23, .ref g24, .int (nI 0), .int (nI 0), .int (nI 0), .ref g28, .ref g29, .int (nI 0), .ref g31, .ref g32, .ref g33])), (g1, .inl (T 0, 282, .inl (upd (fun _ => nI 0) 2 (nI 20))))] H locs := V
      show W p l e _ s m args below meth c H locs _ _ _ (F0 m 27 ls [.int (nI 1)])
      exact (cv_no9 f_2 f_3 : False).elim
    · have V : gW D T A s [(o, .inr (8, [.int (nI 0), .ref g1, .ref g2, .ref g3, .ref g4, .int (nI 0), .int (nI 0), .int (nI 0), .int (nI 0), .int (nI 0), .int (nI 0), .int (nI 0), .int (nI 0), .int (nI 0), .int (-1), .ref g15, .int (nI 0), .ref g17, .int (nI 0), .int (nI 0), .ref g20, .int (nI 0), .ref g22, .ref g23, .ref g24, .int (nI 0), .int (nI 0), .int (nI 0), .ref g28, .ref g29, .int (nI 0), .ref g31, .ref g32, .ref g33])), (g1, .inl (T 0, 282, .inl (upd (fun _ => nI 0) 2 (nI 20))))] H locs := V
      show W p l e _ s m args below meth c H locs _ _ _ (F0 m 27 ls [.int (nI 0)])
      refine lv_if_ne (tgt := 33) hx hb dX8_ropes_27 (by decide) (fun c => absurd (show (nI 0) = 0 by decide +kernel) c) (fun _ => ?_)
      refine lv_bipush (v := (-2)) hx hb dX8_ropes_30 (by decide +kernel) ?_
      have V := V.sub (ws' := []) [] rfl rfl
      exact g_iret (Qr := (q_pm_ropes T o what g1 g2 g3 g4 g15 g17 g20 g22 g23 g24 g28 g29 g31 g32 g33)) hC V ⟨(Nat.le_of_ble_eq_true rfl), (Nat.le_of_ble_eq_true rfl)⟩ ⟨(-2), rfl, rfl, (by first | exact pf_ropes_1 ‹_› | exact pf_ropes_2 ‹_›)⟩ dX8_ropes_32

def q_pm_bestPlace (T : Nat → ClassId) (o : Nat) (bl : Int32) (n : Int32) (g1 : Nat) (g2 : Nat) (g3 : Nat) (g4 : Nat) (g15 : Nat) (g17 : Nat) (g20 : Nat) (g22 : Nat) (g23 : Nat) (g24 : Nat) (g28 : Nat) (g29 : Nat) (g31 : Nat) (g32 : Nat) (g33 : Nat) : Option Value → va_W → Prop := fun rr ww => (∃ (z : Int32), rr = some (.int z) ∧ ww = [] ∧ z = -1)
set_option maxHeartbeats 4000000 in
set_option maxRecDepth 100000 in
theorem pm_bestPlace (l : Launch) (D : va_G) (T : Nat → ClassId) (o : Nat) (bl : Int32) (n : Int32) (g1 : Nat) (g2 : Nat) (g3 : Nat) (g4 : Nat) (g15 : Nat) (g17 : Nat) (g20 : Nat) (g22 : Nat) (g23 : Nat) (g24 : Nat) (g28 : Nat) (g29 : Nat) (g31 : Nat) (g32 : Nat) (g33 : Nat) : Ct l yX8_bestPlace cX8_bestPlace 6 (some .int) 0 0 0 D T [.ref o, .int bl, .int n] [(o, .inr (8, [.int (nI 0), .ref g1, .ref g2, .ref g3, .ref g4, .int (nI 0), .int (nI 0), .int (nI 0), .int (nI 0), .int (nI 0), .int (nI 0), .int (nI 0), .int (nI 0), .int (nI 0), .int (-1), .ref g15, .int (nI 0), .ref g17, .int (nI 0), .int (nI 0), .ref g20, .int (nI 0), .ref g22, .ref g23, .ref g24, .int (nI 0), .int (nI 0), .int (nI 0), .ref g28, .ref g29, .int (nI 0), .ref g31, .ref g32, .ref g33])), (g1, .inl (T 0, 282, .inl (upd (fun _ => nI 0) 2 (nI 20))))] (q_pm_bestPlace T o bl n g1 g2 g3 g4 g15 g17 g20 g22 g23 g24 g28 g29 g31 g32 g33) := by
  refine Ct.of (cc := cX8_bestPlace) (maxL := 6) (ret := (some .int)) (by decide) (Nat.le_of_ble_eq_true rfl) ?_
  intro p e s m args below meth c A ls hC hnm V hl
  obtain ⟨hx, hb, hr, hml, hown, hts, hlocks⟩ := id hC
  generalize hH : s.heap = H at V ⊢
  clear hH
  have hl : lv_has ls 6 [(0, .ref o), (1, .int bl), (2, .int n)] := hl
  generalize hlo : ([] : List Loc) = locs at V ⊢
  clear hlo
  refine lv_aload_n hx hb dX8_bestPlace_0 rfl (lv_at hl 0 rfl) ?_
  refine lv_iconst (v := (nI 0)) hx hb dX8_bestPlace_1 (by decide +kernel) ?_
  refine g_put hC V (ci := 8) uwX8 tyX8 tyX8_ok nmX8 0 rfl rfl 0 (by decide) w_912 rfl rfl rfl rfl (Nat.le_of_ble_eq_true rfl) (ws' := [(o, .inr (8, [.int (nI 0), .ref g1, .ref g2, .ref g3, .ref g4, .int (nI 0), .int (nI 0), .int (nI 0), .int (nI 0), .int (nI 0), .int (nI 0), .int (nI 0), .int (nI 0), .int (nI 0), .int (-1), .ref g15, .int (nI 0), .ref g17, .int (nI 0), .int (nI 0), .ref g20, .int (nI 0), .ref g22, .ref g23, .ref g24, .int (nI 0), .int (nI 0), .int (nI 0), .ref g28, .ref g29, .int (nI 0), .ref g31, .ref g32, .ref g33])), (g1, .inl (T 0, 282, .inl (upd (fun _ => nI 0) 2 (nI 20))))]) rfl dX8_bestPlace_2 (fun H locs V => ?_)
  refine lv_aload_n hx hb dX8_bestPlace_5 rfl (lv_at hl 0 rfl) ?_
  refine g_get hC V (ci := 8) uwX8 0 rfl rfl 1 (by decide) w_913 rfl rfl dX8_bestPlace_6 ?_
  refine lv_iconst (v := (nI 0)) hx hb dX8_bestPlace_9 (by decide +kernel) ?_
  refine g_iald hC V 1 rfl (vp_in_nI (by decide) (by decide)) (v := (nI 0)) (by rw [nI_clamp (by decide)]; rfl) dX8_bestPlace_10 ?_
  refine lv_if_ne (tgt := 16) hx hb dX8_bestPlace_11 (by decide) (fun c => absurd (show (nI 0) = 0 by decide +kernel) c) (fun _ => ?_)
  refine lv_iconst (v := (-1)) hx hb dX8_bestPlace_14 (by decide +kernel) ?_
  have V := V.sub (ws' := []) [] rfl rfl
  exact g_iret (Qr := (q_pm_bestPlace T o bl n g1 g2 g3 g4 g15 g17 g20 g22 g23 g24 g28 g29 g31 g32 g33)) hC V ⟨(Nat.le_of_ble_eq_true rfl), (Nat.le_of_ble_eq_true rfl)⟩ ⟨(-1), rfl, rfl, rfl⟩ dX8_bestPlace_15

def q_pm_swapped (T : Nat → ClassId) (o : Nat) (n : Int32) (what : Int32) (g1 : Nat) (g2 : Nat) (g3 : Nat) (g4 : Nat) (g15 : Nat) (g17 : Nat) (g20 : Nat) (g22 : Nat) (g23 : Nat) (g24 : Nat) (g28 : Nat) (g29 : Nat) (g31 : Nat) (g32 : Nat) (g33 : Nat) : Option Value → va_W → Prop := fun rr ww => (∃ (z : Int32), rr = some (.int z) ∧ ww = [] ∧ z = pf_swapped n what)
set_option maxHeartbeats 4000000 in
set_option maxRecDepth 100000 in
theorem pm_swapped (l : Launch) (D : va_G) (T : Nat → ClassId) (o : Nat) (n : Int32) (what : Int32) (g1 : Nat) (g2 : Nat) (g3 : Nat) (g4 : Nat) (g15 : Nat) (g17 : Nat) (g20 : Nat) (g22 : Nat) (g23 : Nat) (g24 : Nat) (g28 : Nat) (g29 : Nat) (g31 : Nat) (g32 : Nat) (g33 : Nat) : Ct l yX8_swapped cX8_swapped 10 (some .int) 4 0 0 D T [.ref o, .int n, .int what] [(o, .inr (8, [.int (nI 0), .ref g1, .ref g2, .ref g3, .ref g4, .int (nI 0), .int (nI 0), .int (nI 0), .int (nI 0), .int (nI 0), .int (nI 0), .int (nI 0), .int (nI 0), .int (nI 0), .int (-1), .ref g15, .int (nI 0), .ref g17, .int (nI 0), .int (nI 0), .ref g20, .int (nI 0), .ref g22, .ref g23, .ref g24, .int (nI 0), .int (nI 0), .int (nI 0), .ref g28, .ref g29, .int (nI 0), .ref g31, .ref g32, .ref g33])), (g1, .inl (T 0, 282, .inl (upd (fun _ => nI 0) 2 (nI 20)))), (g17, .inl (T 0, 94, .inl (fun _ => nI 0)))] (q_pm_swapped T o n what g1 g2 g3 g4 g15 g17 g20 g22 g23 g24 g28 g29 g31 g32 g33) := by
  refine Ct.of (cc := cX8_swapped) (maxL := 10) (ret := (some .int)) (by decide) (Nat.le_of_ble_eq_true rfl) ?_
  intro p e s m args below meth c A ls hC hnm V hl
  obtain ⟨hx, hb, hr, hml, hown, hts, hlocks⟩ := id hC
  generalize hH : s.heap = H at V ⊢
  clear hH
  have hl : lv_has ls 10 [(0, .ref o), (1, .int n), (2, .int what)] := hl
  generalize hlo : ([] : List Loc) = locs at V ⊢
  clear hlo
  refine lv_aload_n hx hb dX8_swapped_0 rfl (lv_at hl 0 rfl) ?_
  refine lv_iconst (v := (nI 0)) hx hb dX8_swapped_1 (by decide +kernel) ?_
  refine g_put hC V (ci := 8) uwX8 tyX8 tyX8_ok nmX8 0 rfl rfl 0 (by decide) w_912 rfl rfl rfl rfl (Nat.le_of_ble_eq_true rfl) (ws' := [(o, .inr (8, [.int (nI 0), .ref g1, .ref g2, .ref g3, .ref g4, .int (nI 0), .int (nI 0), .int (nI 0), .int (nI 0), .int (nI 0), .int (nI 0), .int (nI 0), .int (nI 0), .int (nI 0), .int (-1), .ref g15, .int (nI 0), .ref g17, .int (nI 0), .int (nI 0), .ref g20, .int (nI 0), .ref g22, .ref g23, .ref g24, .int (nI 0), .int (nI 0), .int (nI 0), .ref g28, .ref g29, .int (nI 0), .ref g31, .ref g32, .ref g33])), (g1, .inl (T 0, 282, .inl (upd (fun _ => nI 0) 2 (nI 20)))), (g17, .inl (T 0, 94, .inl (fun _ => nI 0)))]) rfl dX8_swapped_2 (fun H locs V => ?_)
  refine lv_iload_n hx hb dX8_swapped_5 rfl (lv_at hl 2 rfl) ?_
  refine lv_i2l (v := what.toInt64) hx hb dX8_swapped_6 rfl ?_
  refine lv_lconst (v := (nI 0).toInt64) hx hb dX8_swapped_7 (by decide +kernel) ?_
  refine lv_lconst (v := (nI 1).toInt64) hx hb dX8_swapped_8 (by decide +kernel) ?_
  refine g_callS (wr := [(o, .inr (8, [.int (nI 0), .ref g1, .ref g2, .ref g3, .ref g4, .int (nI 0), .int (nI 0), .int (nI 0), .int (nI 0), .int (nI 0), .int (nI 0), .int (nI 0), .int (nI 0), .int (nI 0), .int (-1), .ref g15, .int (nI 0), .ref g17, .int (nI 0), .int (nI 0), .ref g20, .int (nI 0), .ref g22, .ref g23, .ref g24, .int (nI 0), .int (nI 0), .int (nI 0), .ref g28, .ref g29, .int (nI 0), .ref g31, .ref g32, .ref g33])), (g1, .inl (T 0, 282, .inl (upd (fun _ => nI 0) 2 (nI 20)))), (g17, .inl (T 0, 94, .inl (fun _ => nI 0)))]) (nA := 3) hC V hl.1 (c_within l D T what (nI 0) (nI 1)) w_1023 w_1024 w_9 w_1025 (by decide +kernel) rfl ⟨(Nat.le_of_ble_eq_true rfl), (Nat.le_of_ble_eq_true rfl)⟩ [] [0, 1, 2] rfl rfl rfl rfl (by decide) (Nat.le_of_ble_eq_true rfl) dX8_swapped_9 ⟨(Nat.le_of_ble_eq_true rfl), (Nat.le_of_ble_eq_true rfl)⟩ rfl (fun r w1 H locs hQ V => ?_)
  rcases hQ with ⟨rfl, rfl, f_1, f_2⟩ | ⟨rfl, rfl, f_3⟩
  · have V : gW D T A s [(o, .inr (8, [.int (nI 0), .ref g1, .ref g2, .ref g3, .ref g4, .int (nI 0), .int (nI 0), .int (nI 0), .int (nI 0), .int (nI 0), .int (nI 0), .int (nI 0), .int (nI 0), .int (nI 0), .int (-1), .ref g15, .int (nI 0), .ref g17, .int (nI 0), .int (nI 0), .ref g20, .int (nI 0), .ref g22, .ref g23, .ref g24, .int (nI 0), .int (nI 0), .int (nI 0), .ref g28, .ref g29, .int (nI 0), .ref g31, .ref g32, .ref g33])), (g1, .inl (T 0, 282, .inl (upd (fun _ => nI 0) 2 (nI 20)))), (g17, .inl (T 0, 94, .inl (fun _ => nI 0)))] H locs := V
    show W p l e _ s m args below meth c H locs _ _ _ (F0 m 12 ls [.int (nI 1)])
    refine lv_if_ne (tgt := 18) hx hb dX8_swapped_12 (by decide) (fun _ => ?_) (fun c => absurd (show (nI 1) = 0 from c) (by decide +kernel))
    refine lv_aload_n hx hb dX8_swapped_18 rfl (lv_at hl 0 rfl) ?_
    refine lv_iload_n hx hb dX8_swapped_19 rfl (lv_at hl 1 rfl) ?_
    refine g_callV (wr := [(g17, .inl (T 0, 94, .inl (fun _ => nI 0)))]) (nA := 1) hC V hl.1 (m_refusesTime l D T o n (nI 0) g1 g2 g3 g4 (nI 0) (nI 0) (nI 0) (nI 0) (nI 0) (nI 0) (nI 0) (nI 0) (nI 0) (-1) g15 (nI 0) g17 (nI 0) (nI 0) g20 (nI 0) g22 g23 g24 (nI 0) (nI 0) (nI 0) g28 g29 (nI 0) g31 g32 g33) w_1174 w_1176 w_s58 w_9 w_1177 (by decide +kernel) rfl ⟨(Nat.le_of_ble_eq_true rfl), (Nat.le_of_ble_eq_true rfl)⟩ 0 (ci := 8) rfl rfl [0, 1] [2] rfl rfl rfl rfl (by decide) (Nat.le_of_ble_eq_true rfl) dX8_swapped_20 ⟨(Nat.le_of_ble_eq_true rfl), (Nat.le_of_ble_eq_true rfl)⟩ rfl (fun r w1 H locs hQ V => ?_)
    rcases hQ with ⟨rfl, rfl, f_4⟩ | ⟨jj, rfl, rfl, f_5, f_6, f_7, f_8, f_9⟩
    · have V : gW D T A s [(g17, .inl (T 0, 94, .inl (fun _ => nI 0))), (o, .inr (8, [.int (nI 0), .ref g1, .ref g2, .ref g3, .ref g4, .int (nI 0), .int (nI 0), .int (nI 0), .int (nI 0), .int (nI 0), .int (nI 0), .int (nI 0), .int (nI 0), .int (nI 0), .int (-1), .ref g15, .int (nI 0), .ref g17, .int (nI 0), .int (nI 0), .ref g20, .int (nI 0), .ref g22, .ref g23, .ref g24, .int (nI 0), .int (nI 0), .int (nI 0), .ref g28, .ref g29, .int (nI 0), .ref g31, .ref g32, .ref g33])), (g1, .inl (T 0, 282, .inl (upd (fun _ => nI 0) 2 (nI 20))))] H locs := V
      show W p l e _ s m args below meth c H locs _ _ _ (F0 m 23 ls [.int (-3)])
      refine lv_istore_n (lv' := [(3, .int (-3)), (0, .ref o), (1, .int n), (2, .int what)]) hx hb dX8_swapped_23 rfl hl (by decide) rfl (fun ls hl => ?_)
      refine lv_iload_n hx hb dX8_swapped_24 rfl (lv_at hl 0 rfl) ?_
      refine lv_if_eq (tgt := 30) hx hb dX8_swapped_25 (by decide) (fun c => absurd (show (-3 : Int32) = 0 from c) (by decide +kernel)) (fun _ => ?_)
      refine lv_iload_n hx hb dX8_swapped_28 rfl (lv_at hl 0 rfl) ?_
      have V := V.sub (ws' := []) [] rfl rfl
      exact g_iret (Qr := (q_pm_swapped T o n what g1 g2 g3 g4 g15 g17 g20 g22 g23 g24 g28 g29 g31 g32 g33)) hC V ⟨(Nat.le_of_ble_eq_true rfl), (Nat.le_of_ble_eq_true rfl)⟩ ⟨(-3), rfl, rfl, (by first | exact pf_swapped_1 ‹_› | exact pf_swapped_2 ‹_› ‹_› ‹_› | exact pf_swapped_3 ‹_› ‹_› ‹_› ‹_› ‹_› | exact pf_swapped_4 ‹_› ‹_› ‹_› ‹_› ‹_›)⟩ dX8_swapped_29
    · have V : gW D T A s [(g17, .inl (T 0, 94, .inl (fun _ => nI 0))), (o, .inr (8, [.int (nI 0), .ref g1, .ref g2, .ref g3, .ref g4, .int (nI 0), .int (nI 0), .int (nI 0), .int (nI 0), .int (nI 0), .int (nI 0), .int (nI 0), .int (nI 0), .int (nI 0), .int (-1), .ref g15, .int (nI 0), .ref g17, .int (nI 0), .int (nI 0), .ref g20, .int (nI 0), .ref g22, .ref g23, .ref g24, .int (nI 0), .int (nI 0), .int (nI 0), .ref g28, .ref g29, .int (nI 0), .ref g31, .ref g32, .ref g33])), (g1, .inl (T 0, 282, .inl (upd (fun _ => nI 0) 2 (nI 20))))] H locs := V
      show W p l e _ s m args below meth c H locs _ _ _ (F0 m 23 ls [.int (nI 0)])
      rw [f_9] at hl
      refine lv_istore_n (lv' := [(3, .int (nI 0)), (0, .ref o), (1, .int (nI jj)), (2, .int what)]) hx hb dX8_swapped_23 rfl hl (by decide) rfl (fun ls hl => ?_)
      refine lv_iload_n hx hb dX8_swapped_24 rfl (lv_at hl 0 rfl) ?_
      refine lv_if_eq (tgt := 30) hx hb dX8_swapped_25 (by decide) (fun _ => ?_) (fun c => absurd (show (nI 0) = 0 by decide +kernel) c)
      refine lv_aload_n hx hb dX8_swapped_30 rfl (lv_at hl 1 rfl) ?_
      refine lv_iload_n hx hb dX8_swapped_31 rfl (lv_at hl 2 rfl) ?_
      refine lv_iconst (v := (-1)) hx hb dX8_swapped_32 (by decide +kernel) ?_
      refine lv_iconst (v := (-1)) hx hb dX8_swapped_33 (by decide +kernel) ?_
      refine lv_iconst (v := (nI 0)) hx hb dX8_swapped_34 (by decide +kernel) ?_
      refine g_callV (wr := []) (nA := 4) hC V hl.1 (m_doneBy l D T o jj (-1) (nI 0) g1 g2 g3 g4 (nI 0) (nI 0) (nI 0) (nI 0) (nI 0) (nI 0) (nI 0) (nI 0) (nI 0) (-1) g15 (nI 0) g17 (nI 0) (nI 0) g20 (nI 0) g22 g23 g24 (nI 0) (nI 0) (nI 0) g28 g29 (nI 0) g31 g32 g33 (upd (fun _ => nI 0) 2 (nI 20)) (fun _ => nI 0) (by first | rfl | assumption | omega | decide) (by first | rfl | assumption | omega | decide)) w_1179 w_1181 w_s59 w_9 w_1182 (by decide +kernel) rfl ⟨(Nat.le_of_ble_eq_true rfl), (Nat.le_of_ble_eq_true rfl)⟩ 1 (ci := 8) rfl rfl [1, 2, 0] [] rfl rfl rfl rfl (by decide) (Nat.le_of_ble_eq_true rfl) dX8_swapped_35 ⟨(Nat.le_of_ble_eq_true rfl), (Nat.le_of_ble_eq_true rfl)⟩ rfl (fun r w1 H locs hQ V => ?_)
      obtain ⟨gA, gk_10, rfl, rfl, f_11⟩ := hQ
      have V : gW D T A s [(o, .inr (8, [.int (nI 0), .ref g1, .ref g2, .ref g3, .ref g4, .int (nI 0), .int (nI 0), .int (nI 0), .int (nI 0), .int (nI 0), .int (nI 0), .int (nI 0), .int (nI 0), .int (nI 0), .int (-1), .ref g15, .int (nI 0), .ref g17, .int (nI 0), .int (nI 0), .ref g20, .int (nI 0), .ref g22, .ref g23, .ref g24, .int (nI 0), .int (nI 0), .int (nI 0), .ref g28, .ref g29, .int (nI 0), .ref g31, .ref g32, .ref g33])), (g1, .inl (T 0, 282, .inl gA)), (g17, .inl (T 0, 94, .inl gk_10))] H locs := V
      show W p l e _ s m args below meth c H locs _ _ _ (F0 m 38 ls [.int (nI 0)])
      have hgA := f_11
      refine lv_istore (lv' := [(4, .int (nI 0)), (3, .int (nI 0)), (0, .ref o), (1, .int (nI jj)), (2, .int what)]) hx hb dX8_swapped_38 hl (by decide) rfl (fun ls hl => ?_)
      refine lv_iconst (v := (nI 0)) hx hb dX8_swapped_40 (by decide +kernel) ?_
      refine lv_istore (lv' := [(5, .int (nI 0)), (4, .int (nI 0)), (3, .int (nI 0)), (0, .ref o), (1, .int (nI jj)), (2, .int what)]) hx hb dX8_swapped_41 hl (by decide) rfl (fun ls hl => ?_)
      refine lv_iconst (v := (-1)) hx hb dX8_swapped_43 (by decide +kernel) ?_
      refine lv_istore (lv' := [(6, .int (-1)), (5, .int (nI 0)), (4, .int (nI 0)), (3, .int (nI 0)), (0, .ref o), (1, .int (nI jj)), (2, .int what)]) hx hb dX8_swapped_44 hl (by decide) rfl (fun ls hl => ?_)
      refine lv_iconst (v := (nI 0)) hx hb dX8_swapped_46 (by decide +kernel) ?_
      refine lv_istore (lv' := [(7, .int (nI 0)), (6, .int (-1)), (5, .int (nI 0)), (4, .int (nI 0)), (3, .int (nI 0)), (0, .ref o), (1, .int (nI jj)), (2, .int what)]) hx hb dX8_swapped_47 hl (by decide) rfl (fun ls hl => ?_)
      refine lv_iload hx hb dX8_swapped_49 (lv_at hl 0 rfl) ?_
      refine lv_aload_n hx hb dX8_swapped_51 rfl (lv_at hl 5 rfl) ?_
      refine g_get hC V (ci := 8) uwX8 0 rfl rfl 1 (by decide) w_913 rfl rfl dX8_swapped_52 ?_
      refine lv_iconst (v := (nI 0)) hx hb dX8_swapped_55 (by decide +kernel) ?_
      refine g_iald hC V 1 rfl (vp_in_nI (by decide) (by decide)) (v := (nI 0)) (by rw [nI_clamp (by decide)]; first | rfl | exact hgA) dX8_swapped_56 ?_
      refine lv_icmp_ge (tgt := 142) hx hb dX8_swapped_57 (by decide) (fun _ => ?_) (fun c => absurd (show (nI 0) ≤ (nI 0) by first | rfl | decide +kernel) c)
      refine lv_iload_n hx hb dX8_swapped_142 rfl (lv_at hl 7 rfl) ?_
      refine lv_if_ne (tgt := 151) hx hb dX8_swapped_143 (by decide) (fun c_12 => ?_) (fun c_12 => ?_)
      · skip
        refine lv_iload hx hb dX8_swapped_151 (lv_at hl 1 rfl) ?_
        have V := V.sub (ws' := []) [] rfl rfl
        exact g_iret (Qr := (q_pm_swapped T o n what g1 g2 g3 g4 g15 g17 g20 g22 g23 g24 g28 g29 g31 g32 g33)) hC V ⟨(Nat.le_of_ble_eq_true rfl), (Nat.le_of_ble_eq_true rfl)⟩ ⟨(-1), rfl, rfl, (by first | exact pf_swapped_1 ‹_› | exact pf_swapped_2 ‹_› ‹_› ‹_› | exact pf_swapped_3 ‹_› ‹_› ‹_› ‹_› ‹_› | exact pf_swapped_4 ‹_› ‹_› ‹_› ‹_› ‹_›)⟩ dX8_swapped_153
      · skip
        refine lv_iload hx hb dX8_swapped_146 (lv_at hl 2 rfl) ?_
        refine lv_goto (tgt := 153) hx hb dX8_swapped_148 (by decide) ?_
        have V := V.sub (ws' := []) [] rfl rfl
        exact g_iret (Qr := (q_pm_swapped T o n what g1 g2 g3 g4 g15 g17 g20 g22 g23 g24 g28 g29 g31 g32 g33)) hC V ⟨(Nat.le_of_ble_eq_true rfl), (Nat.le_of_ble_eq_true rfl)⟩ ⟨(nI 0), rfl, rfl, (by first | exact pf_swapped_1 ‹_› | exact pf_swapped_2 ‹_› ‹_› ‹_› | exact pf_swapped_3 ‹_› ‹_› ‹_› ‹_› ‹_› | exact pf_swapped_4 ‹_› ‹_› ‹_› ‹_› ‹_›)⟩ dX8_swapped_153
  · have V : gW D T A s [(o, .inr (8, [.int (nI 0), .ref g1, .ref g2, .ref g3, .ref g4, .int (nI 0), .int (nI 0), .int (nI 0), .int (nI 0), .int (nI 0), .int (nI 0), .int (nI 0), .int (nI 0), .int (nI 0), .int (-1), .ref g15, .int (nI 0), .ref g17, .int (nI 0), .int (nI 0), .ref g20, .int (nI 0), .ref g22, .ref g23, .ref g24, .int (nI 0), .int (nI 0), .int (nI 0), .ref g28, .ref g29, .int (nI 0), .ref g31, .ref g32, .ref g33])), (g1, .inl (T 0, 282, .inl (upd (fun _ => nI 0) 2 (nI 20)))), (g17, .inl (T 0, 94, .inl (fun _ => nI 0)))] H locs := V
    show W p l e _ s m args below meth c H locs _ _ _ (F0 m 12 ls [.int (nI 0)])
    refine lv_if_ne (tgt := 18) hx hb dX8_swapped_12 (by decide) (fun c => absurd (show (nI 0) = 0 by decide +kernel) c) (fun _ => ?_)
    refine lv_bipush (v := (-2)) hx hb dX8_swapped_15 (by decide +kernel) ?_
    have V := V.sub (ws' := []) [] rfl rfl
    exact g_iret (Qr := (q_pm_swapped T o n what g1 g2 g3 g4 g15 g17 g20 g22 g23 g24 g28 g29 g31 g32 g33)) hC V ⟨(Nat.le_of_ble_eq_true rfl), (Nat.le_of_ble_eq_true rfl)⟩ ⟨(-2), rfl, rfl, (by first | exact pf_swapped_1 ‹_› | exact pf_swapped_2 ‹_› ‹_› ‹_› | exact pf_swapped_3 ‹_› ‹_› ‹_› ‹_› ‹_› | exact pf_swapped_4 ‹_› ‹_› ‹_› ‹_› ‹_›)⟩ dX8_swapped_17

def q_pm_numbers (T : Nat → ClassId) (o : Nat) (row : Int32) (sort : Int32) (n : Int32) (g1 : Nat) (g2 : Nat) (g3 : Nat) (g4 : Nat) (g15 : Nat) (g17 : Nat) (g20 : Nat) (g22 : Nat) (g23 : Nat) (g24 : Nat) (g28 : Nat) (g29 : Nat) (g31 : Nat) (g32 : Nat) (g33 : Nat) : Option Value → va_W → Prop := fun rr ww => (∃ (z : Int32), rr = some (.int z) ∧ ww = [] ∧ z = pf_numbers row sort n)
set_option maxHeartbeats 4000000 in
set_option maxRecDepth 100000 in
theorem pm_numbers (l : Launch) (D : va_G) (T : Nat → ClassId) (o : Nat) (row : Int32) (sort : Int32) (n : Int32) (g1 : Nat) (g2 : Nat) (g3 : Nat) (g4 : Nat) (g15 : Nat) (g17 : Nat) (g20 : Nat) (g22 : Nat) (g23 : Nat) (g24 : Nat) (g28 : Nat) (g29 : Nat) (g31 : Nat) (g32 : Nat) (g33 : Nat) : Ct l yX8_numbers cX8_numbers 5 (some .int) 1 0 0 D T [.ref o, .int row, .int sort, .int n] [(o, .inr (8, [.int (nI 0), .ref g1, .ref g2, .ref g3, .ref g4, .int (nI 0), .int (nI 0), .int (nI 0), .int (nI 0), .int (nI 0), .int (nI 0), .int (nI 0), .int (nI 0), .int (nI 0), .int (-1), .ref g15, .int (nI 0), .ref g17, .int (nI 0), .int (nI 0), .ref g20, .int (nI 0), .ref g22, .ref g23, .ref g24, .int (nI 0), .int (nI 0), .int (nI 0), .ref g28, .ref g29, .int (nI 0), .ref g31, .ref g32, .ref g33])), (g31, .inl (T 0, 4, .inl (upd (upd (upd (upd (fun _ => nI 0) 0 (-1)) 1 (-1)) 2 (-1)) 3 (-1)))), (g32, .inl (T 0, 4, .inl (fun _ => nI 0))), (g33, .inl (T 1, 160, .inr (.inl (fun _ => 0))))] (q_pm_numbers T o row sort n g1 g2 g3 g4 g15 g17 g20 g22 g23 g24 g28 g29 g31 g32 g33) := by
  refine Ct.of (cc := cX8_numbers) (maxL := 5) (ret := (some .int)) (by decide) (Nat.le_of_ble_eq_true rfl) ?_
  intro p e s m args below meth c A ls hC hnm V hl
  obtain ⟨hx, hb, hr, hml, hown, hts, hlocks⟩ := id hC
  generalize hH : s.heap = H at V ⊢
  clear hH
  have hl : lv_has ls 5 [(0, .ref o), (1, .int row), (2, .int sort), (3, .int n)] := hl
  generalize hlo : ([] : List Loc) = locs at V ⊢
  clear hlo
  refine lv_aload_n hx hb dX8_numbers_0 rfl (lv_at hl 0 rfl) ?_
  refine lv_iconst (v := (nI 0)) hx hb dX8_numbers_1 (by decide +kernel) ?_
  refine g_put hC V (ci := 8) uwX8 tyX8 tyX8_ok nmX8 0 rfl rfl 0 (by decide) w_912 rfl rfl rfl rfl (Nat.le_of_ble_eq_true rfl) (ws' := [(o, .inr (8, [.int (nI 0), .ref g1, .ref g2, .ref g3, .ref g4, .int (nI 0), .int (nI 0), .int (nI 0), .int (nI 0), .int (nI 0), .int (nI 0), .int (nI 0), .int (nI 0), .int (nI 0), .int (-1), .ref g15, .int (nI 0), .ref g17, .int (nI 0), .int (nI 0), .ref g20, .int (nI 0), .ref g22, .ref g23, .ref g24, .int (nI 0), .int (nI 0), .int (nI 0), .ref g28, .ref g29, .int (nI 0), .ref g31, .ref g32, .ref g33])), (g31, .inl (T 0, 4, .inl (upd (upd (upd (upd (fun _ => nI 0) 0 (-1)) 1 (-1)) 2 (-1)) 3 (-1)))), (g32, .inl (T 0, 4, .inl (fun _ => nI 0))), (g33, .inl (T 1, 160, .inr (.inl (fun _ => 0))))]) rfl dX8_numbers_2 (fun H locs V => ?_)
  refine lv_iload_n hx hb dX8_numbers_5 rfl (lv_at hl 1 rfl) ?_
  refine lv_i2l (v := row.toInt64) hx hb dX8_numbers_6 rfl ?_
  refine lv_lconst (v := (nI 0).toInt64) hx hb dX8_numbers_7 (by decide +kernel) ?_
  refine lv_ldc2 (v := (3)) hx hb hown (hts _ w_1144) dX8_numbers_8 ?_
  refine g_vl (y := (nI 3).toInt64) (by decide +kernel) ?_
  refine g_callS (wr := [(o, .inr (8, [.int (nI 0), .ref g1, .ref g2, .ref g3, .ref g4, .int (nI 0), .int (nI 0), .int (nI 0), .int (nI 0), .int (nI 0), .int (nI 0), .int (nI 0), .int (nI 0), .int (nI 0), .int (-1), .ref g15, .int (nI 0), .ref g17, .int (nI 0), .int (nI 0), .ref g20, .int (nI 0), .ref g22, .ref g23, .ref g24, .int (nI 0), .int (nI 0), .int (nI 0), .ref g28, .ref g29, .int (nI 0), .ref g31, .ref g32, .ref g33])), (g31, .inl (T 0, 4, .inl (upd (upd (upd (upd (fun _ => nI 0) 0 (-1)) 1 (-1)) 2 (-1)) 3 (-1)))), (g32, .inl (T 0, 4, .inl (fun _ => nI 0))), (g33, .inl (T 1, 160, .inr (.inl (fun _ => 0))))]) (nA := 3) hC V hl.1 (c_within l D T row (nI 0) (nI 3)) w_1023 w_1024 w_9 w_1025 (by decide +kernel) rfl ⟨(Nat.le_of_ble_eq_true rfl), (Nat.le_of_ble_eq_true rfl)⟩ [] [0, 1, 2, 3] rfl rfl rfl rfl (by decide) (Nat.le_of_ble_eq_true rfl) dX8_numbers_11 ⟨(Nat.le_of_ble_eq_true rfl), (Nat.le_of_ble_eq_true rfl)⟩ rfl (fun r w1 H locs hQ V => ?_)
  rcases hQ with ⟨rfl, rfl, f_1, f_2⟩ | ⟨rfl, rfl, f_3⟩
  · have V : gW D T A s [(o, .inr (8, [.int (nI 0), .ref g1, .ref g2, .ref g3, .ref g4, .int (nI 0), .int (nI 0), .int (nI 0), .int (nI 0), .int (nI 0), .int (nI 0), .int (nI 0), .int (nI 0), .int (nI 0), .int (-1), .ref g15, .int (nI 0), .ref g17, .int (nI 0), .int (nI 0), .ref g20, .int (nI 0), .ref g22, .ref g23, .ref g24, .int (nI 0), .int (nI 0), .int (nI 0), .ref g28, .ref g29, .int (nI 0), .ref g31, .ref g32, .ref g33])), (g31, .inl (T 0, 4, .inl (upd (upd (upd (upd (fun _ => nI 0) 0 (-1)) 1 (-1)) 2 (-1)) 3 (-1)))), (g32, .inl (T 0, 4, .inl (fun _ => nI 0))), (g33, .inl (T 1, 160, .inr (.inl (fun _ => 0))))] H locs := V
    show W p l e _ s m args below meth c H locs _ _ _ (F0 m 14 ls [.int (nI 1)])
    have r1_row : ¬ row < 0 := f_1
    have r2_row : ¬ nI 4 ≤ row := cv_r2 rfl (by decide) f_2
    refine lv_if_eq (tgt := 29) hx hb dX8_numbers_14 (by decide) (fun c => absurd (show (nI 1) = 0 from c) (by decide +kernel)) (fun _ => ?_)
    refine lv_iload_n hx hb dX8_numbers_17 rfl (lv_at hl 2 rfl) ?_
    refine lv_i2l (v := sort.toInt64) hx hb dX8_numbers_18 rfl ?_
    refine lv_lconst (v := (nI 0).toInt64) hx hb dX8_numbers_19 (by decide +kernel) ?_
    refine lv_ldc2 (v := (3)) hx hb hown (hts _ w_1144) dX8_numbers_20 ?_
    refine g_vl (y := (nI 3).toInt64) (by decide +kernel) ?_
    refine g_callS (wr := [(o, .inr (8, [.int (nI 0), .ref g1, .ref g2, .ref g3, .ref g4, .int (nI 0), .int (nI 0), .int (nI 0), .int (nI 0), .int (nI 0), .int (nI 0), .int (nI 0), .int (nI 0), .int (nI 0), .int (-1), .ref g15, .int (nI 0), .ref g17, .int (nI 0), .int (nI 0), .ref g20, .int (nI 0), .ref g22, .ref g23, .ref g24, .int (nI 0), .int (nI 0), .int (nI 0), .ref g28, .ref g29, .int (nI 0), .ref g31, .ref g32, .ref g33])), (g31, .inl (T 0, 4, .inl (upd (upd (upd (upd (fun _ => nI 0) 0 (-1)) 1 (-1)) 2 (-1)) 3 (-1)))), (g32, .inl (T 0, 4, .inl (fun _ => nI 0))), (g33, .inl (T 1, 160, .inr (.inl (fun _ => 0))))]) (nA := 3) hC V hl.1 (c_within l D T sort (nI 0) (nI 3)) w_1023 w_1024 w_9 w_1025 (by decide +kernel) rfl ⟨(Nat.le_of_ble_eq_true rfl), (Nat.le_of_ble_eq_true rfl)⟩ [] [0, 1, 2, 3] rfl rfl rfl rfl (by decide) (Nat.le_of_ble_eq_true rfl) dX8_numbers_23 ⟨(Nat.le_of_ble_eq_true rfl), (Nat.le_of_ble_eq_true rfl)⟩ rfl (fun r w1 H locs hQ V => ?_)
    rcases hQ with ⟨rfl, rfl, f_4, f_5⟩ | ⟨rfl, rfl, f_6⟩
    · have V : gW D T A s [(o, .inr (8, [.int (nI 0), .ref g1, .ref g2, .ref g3, .ref g4, .int (nI 0), .int (nI 0), .int (nI 0), .int (nI 0), .int (nI 0), .int (nI 0), .int (nI 0), .int (nI 0), .int (nI 0), .int (-1), .ref g15, .int (nI 0), .ref g17, .int (nI 0), .int (nI 0), .ref g20, .int (nI 0), .ref g22, .ref g23, .ref g24, .int (nI 0), .int (nI 0), .int (nI 0), .ref g28, .ref g29, .int (nI 0), .ref g31, .ref g32, .ref g33])), (g31, .inl (T 0, 4, .inl (upd (upd (upd (upd (fun _ => nI 0) 0 (-1)) 1 (-1)) 2 (-1)) 3 (-1)))), (g32, .inl (T 0, 4, .inl (fun _ => nI 0))), (g33, .inl (T 1, 160, .inr (.inl (fun _ => 0))))] H locs := V
      show W p l e _ s m args below meth c H locs _ _ _ (F0 m 26 ls [.int (nI 1)])
      refine lv_if_ne (tgt := 32) hx hb dX8_numbers_26 (by decide) (fun _ => ?_) (fun c => absurd (show (nI 1) = 0 from c) (by decide +kernel))
      refine lv_iload_n hx hb dX8_numbers_32 rfl (lv_at hl 3 rfl) ?_
      refine lv_i2l (v := n.toInt64) hx hb dX8_numbers_33 rfl ?_
      refine lv_lconst (v := (nI 0).toInt64) hx hb dX8_numbers_34 (by decide +kernel) ?_
      refine lv_ldc2 (v := (40)) hx hb hown (hts _ w_1376) dX8_numbers_35 ?_
      refine g_vl (y := (nI 40).toInt64) (by decide +kernel) ?_
      refine g_callS (wr := [(o, .inr (8, [.int (nI 0), .ref g1, .ref g2, .ref g3, .ref g4, .int (nI 0), .int (nI 0), .int (nI 0), .int (nI 0), .int (nI 0), .int (nI 0), .int (nI 0), .int (nI 0), .int (nI 0), .int (-1), .ref g15, .int (nI 0), .ref g17, .int (nI 0), .int (nI 0), .ref g20, .int (nI 0), .ref g22, .ref g23, .ref g24, .int (nI 0), .int (nI 0), .int (nI 0), .ref g28, .ref g29, .int (nI 0), .ref g31, .ref g32, .ref g33])), (g31, .inl (T 0, 4, .inl (upd (upd (upd (upd (fun _ => nI 0) 0 (-1)) 1 (-1)) 2 (-1)) 3 (-1)))), (g32, .inl (T 0, 4, .inl (fun _ => nI 0))), (g33, .inl (T 1, 160, .inr (.inl (fun _ => 0))))]) (nA := 3) hC V hl.1 (c_within l D T n (nI 0) (nI 40)) w_1023 w_1024 w_9 w_1025 (by decide +kernel) rfl ⟨(Nat.le_of_ble_eq_true rfl), (Nat.le_of_ble_eq_true rfl)⟩ [] [0, 1, 2, 3] rfl rfl rfl rfl (by decide) (Nat.le_of_ble_eq_true rfl) dX8_numbers_38 ⟨(Nat.le_of_ble_eq_true rfl), (Nat.le_of_ble_eq_true rfl)⟩ rfl (fun r w1 H locs hQ V => ?_)
      rcases hQ with ⟨rfl, rfl, f_7, f_8⟩ | ⟨rfl, rfl, f_9⟩
      · have V : gW D T A s [(o, .inr (8, [.int (nI 0), .ref g1, .ref g2, .ref g3, .ref g4, .int (nI 0), .int (nI 0), .int (nI 0), .int (nI 0), .int (nI 0), .int (nI 0), .int (nI 0), .int (nI 0), .int (nI 0), .int (-1), .ref g15, .int (nI 0), .ref g17, .int (nI 0), .int (nI 0), .ref g20, .int (nI 0), .ref g22, .ref g23, .ref g24, .int (nI 0), .int (nI 0), .int (nI 0), .ref g28, .ref g29, .int (nI 0), .ref g31, .ref g32, .ref g33])), (g31, .inl (T 0, 4, .inl (upd (upd (upd (upd (fun _ => nI 0) 0 (-1)) 1 (-1)) 2 (-1)) 3 (-1)))), (g32, .inl (T 0, 4, .inl (fun _ => nI 0))), (g33, .inl (T 1, 160, .inr (.inl (fun _ => 0))))] H locs := V
        show W p l e _ s m args below meth c H locs _ _ _ (F0 m 41 ls [.int (nI 1)])
        obtain ⟨rj, hrj, erj⟩ := g_idx (n := 4) (by decide) r1_row r2_row
        rw [erj] at hl
        obtain ⟨jn, hjn1, hjn2, ejn⟩ := g_rng (by decide) (by decide) f_7 f_8
        rw [ejn] at hl
        refine lv_if_ne (tgt := 47) hx hb dX8_numbers_41 (by decide) (fun _ => ?_) (fun c => absurd (show (nI 1) = 0 from c) (by decide +kernel))
        refine lv_aload_n hx hb dX8_numbers_47 rfl (lv_at hl 0 rfl) ?_
        refine g_get hC V (ci := 8) uwX8 0 rfl rfl 31 (by decide) w_943 rfl rfl dX8_numbers_48 ?_
        refine lv_iload_n hx hb dX8_numbers_51 rfl (lv_at hl 1 rfl) ?_
        refine lv_iload_n hx hb dX8_numbers_52 rfl (lv_at hl 2 rfl) ?_
        refine g_iast hC V 1 rfl (vp_in_nI (by omega) (by omega)) (f' := (upd (upd (upd (upd (upd (fun _ => nI 0) 0 (-1)) 1 (-1)) 2 (-1)) 3 (-1)) rj sort)) (by rw [nI_clamp (by omega)]) (ws' := [(o, .inr (8, [.int (nI 0), .ref g1, .ref g2, .ref g3, .ref g4, .int (nI 0), .int (nI 0), .int (nI 0), .int (nI 0), .int (nI 0), .int (nI 0), .int (nI 0), .int (nI 0), .int (nI 0), .int (-1), .ref g15, .int (nI 0), .ref g17, .int (nI 0), .int (nI 0), .ref g20, .int (nI 0), .ref g22, .ref g23, .ref g24, .int (nI 0), .int (nI 0), .int (nI 0), .ref g28, .ref g29, .int (nI 0), .ref g31, .ref g32, .ref g33])), (g31, .inl (T 0, 4, .inl (upd (upd (upd (upd (upd (fun _ => nI 0) 0 (-1)) 1 (-1)) 2 (-1)) 3 (-1)) rj sort))), (g32, .inl (T 0, 4, .inl (fun _ => nI 0))), (g33, .inl (T 1, 160, .inr (.inl (fun _ => 0))))]) rfl dX8_numbers_53 (fun H locs V => ?_)
        refine lv_aload_n hx hb dX8_numbers_54 rfl (lv_at hl 0 rfl) ?_
        refine g_get hC V (ci := 8) uwX8 0 rfl rfl 32 (by decide) w_944 rfl rfl dX8_numbers_55 ?_
        refine lv_iload_n hx hb dX8_numbers_58 rfl (lv_at hl 1 rfl) ?_
        refine lv_iload_n hx hb dX8_numbers_59 rfl (lv_at hl 3 rfl) ?_
        refine g_iast hC V 2 rfl (vp_in_nI (by omega) (by omega)) (f' := (upd (fun _ => nI 0) rj (nI jn))) (by rw [nI_clamp (by omega)]) (ws' := [(o, .inr (8, [.int (nI 0), .ref g1, .ref g2, .ref g3, .ref g4, .int (nI 0), .int (nI 0), .int (nI 0), .int (nI 0), .int (nI 0), .int (nI 0), .int (nI 0), .int (nI 0), .int (nI 0), .int (-1), .ref g15, .int (nI 0), .ref g17, .int (nI 0), .int (nI 0), .ref g20, .int (nI 0), .ref g22, .ref g23, .ref g24, .int (nI 0), .int (nI 0), .int (nI 0), .ref g28, .ref g29, .int (nI 0), .ref g31, .ref g32, .ref g33])), (g31, .inl (T 0, 4, .inl (upd (upd (upd (upd (upd (fun _ => nI 0) 0 (-1)) 1 (-1)) 2 (-1)) 3 (-1)) rj sort))), (g32, .inl (T 0, 4, .inl (upd (fun _ => nI 0) rj (nI jn)))), (g33, .inl (T 1, 160, .inr (.inl (fun _ => 0))))]) rfl dX8_numbers_60 (fun H locs V => ?_)
        refine lv_iconst (v := (nI 0)) hx hb dX8_numbers_61 (by decide +kernel) ?_
        refine lv_istore (lv' := [(4, .int (nI 0)), (0, .ref o), (1, .int (nI rj)), (2, .int sort), (3, .int (nI jn))]) hx hb dX8_numbers_62 hl (by decide) rfl (fun ls hl => ?_)
        have L_10 : ∀ (fu : Nat) (k : Nat) (f : Nat → Int64), k ≤ jn → jn - k < fu → ∀ (H : Heap) (locs : List Loc) (ls : Array Slot), gW D T A s [(o, .inr (8, [.int (nI 0), .ref g1, .ref g2, .ref g3, .ref g4, .int (nI 0), .int (nI 0), .int (nI 0), .int (nI 0), .int (nI 0), .int (nI 0), .int (nI 0), .int (nI 0), .int (nI 0), .int (-1), .ref g15, .int (nI 0), .ref g17, .int (nI 0), .int (nI 0), .ref g20, .int (nI 0), .ref g22, .ref g23, .ref g24, .int (nI 0), .int (nI 0), .int (nI 0), .ref g28, .ref g29, .int (nI 0), .ref g31, .ref g32, .ref g33])), (g31, .inl (T 0, 4, .inl (upd (upd (upd (upd (upd (fun _ => nI 0) 0 (-1)) 1 (-1)) 2 (-1)) 3 (-1)) rj sort))), (g32, .inl (T 0, 4, .inl (upd (fun _ => nI 0) rj (nI jn)))), (g33, .inl (T 1, 160, .inr (.inl f)))] H locs → lv_has ls 5 [(4, .int (nI k)), (0, .ref o), (1, .int (nI rj)), (2, .int sort), (3, .int (nI jn))] → W p l e (rmD 1 0 0) s m args below meth c H locs 0 0 (MQ below (gQ D A (q_pm_numbers T o row sort n g1 g2 g3 g4 g15 g17 g20 g22 g23 g24 g28 g29 g31 g32 g33)) args s 0 0 A) (F0 m 64 ls []) := by
          intro fu
          induction fu with
          | zero => intro k f hk hmu; exact absurd hmu (Nat.not_lt_zero _)
          | succ fu ih =>
            intro k f hk hmu H locs ls V hl
            refine lv_iload hx hb dX8_numbers_64 (lv_at hl 0 rfl) ?_
            refine lv_iload_n hx hb dX8_numbers_66 rfl (lv_at hl 4 rfl) ?_
            refine lv_icmp_ge (tgt := 89) hx hb dX8_numbers_67 (by decide) (fun c_11 => ?_) (fun c_11 => ?_)
            · skip
              have c_11 := b_le (by omega) (by omega) c_11
              refine lv_iconst (v := (nI 0)) hx hb dX8_numbers_89 (by decide +kernel) ?_
              have V := V.sub (ws' := []) [] rfl rfl
              exact g_iret (Qr := (q_pm_numbers T o row sort n g1 g2 g3 g4 g15 g17 g20 g22 g23 g24 g28 g29 g31 g32 g33)) hC V ⟨(Nat.le_of_ble_eq_true rfl), (Nat.le_of_ble_eq_true rfl)⟩ ⟨(nI 0), rfl, rfl, (by first | exact pf_numbers_1 ‹_› | exact pf_numbers_2 ‹_› | exact pf_numbers_3 ‹_› ‹_› ‹_› ‹_› ‹_› | exact pf_numbers_4 ‹_› ‹_› ‹_› ‹_› ‹_› ‹_›)⟩ dX8_numbers_90
            · skip
              have c_11 := b_nle (by omega) (by omega) c_11
              refine lv_aload_n hx hb dX8_numbers_70 rfl (lv_at hl 1 rfl) ?_
              refine g_get hC V (ci := 8) uwX8 0 rfl rfl 33 (by decide) w_945 rfl rfl dX8_numbers_71 ?_
              refine lv_bipush (v := (nI 40)) hx hb dX8_numbers_74 (by decide +kernel) ?_
              refine lv_iload_n hx hb dX8_numbers_76 rfl (lv_at hl 2 rfl) ?_
              refine lv_imul hx hb dX8_numbers_77 ?_
              refine g_vi (y := (nI (40 * rj))) (pk_mul _ _) ?_
              refine lv_iload hx hb dX8_numbers_78 (lv_at hl 0 rfl) ?_
              refine lv_iadd hx hb dX8_numbers_80 ?_
              refine g_vi (y := (nI ((40 * rj) + k))) (nI_add _ _) ?_
              refine lv_lconst (v := (nI 0).toInt64) hx hb dX8_numbers_81 (by decide +kernel) ?_
              refine g_last hC V 3 rfl (vp_in_nI (by omega) (by omega)) (f' := (vp_updL f ((40 * rj) + k) (nI 0).toInt64)) (by rw [nI_clamp (by omega)]) (ws' := [(o, .inr (8, [.int (nI 0), .ref g1, .ref g2, .ref g3, .ref g4, .int (nI 0), .int (nI 0), .int (nI 0), .int (nI 0), .int (nI 0), .int (nI 0), .int (nI 0), .int (nI 0), .int (nI 0), .int (-1), .ref g15, .int (nI 0), .ref g17, .int (nI 0), .int (nI 0), .ref g20, .int (nI 0), .ref g22, .ref g23, .ref g24, .int (nI 0), .int (nI 0), .int (nI 0), .ref g28, .ref g29, .int (nI 0), .ref g31, .ref g32, .ref g33])), (g31, .inl (T 0, 4, .inl (upd (upd (upd (upd (upd (fun _ => nI 0) 0 (-1)) 1 (-1)) 2 (-1)) 3 (-1)) rj sort))), (g32, .inl (T 0, 4, .inl (upd (fun _ => nI 0) rj (nI jn)))), (g33, .inl (T 1, 160, .inr (.inl (vp_updL f ((40 * rj) + k) (nI 0).toInt64))))]) rfl dX8_numbers_82 (fun H locs V => ?_)
              refine lv_iinc (v := (nI (k + 1))) (lv' := [(4, .int (nI (k + 1))), (0, .ref o), (1, .int (nI rj)), (2, .int sort), (3, .int (nI jn))]) hx hb dX8_numbers_83 hl (k := 0) rfl (nI_1 _) (by decide) rfl (fun ls hl => ?_)
              refine lv_goto (tgt := 64) hx hb dX8_numbers_86 (by decide) ?_
              exact ih (k + 1) (vp_updL f ((40 * rj) + k) (nI 0).toInt64) (by omega) (by omega) _ _ _ V (lv_sub hl [0, 1, 2, 3, 4] rfl)
        exact L_10 _ 0 (fun _ => 0) (Nat.zero_le _) (Nat.lt_succ_self _) _ _ _ V (lv_sub hl [0, 1, 2, 3, 4] rfl)
      · have V : gW D T A s [(o, .inr (8, [.int (nI 0), .ref g1, .ref g2, .ref g3, .ref g4, .int (nI 0), .int (nI 0), .int (nI 0), .int (nI 0), .int (nI 0), .int (nI 0), .int (nI 0), .int (nI 0), .int (nI 0), .int (-1), .ref g15, .int (nI 0), .ref g17, .int (nI 0), .int (nI 0), .ref g20, .int (nI 0), .ref g22, .ref g23, .ref g24, .int (nI 0), .int (nI 0), .int (nI 0), .ref g28, .ref g29, .int (nI 0), .ref g31, .ref g32, .ref g33])), (g31, .inl (T 0, 4, .inl (upd (upd (upd (upd (fun _ => nI 0) 0 (-1)) 1 (-1)) 2 (-1)) 3 (-1)))), (g32, .inl (T 0, 4, .inl (fun _ => nI 0))), (g33, .inl (T 1, 160, .inr (.inl (fun _ => 0))))] H locs := V
        show W p l e _ s m args below meth c H locs _ _ _ (F0 m 41 ls [.int (nI 0)])
        refine lv_if_ne (tgt := 47) hx hb dX8_numbers_41 (by decide) (fun c => absurd (show (nI 0) = 0 by decide +kernel) c) (fun _ => ?_)
        refine lv_bipush (v := (-3)) hx hb dX8_numbers_44 (by decide +kernel) ?_
        have V := V.sub (ws' := []) [] rfl rfl
        exact g_iret (Qr := (q_pm_numbers T o row sort n g1 g2 g3 g4 g15 g17 g20 g22 g23 g24 g28 g29 g31 g32 g33)) hC V ⟨(Nat.le_of_ble_eq_true rfl), (Nat.le_of_ble_eq_true rfl)⟩ ⟨(-3), rfl, rfl, (by first | exact pf_numbers_1 ‹_› | exact pf_numbers_2 ‹_› | exact pf_numbers_3 ‹_› ‹_› ‹_› ‹_› ‹_› | exact pf_numbers_4 ‹_› ‹_› ‹_› ‹_› ‹_› ‹_›)⟩ dX8_numbers_46
    · have V : gW D T A s [(o, .inr (8, [.int (nI 0), .ref g1, .ref g2, .ref g3, .ref g4, .int (nI 0), .int (nI 0), .int (nI 0), .int (nI 0), .int (nI 0), .int (nI 0), .int (nI 0), .int (nI 0), .int (nI 0), .int (-1), .ref g15, .int (nI 0), .ref g17, .int (nI 0), .int (nI 0), .ref g20, .int (nI 0), .ref g22, .ref g23, .ref g24, .int (nI 0), .int (nI 0), .int (nI 0), .ref g28, .ref g29, .int (nI 0), .ref g31, .ref g32, .ref g33])), (g31, .inl (T 0, 4, .inl (upd (upd (upd (upd (fun _ => nI 0) 0 (-1)) 1 (-1)) 2 (-1)) 3 (-1)))), (g32, .inl (T 0, 4, .inl (fun _ => nI 0))), (g33, .inl (T 1, 160, .inr (.inl (fun _ => 0))))] H locs := V
      show W p l e _ s m args below meth c H locs _ _ _ (F0 m 26 ls [.int (nI 0)])
      refine lv_if_ne (tgt := 32) hx hb dX8_numbers_26 (by decide) (fun c => absurd (show (nI 0) = 0 by decide +kernel) c) (fun _ => ?_)
      refine lv_bipush (v := (-2)) hx hb dX8_numbers_29 (by decide +kernel) ?_
      have V := V.sub (ws' := []) [] rfl rfl
      exact g_iret (Qr := (q_pm_numbers T o row sort n g1 g2 g3 g4 g15 g17 g20 g22 g23 g24 g28 g29 g31 g32 g33)) hC V ⟨(Nat.le_of_ble_eq_true rfl), (Nat.le_of_ble_eq_true rfl)⟩ ⟨(-2), rfl, rfl, (by first | exact pf_numbers_1 ‹_› | exact pf_numbers_2 ‹_› | exact pf_numbers_3 ‹_› ‹_› ‹_› ‹_› ‹_› | exact pf_numbers_4 ‹_› ‹_› ‹_› ‹_› ‹_› ‹_›)⟩ dX8_numbers_31
  · have V : gW D T A s [(o, .inr (8, [.int (nI 0), .ref g1, .ref g2, .ref g3, .ref g4, .int (nI 0), .int (nI 0), .int (nI 0), .int (nI 0), .int (nI 0), .int (nI 0), .int (nI 0), .int (nI 0), .int (nI 0), .int (-1), .ref g15, .int (nI 0), .ref g17, .int (nI 0), .int (nI 0), .ref g20, .int (nI 0), .ref g22, .ref g23, .ref g24, .int (nI 0), .int (nI 0), .int (nI 0), .ref g28, .ref g29, .int (nI 0), .ref g31, .ref g32, .ref g33])), (g31, .inl (T 0, 4, .inl (upd (upd (upd (upd (fun _ => nI 0) 0 (-1)) 1 (-1)) 2 (-1)) 3 (-1)))), (g32, .inl (T 0, 4, .inl (fun _ => nI 0))), (g33, .inl (T 1, 160, .inr (.inl (fun _ => 0))))] H locs := V
    show W p l e _ s m args below meth c H locs _ _ _ (F0 m 14 ls [.int (nI 0)])
    have r0_row : (row < 0 ∨ nI 4 ≤ row) := cv_r0 rfl (by decide) f_3
    refine lv_if_eq (tgt := 29) hx hb dX8_numbers_14 (by decide) (fun _ => ?_) (fun c => absurd (show (nI 0) = 0 by decide +kernel) c)
    refine lv_bipush (v := (-2)) hx hb dX8_numbers_29 (by decide +kernel) ?_
    have V := V.sub (ws' := []) [] rfl rfl
    exact g_iret (Qr := (q_pm_numbers T o row sort n g1 g2 g3 g4 g15 g17 g20 g22 g23 g24 g28 g29 g31 g32 g33)) hC V ⟨(Nat.le_of_ble_eq_true rfl), (Nat.le_of_ble_eq_true rfl)⟩ ⟨(-2), rfl, rfl, (by first | exact pf_numbers_1 ‹_› | exact pf_numbers_2 ‹_› | exact pf_numbers_3 ‹_› ‹_› ‹_› ‹_› ‹_› | exact pf_numbers_4 ‹_› ‹_› ‹_› ‹_› ‹_› ‹_›)⟩ dX8_numbers_31

def q_pm_image (T : Nat → ClassId) (o : Nat) (i : Int32) (g1 : Nat) (g2 : Nat) (g3 : Nat) (g4 : Nat) (g15 : Nat) (g17 : Nat) (g20 : Nat) (g22 : Nat) (g23 : Nat) (g24 : Nat) (g28 : Nat) (g29 : Nat) (g31 : Nat) (g32 : Nat) (g33 : Nat) : Option Value → va_W → Prop := fun rr ww => (∃ (z : Int32), rr = some (.int z) ∧ ww = [] ∧ z = pf_image i)
set_option maxHeartbeats 4000000 in
set_option maxRecDepth 100000 in
theorem pm_image (l : Launch) (D : va_G) (T : Nat → ClassId) (o : Nat) (i : Int32) (g1 : Nat) (g2 : Nat) (g3 : Nat) (g4 : Nat) (g15 : Nat) (g17 : Nat) (g20 : Nat) (g22 : Nat) (g23 : Nat) (g24 : Nat) (g28 : Nat) (g29 : Nat) (g31 : Nat) (g32 : Nat) (g33 : Nat) : Ct l yX8_image cX8_image 3 (some .int) 1 0 0 D T [.ref o, .int i] [(o, .inr (8, [.int (nI 0), .ref g1, .ref g2, .ref g3, .ref g4, .int (nI 0), .int (nI 0), .int (nI 0), .int (nI 0), .int (nI 0), .int (nI 0), .int (nI 0), .int (nI 0), .int (nI 0), .int (-1), .ref g15, .int (nI 0), .ref g17, .int (nI 0), .int (nI 0), .ref g20, .int (nI 0), .ref g22, .ref g23, .ref g24, .int (nI 0), .int (nI 0), .int (nI 0), .ref g28, .ref g29, .int (nI 0), .ref g31, .ref g32, .ref g33])), (g1, .inl (T 0, 282, .inl (upd (fun _ => nI 0) 2 (nI 20)))), (g2, .inl (T 2, 2, .inl (fun _ => nI 0)))] (q_pm_image T o i g1 g2 g3 g4 g15 g17 g20 g22 g23 g24 g28 g29 g31 g32 g33) := by
  refine Ct.of (cc := cX8_image) (maxL := 3) (ret := (some .int)) (by decide) (Nat.le_of_ble_eq_true rfl) ?_
  intro p e s m args below meth c A ls hC hnm V hl
  obtain ⟨hx, hb, hr, hml, hown, hts, hlocks⟩ := id hC
  generalize hH : s.heap = H at V ⊢
  clear hH
  have hl : lv_has ls 3 [(0, .ref o), (1, .int i)] := hl
  generalize hlo : ([] : List Loc) = locs at V ⊢
  clear hlo
  refine lv_aload_n hx hb dX8_image_0 rfl (lv_at hl 0 rfl) ?_
  refine lv_iconst (v := (nI 0)) hx hb dX8_image_1 (by decide +kernel) ?_
  refine g_put hC V (ci := 8) uwX8 tyX8 tyX8_ok nmX8 0 rfl rfl 0 (by decide) w_912 rfl rfl rfl rfl (Nat.le_of_ble_eq_true rfl) (ws' := [(o, .inr (8, [.int (nI 0), .ref g1, .ref g2, .ref g3, .ref g4, .int (nI 0), .int (nI 0), .int (nI 0), .int (nI 0), .int (nI 0), .int (nI 0), .int (nI 0), .int (nI 0), .int (nI 0), .int (-1), .ref g15, .int (nI 0), .ref g17, .int (nI 0), .int (nI 0), .ref g20, .int (nI 0), .ref g22, .ref g23, .ref g24, .int (nI 0), .int (nI 0), .int (nI 0), .ref g28, .ref g29, .int (nI 0), .ref g31, .ref g32, .ref g33])), (g1, .inl (T 0, 282, .inl (upd (fun _ => nI 0) 2 (nI 20)))), (g2, .inl (T 2, 2, .inl (fun _ => nI 0)))]) rfl dX8_image_2 (fun H locs V => ?_)
  refine lv_iload_n hx hb dX8_image_5 rfl (lv_at hl 1 rfl) ?_
  refine lv_i2l (v := i.toInt64) hx hb dX8_image_6 rfl ?_
  refine lv_lconst (v := (nI 0).toInt64) hx hb dX8_image_7 (by decide +kernel) ?_
  refine lv_lconst (v := (nI 1).toInt64) hx hb dX8_image_8 (by decide +kernel) ?_
  refine g_callS (wr := [(o, .inr (8, [.int (nI 0), .ref g1, .ref g2, .ref g3, .ref g4, .int (nI 0), .int (nI 0), .int (nI 0), .int (nI 0), .int (nI 0), .int (nI 0), .int (nI 0), .int (nI 0), .int (nI 0), .int (-1), .ref g15, .int (nI 0), .ref g17, .int (nI 0), .int (nI 0), .ref g20, .int (nI 0), .ref g22, .ref g23, .ref g24, .int (nI 0), .int (nI 0), .int (nI 0), .ref g28, .ref g29, .int (nI 0), .ref g31, .ref g32, .ref g33])), (g1, .inl (T 0, 282, .inl (upd (fun _ => nI 0) 2 (nI 20)))), (g2, .inl (T 2, 2, .inl (fun _ => nI 0)))]) (nA := 3) hC V hl.1 (c_within l D T i (nI 0) (nI 1)) w_1023 w_1024 w_9 w_1025 (by decide +kernel) rfl ⟨(Nat.le_of_ble_eq_true rfl), (Nat.le_of_ble_eq_true rfl)⟩ [] [0, 1, 2] rfl rfl rfl rfl (by decide) (Nat.le_of_ble_eq_true rfl) dX8_image_9 ⟨(Nat.le_of_ble_eq_true rfl), (Nat.le_of_ble_eq_true rfl)⟩ rfl (fun r w1 H locs hQ V => ?_)
  rcases hQ with ⟨rfl, rfl, f_1, f_2⟩ | ⟨rfl, rfl, f_3⟩
  · have V : gW D T A s [(o, .inr (8, [.int (nI 0), .ref g1, .ref g2, .ref g3, .ref g4, .int (nI 0), .int (nI 0), .int (nI 0), .int (nI 0), .int (nI 0), .int (nI 0), .int (nI 0), .int (nI 0), .int (nI 0), .int (-1), .ref g15, .int (nI 0), .ref g17, .int (nI 0), .int (nI 0), .ref g20, .int (nI 0), .ref g22, .ref g23, .ref g24, .int (nI 0), .int (nI 0), .int (nI 0), .ref g28, .ref g29, .int (nI 0), .ref g31, .ref g32, .ref g33])), (g1, .inl (T 0, 282, .inl (upd (fun _ => nI 0) 2 (nI 20)))), (g2, .inl (T 2, 2, .inl (fun _ => nI 0)))] H locs := V
    show W p l e _ s m args below meth c H locs _ _ _ (F0 m 12 ls [.int (nI 1)])
    have r1_i : ¬ i < 0 := f_1
    have r2_i : ¬ nI 2 ≤ i := cv_r2 rfl (by decide) f_2
    obtain ⟨ij, hij, eij⟩ := g_idx (n := 2) (by decide) r1_i r2_i
    rw [eij] at hl
    refine lv_if_ne (tgt := 18) hx hb dX8_image_12 (by decide) (fun _ => ?_) (fun c => absurd (show (nI 1) = 0 from c) (by decide +kernel))
    refine lv_iconst (v := (nI 0)) hx hb dX8_image_18 (by decide +kernel) ?_
    refine lv_istore_n (lv' := [(2, .int (nI 0)), (0, .ref o), (1, .int (nI ij))]) hx hb dX8_image_19 rfl hl (by decide) rfl (fun ls hl => ?_)
    have L_4 : ∀ (fu : Nat) (k : Nat) (f : Nat → Int32), k ≤ 94 → 94 - k < fu → ∀ (H : Heap) (locs : List Loc) (ls : Array Slot), gW D T A s [(o, .inr (8, [.int (nI 0), .ref g1, .ref g2, .ref g3, .ref g4, .int (nI 0), .int (nI 0), .int (nI 0), .int (nI 0), .int (nI 0), .int (nI 0), .int (nI 0), .int (nI 0), .int (nI 0), .int (-1), .ref g15, .int (nI 0), .ref g17, .int (nI 0), .int (nI 0), .ref g20, .int (nI 0), .ref g22, .ref g23, .ref g24, .int (nI 0), .int (nI 0), .int (nI 0), .ref g28, .ref g29, .int (nI 0), .ref g31, .ref g32, .ref g33])), (g1, .inl (T 0, 282, .inl f)), (g2, .inl (T 2, 2, .inl (fun _ => nI 0)))] H locs → lv_has ls 3 [(2, .int (nI k)), (0, .ref o), (1, .int (nI ij))] → W p l e (rmD 1 0 0) s m args below meth c H locs 0 0 (MQ below (gQ D A (q_pm_image T o i g1 g2 g3 g4 g15 g17 g20 g22 g23 g24 g28 g29 g31 g32 g33)) args s 0 0 A) (F0 m 20 ls []) := by
      intro fu
      induction fu with
      | zero => intro k f hk hmu; exact absurd hmu (Nat.not_lt_zero _)
      | succ fu ih =>
        intro k f hk hmu H locs ls V hl
        refine lv_iload_n hx hb dX8_image_20 rfl (lv_at hl 0 rfl) ?_
        refine lv_bipush (v := (nI 94)) hx hb dX8_image_21 (by decide +kernel) ?_
        refine lv_icmp_ge (tgt := 51) hx hb dX8_image_23 (by decide) (fun c_5 => ?_) (fun c_5 => ?_)
        · skip
          have c_5 := b_le (by omega) (by omega) c_5
          refine lv_aload_n hx hb dX8_image_51 rfl (lv_at hl 1 rfl) ?_
          refine g_get hC V (ci := 8) uwX8 0 rfl rfl 2 (by decide) w_914 rfl rfl dX8_image_52 ?_
          refine lv_iload_n hx hb dX8_image_55 rfl (lv_at hl 2 rfl) ?_
          refine lv_iconst (v := (nI 1)) hx hb dX8_image_56 (by decide +kernel) ?_
          refine g_zast hC V 2 rfl (vp_in_nI (by omega) (by omega)) (f' := (upd (fun _ => nI 0) ij (vp_nar .boolean (nI 1)))) (by rw [nI_clamp (by omega)]) (ws' := [(o, .inr (8, [.int (nI 0), .ref g1, .ref g2, .ref g3, .ref g4, .int (nI 0), .int (nI 0), .int (nI 0), .int (nI 0), .int (nI 0), .int (nI 0), .int (nI 0), .int (nI 0), .int (nI 0), .int (-1), .ref g15, .int (nI 0), .ref g17, .int (nI 0), .int (nI 0), .ref g20, .int (nI 0), .ref g22, .ref g23, .ref g24, .int (nI 0), .int (nI 0), .int (nI 0), .ref g28, .ref g29, .int (nI 0), .ref g31, .ref g32, .ref g33])), (g1, .inl (T 0, 282, .inl f)), (g2, .inl (T 2, 2, .inl (upd (fun _ => nI 0) ij (vp_nar .boolean (nI 1)))))]) rfl dX8_image_57 (fun H locs V => ?_)
          refine lv_iconst (v := (nI 0)) hx hb dX8_image_58 (by decide +kernel) ?_
          have V := V.sub (ws' := []) [] rfl rfl
          exact g_iret (Qr := (q_pm_image T o i g1 g2 g3 g4 g15 g17 g20 g22 g23 g24 g28 g29 g31 g32 g33)) hC V ⟨(Nat.le_of_ble_eq_true rfl), (Nat.le_of_ble_eq_true rfl)⟩ ⟨(nI 0), rfl, rfl, (by first | exact pf_image_1 ‹_› | exact pf_image_2 ‹_› ‹_›)⟩ dX8_image_59
        · skip
          have c_5 := b_nle (by omega) (by omega) c_5
          refine lv_aload_n hx hb dX8_image_26 rfl (lv_at hl 1 rfl) ?_
          refine g_get hC V (ci := 8) uwX8 0 rfl rfl 1 (by decide) w_913 rfl rfl dX8_image_27 ?_
          refine lv_bipush (v := (nI 94)) hx hb dX8_image_30 (by decide +kernel) ?_
          refine lv_iload_n hx hb dX8_image_32 rfl (lv_at hl 2 rfl) ?_
          refine lv_iconst (v := (nI 1)) hx hb dX8_image_33 (by decide +kernel) ?_
          refine lv_iadd hx hb dX8_image_34 ?_
          refine g_vi (y := (nI (ij + 1))) (nI_add _ _) ?_
          refine lv_imul hx hb dX8_image_35 ?_
          refine g_vi (y := (nI (94 * (ij + 1)))) (pk_mul _ _) ?_
          refine lv_iload_n hx hb dX8_image_36 rfl (lv_at hl 0 rfl) ?_
          refine lv_iadd hx hb dX8_image_37 ?_
          refine g_vi (y := (nI ((94 * (ij + 1)) + k))) (nI_add _ _) ?_
          refine lv_aload_n hx hb dX8_image_38 rfl (lv_at hl 1 rfl) ?_
          refine g_get hC V (ci := 8) uwX8 0 rfl rfl 1 (by decide) w_913 rfl rfl dX8_image_39 ?_
          refine lv_iload_n hx hb dX8_image_42 rfl (lv_at hl 0 rfl) ?_
          refine g_iald hC V 1 rfl (vp_in_nI (by omega) (by omega)) (v := (f k)) (congrArg _ (nI_clamp (by omega))) dX8_image_43 ?_
          refine g_iast hC V 1 rfl (vp_in_nI (by omega) (by omega)) (f' := (upd f ((94 * (ij + 1)) + k) (f k))) (by rw [nI_clamp (by omega)]) (ws' := [(o, .inr (8, [.int (nI 0), .ref g1, .ref g2, .ref g3, .ref g4, .int (nI 0), .int (nI 0), .int (nI 0), .int (nI 0), .int (nI 0), .int (nI 0), .int (nI 0), .int (nI 0), .int (nI 0), .int (-1), .ref g15, .int (nI 0), .ref g17, .int (nI 0), .int (nI 0), .ref g20, .int (nI 0), .ref g22, .ref g23, .ref g24, .int (nI 0), .int (nI 0), .int (nI 0), .ref g28, .ref g29, .int (nI 0), .ref g31, .ref g32, .ref g33])), (g1, .inl (T 0, 282, .inl (upd f ((94 * (ij + 1)) + k) (f k)))), (g2, .inl (T 2, 2, .inl (fun _ => nI 0)))]) rfl dX8_image_44 (fun H locs V => ?_)
          refine lv_iinc (v := (nI (k + 1))) (lv' := [(2, .int (nI (k + 1))), (0, .ref o), (1, .int (nI ij))]) hx hb dX8_image_45 hl (k := 0) rfl (nI_1 _) (by decide) rfl (fun ls hl => ?_)
          refine lv_goto (tgt := 20) hx hb dX8_image_48 (by decide) ?_
          exact ih (k + 1) (upd f ((94 * (ij + 1)) + k) (f k)) (by omega) (by omega) _ _ _ V (lv_sub hl [0, 1, 2] rfl)
    exact L_4 _ 0 (upd (fun _ => nI 0) 2 (nI 20)) (Nat.zero_le _) (Nat.lt_succ_self _) _ _ _ V (lv_sub hl [0, 1, 2] rfl)
  · have V : gW D T A s [(o, .inr (8, [.int (nI 0), .ref g1, .ref g2, .ref g3, .ref g4, .int (nI 0), .int (nI 0), .int (nI 0), .int (nI 0), .int (nI 0), .int (nI 0), .int (nI 0), .int (nI 0), .int (nI 0), .int (-1), .ref g15, .int (nI 0), .ref g17, .int (nI 0), .int (nI 0), .ref g20, .int (nI 0), .ref g22, .ref g23, .ref g24, .int (nI 0), .int (nI 0), .int (nI 0), .ref g28, .ref g29, .int (nI 0), .ref g31, .ref g32, .ref g33])), (g1, .inl (T 0, 282, .inl (upd (fun _ => nI 0) 2 (nI 20)))), (g2, .inl (T 2, 2, .inl (fun _ => nI 0)))] H locs := V
    show W p l e _ s m args below meth c H locs _ _ _ (F0 m 12 ls [.int (nI 0)])
    have r0_i : (i < 0 ∨ nI 2 ≤ i) := cv_r0 rfl (by decide) f_3
    refine lv_if_ne (tgt := 18) hx hb dX8_image_12 (by decide) (fun c => absurd (show (nI 0) = 0 by decide +kernel) c) (fun _ => ?_)
    refine lv_bipush (v := (-2)) hx hb dX8_image_15 (by decide +kernel) ?_
    have V := V.sub (ws' := []) [] rfl rfl
    exact g_iret (Qr := (q_pm_image T o i g1 g2 g3 g4 g15 g17 g20 g22 g23 g24 g28 g29 g31 g32 g33)) hC V ⟨(Nat.le_of_ble_eq_true rfl), (Nat.le_of_ble_eq_true rfl)⟩ ⟨(-2), rfl, rfl, (by first | exact pf_image_1 ‹_› | exact pf_image_2 ‹_› ‹_›)⟩ dX8_image_17

def q_pm_restore (T : Nat → ClassId) (o : Nat) (i : Int32) (g1 : Nat) (g2 : Nat) (g3 : Nat) (g4 : Nat) (g15 : Nat) (g17 : Nat) (g20 : Nat) (g22 : Nat) (g23 : Nat) (g24 : Nat) (g28 : Nat) (g29 : Nat) (g31 : Nat) (g32 : Nat) (g33 : Nat) : Option Value → va_W → Prop := fun rr ww => (∃ (z : Int32), rr = some (.int z) ∧ ww = [] ∧ z = pf_restore i)
set_option maxHeartbeats 4000000 in
set_option maxRecDepth 100000 in
theorem pm_restore (l : Launch) (D : va_G) (T : Nat → ClassId) (o : Nat) (i : Int32) (g1 : Nat) (g2 : Nat) (g3 : Nat) (g4 : Nat) (g15 : Nat) (g17 : Nat) (g20 : Nat) (g22 : Nat) (g23 : Nat) (g24 : Nat) (g28 : Nat) (g29 : Nat) (g31 : Nat) (g32 : Nat) (g33 : Nat) : Ct l yX8_restore cX8_restore 3 (some .int) 1 0 0 D T [.ref o, .int i] [(o, .inr (8, [.int (nI 0), .ref g1, .ref g2, .ref g3, .ref g4, .int (nI 0), .int (nI 0), .int (nI 0), .int (nI 0), .int (nI 0), .int (nI 0), .int (nI 0), .int (nI 0), .int (nI 0), .int (-1), .ref g15, .int (nI 0), .ref g17, .int (nI 0), .int (nI 0), .ref g20, .int (nI 0), .ref g22, .ref g23, .ref g24, .int (nI 0), .int (nI 0), .int (nI 0), .ref g28, .ref g29, .int (nI 0), .ref g31, .ref g32, .ref g33])), (g2, .inl (T 2, 2, .inl (fun _ => nI 0)))] (q_pm_restore T o i g1 g2 g3 g4 g15 g17 g20 g22 g23 g24 g28 g29 g31 g32 g33) := by
  refine Ct.of (cc := cX8_restore) (maxL := 3) (ret := (some .int)) (by decide) (Nat.le_of_ble_eq_true rfl) ?_
  intro p e s m args below meth c A ls hC hnm V hl
  obtain ⟨hx, hb, hr, hml, hown, hts, hlocks⟩ := id hC
  generalize hH : s.heap = H at V ⊢
  clear hH
  have hl : lv_has ls 3 [(0, .ref o), (1, .int i)] := hl
  generalize hlo : ([] : List Loc) = locs at V ⊢
  clear hlo
  refine lv_aload_n hx hb dX8_restore_0 rfl (lv_at hl 0 rfl) ?_
  refine lv_iconst (v := (nI 0)) hx hb dX8_restore_1 (by decide +kernel) ?_
  refine g_put hC V (ci := 8) uwX8 tyX8 tyX8_ok nmX8 0 rfl rfl 0 (by decide) w_912 rfl rfl rfl rfl (Nat.le_of_ble_eq_true rfl) (ws' := [(o, .inr (8, [.int (nI 0), .ref g1, .ref g2, .ref g3, .ref g4, .int (nI 0), .int (nI 0), .int (nI 0), .int (nI 0), .int (nI 0), .int (nI 0), .int (nI 0), .int (nI 0), .int (nI 0), .int (-1), .ref g15, .int (nI 0), .ref g17, .int (nI 0), .int (nI 0), .ref g20, .int (nI 0), .ref g22, .ref g23, .ref g24, .int (nI 0), .int (nI 0), .int (nI 0), .ref g28, .ref g29, .int (nI 0), .ref g31, .ref g32, .ref g33])), (g2, .inl (T 2, 2, .inl (fun _ => nI 0)))]) rfl dX8_restore_2 (fun H locs V => ?_)
  refine lv_iload_n hx hb dX8_restore_5 rfl (lv_at hl 1 rfl) ?_
  refine lv_i2l (v := i.toInt64) hx hb dX8_restore_6 rfl ?_
  refine lv_lconst (v := (nI 0).toInt64) hx hb dX8_restore_7 (by decide +kernel) ?_
  refine lv_lconst (v := (nI 1).toInt64) hx hb dX8_restore_8 (by decide +kernel) ?_
  refine g_callS (wr := [(o, .inr (8, [.int (nI 0), .ref g1, .ref g2, .ref g3, .ref g4, .int (nI 0), .int (nI 0), .int (nI 0), .int (nI 0), .int (nI 0), .int (nI 0), .int (nI 0), .int (nI 0), .int (nI 0), .int (-1), .ref g15, .int (nI 0), .ref g17, .int (nI 0), .int (nI 0), .ref g20, .int (nI 0), .ref g22, .ref g23, .ref g24, .int (nI 0), .int (nI 0), .int (nI 0), .ref g28, .ref g29, .int (nI 0), .ref g31, .ref g32, .ref g33])), (g2, .inl (T 2, 2, .inl (fun _ => nI 0)))]) (nA := 3) hC V hl.1 (c_within l D T i (nI 0) (nI 1)) w_1023 w_1024 w_9 w_1025 (by decide +kernel) rfl ⟨(Nat.le_of_ble_eq_true rfl), (Nat.le_of_ble_eq_true rfl)⟩ [] [0, 1] rfl rfl rfl rfl (by decide) (Nat.le_of_ble_eq_true rfl) dX8_restore_9 ⟨(Nat.le_of_ble_eq_true rfl), (Nat.le_of_ble_eq_true rfl)⟩ rfl (fun r w1 H locs hQ V => ?_)
  rcases hQ with ⟨rfl, rfl, f_1, f_2⟩ | ⟨rfl, rfl, f_3⟩
  · have V : gW D T A s [(o, .inr (8, [.int (nI 0), .ref g1, .ref g2, .ref g3, .ref g4, .int (nI 0), .int (nI 0), .int (nI 0), .int (nI 0), .int (nI 0), .int (nI 0), .int (nI 0), .int (nI 0), .int (nI 0), .int (-1), .ref g15, .int (nI 0), .ref g17, .int (nI 0), .int (nI 0), .ref g20, .int (nI 0), .ref g22, .ref g23, .ref g24, .int (nI 0), .int (nI 0), .int (nI 0), .ref g28, .ref g29, .int (nI 0), .ref g31, .ref g32, .ref g33])), (g2, .inl (T 2, 2, .inl (fun _ => nI 0)))] H locs := V
    show W p l e _ s m args below meth c H locs _ _ _ (F0 m 12 ls [.int (nI 1)])
    have r1_i : ¬ i < 0 := f_1
    have r2_i : ¬ nI 2 ≤ i := cv_r2 rfl (by decide) f_2
    obtain ⟨ij, hij, eij⟩ := g_idx (n := 2) (by decide) r1_i r2_i
    rw [eij] at hl
    refine lv_if_ne (tgt := 18) hx hb dX8_restore_12 (by decide) (fun _ => ?_) (fun c => absurd (show (nI 1) = 0 from c) (by decide +kernel))
    refine lv_aload_n hx hb dX8_restore_18 rfl (lv_at hl 0 rfl) ?_
    refine g_get hC V (ci := 8) uwX8 0 rfl rfl 2 (by decide) w_914 rfl rfl dX8_restore_19 ?_
    refine lv_iload_n hx hb dX8_restore_22 rfl (lv_at hl 1 rfl) ?_
    refine g_zald hC V 1 rfl (vp_in_nI (by omega) (by omega)) (v := (nI 0)) rfl dX8_restore_23 ?_
    refine lv_if_ne (tgt := 30) hx hb dX8_restore_24 (by decide) (fun c => absurd (show (nI 0) = 0 by decide +kernel) c) (fun _ => ?_)
    refine lv_bipush (v := (-5)) hx hb dX8_restore_27 (by decide +kernel) ?_
    have V := V.sub (ws' := []) [] rfl rfl
    exact g_iret (Qr := (q_pm_restore T o i g1 g2 g3 g4 g15 g17 g20 g22 g23 g24 g28 g29 g31 g32 g33)) hC V ⟨(Nat.le_of_ble_eq_true rfl), (Nat.le_of_ble_eq_true rfl)⟩ ⟨(-5), rfl, rfl, (by first | exact pf_restore_1 ‹_› | exact pf_restore_2 ‹_› ‹_›)⟩ dX8_restore_29
  · have V : gW D T A s [(o, .inr (8, [.int (nI 0), .ref g1, .ref g2, .ref g3, .ref g4, .int (nI 0), .int (nI 0), .int (nI 0), .int (nI 0), .int (nI 0), .int (nI 0), .int (nI 0), .int (nI 0), .int (nI 0), .int (-1), .ref g15, .int (nI 0), .ref g17, .int (nI 0), .int (nI 0), .ref g20, .int (nI 0), .ref g22, .ref g23, .ref g24, .int (nI 0), .int (nI 0), .int (nI 0), .ref g28, .ref g29, .int (nI 0), .ref g31, .ref g32, .ref g33])), (g2, .inl (T 2, 2, .inl (fun _ => nI 0)))] H locs := V
    show W p l e _ s m args below meth c H locs _ _ _ (F0 m 12 ls [.int (nI 0)])
    have r0_i : (i < 0 ∨ nI 2 ≤ i) := cv_r0 rfl (by decide) f_3
    refine lv_if_ne (tgt := 18) hx hb dX8_restore_12 (by decide) (fun c => absurd (show (nI 0) = 0 by decide +kernel) c) (fun _ => ?_)
    refine lv_bipush (v := (-2)) hx hb dX8_restore_15 (by decide +kernel) ?_
    have V := V.sub (ws' := []) [] rfl rfl
    exact g_iret (Qr := (q_pm_restore T o i g1 g2 g3 g4 g15 g17 g20 g22 g23 g24 g28 g29 g31 g32 g33)) hC V ⟨(Nat.le_of_ble_eq_true rfl), (Nat.le_of_ble_eq_true rfl)⟩ ⟨(-2), rfl, rfl, (by first | exact pf_restore_1 ‹_› | exact pf_restore_2 ‹_› ‹_›)⟩ dX8_restore_17

def q_pm_count (T : Nat → ClassId) (o : Nat) (wh : Int32) (g1 : Nat) (g2 : Nat) (g3 : Nat) (g4 : Nat) (g15 : Nat) (g17 : Nat) (g20 : Nat) (g22 : Nat) (g23 : Nat) (g24 : Nat) (g28 : Nat) (g29 : Nat) (g31 : Nat) (g32 : Nat) (g33 : Nat) : Option Value → va_W → Prop := fun rr ww => (∃ (z : Int32), rr = some (.int z) ∧ ww = [] ∧ z = pf_count wh)
set_option maxHeartbeats 4000000 in
set_option maxRecDepth 100000 in
theorem pm_count (l : Launch) (D : va_G) (T : Nat → ClassId) (o : Nat) (wh : Int32) (g1 : Nat) (g2 : Nat) (g3 : Nat) (g4 : Nat) (g15 : Nat) (g17 : Nat) (g20 : Nat) (g22 : Nat) (g23 : Nat) (g24 : Nat) (g28 : Nat) (g29 : Nat) (g31 : Nat) (g32 : Nat) (g33 : Nat) : Ct l yX8_count cX8_count 2 (some .int) 2 0 0 D T [.ref o, .int wh] [(o, .inr (8, [.int (nI 0), .ref g1, .ref g2, .ref g3, .ref g4, .int (nI 0), .int (nI 0), .int (nI 0), .int (nI 0), .int (nI 0), .int (nI 0), .int (nI 0), .int (nI 0), .int (nI 0), .int (-1), .ref g15, .int (nI 0), .ref g17, .int (nI 0), .int (nI 0), .ref g20, .int (nI 0), .ref g22, .ref g23, .ref g24, .int (nI 0), .int (nI 0), .int (nI 0), .ref g28, .ref g29, .int (nI 0), .ref g31, .ref g32, .ref g33])), (g1, .inl (T 0, 282, .inl (upd (fun _ => nI 0) 2 (nI 20))))] (q_pm_count T o wh g1 g2 g3 g4 g15 g17 g20 g22 g23 g24 g28 g29 g31 g32 g33) := by
  refine Ct.of (cc := cX8_count) (maxL := 2) (ret := (some .int)) (by decide) (Nat.le_of_ble_eq_true rfl) ?_
  intro p e s m args below meth c A ls hC hnm V hl
  obtain ⟨hx, hb, hr, hml, hown, hts, hlocks⟩ := id hC
  generalize hH : s.heap = H at V ⊢
  clear hH
  have hl : lv_has ls 2 [(0, .ref o), (1, .int wh)] := hl
  generalize hlo : ([] : List Loc) = locs at V ⊢
  clear hlo
  refine lv_aload_n hx hb dX8_count_0 rfl (lv_at hl 0 rfl) ?_
  refine lv_iconst (v := (nI 0)) hx hb dX8_count_1 (by decide +kernel) ?_
  refine g_put hC V (ci := 8) uwX8 tyX8 tyX8_ok nmX8 0 rfl rfl 0 (by decide) w_912 rfl rfl rfl rfl (Nat.le_of_ble_eq_true rfl) (ws' := [(o, .inr (8, [.int (nI 0), .ref g1, .ref g2, .ref g3, .ref g4, .int (nI 0), .int (nI 0), .int (nI 0), .int (nI 0), .int (nI 0), .int (nI 0), .int (nI 0), .int (nI 0), .int (nI 0), .int (-1), .ref g15, .int (nI 0), .ref g17, .int (nI 0), .int (nI 0), .ref g20, .int (nI 0), .ref g22, .ref g23, .ref g24, .int (nI 0), .int (nI 0), .int (nI 0), .ref g28, .ref g29, .int (nI 0), .ref g31, .ref g32, .ref g33])), (g1, .inl (T 0, 282, .inl (upd (fun _ => nI 0) 2 (nI 20))))]) rfl dX8_count_2 (fun H locs V => ?_)
  refine lv_iload_n hx hb dX8_count_5 rfl (lv_at hl 1 rfl) ?_
  by_cases c_10 : wh = (nI 0)
  · skip
    refine lv_tableIn (tgt := 56) (off := 50) hx hb dX8_count_6 (by first | decide +kernel | (rw [c_10]; decide +kernel)) (by first | decide +kernel | (rw [c_10]; decide +kernel)) (by first | decide +kernel | (rw [c_10]; decide +kernel)) (by decide) ?_
    refine lv_aload_n hx hb dX8_count_56 rfl (lv_at hl 0 rfl) ?_
    refine g_get hC V (ci := 8) uwX8 0 rfl rfl 1 (by decide) w_913 rfl rfl dX8_count_57 ?_
    refine lv_iconst (v := (nI 0)) hx hb dX8_count_60 (by decide +kernel) ?_
    refine g_iald hC V 1 rfl (vp_in_nI (by decide) (by decide)) (v := (nI 0)) (by rw [nI_clamp (by decide)]; rfl) dX8_count_61 ?_
    have V := V.sub (ws' := []) [] rfl rfl
    exact g_iret (Qr := (q_pm_count T o wh g1 g2 g3 g4 g15 g17 g20 g22 g23 g24 g28 g29 g31 g32 g33)) hC V ⟨(Nat.le_of_ble_eq_true rfl), (Nat.le_of_ble_eq_true rfl)⟩ ⟨(nI 0), rfl, rfl, (by first | exact pf_count_1 ‹_› | exact pf_count_2 ‹_› | exact pf_count_3 ‹_› | exact pf_count_4 ‹_› | exact pf_count_5 ‹_› | exact pf_count_6 ‹_› | exact pf_count_7 ‹_› | exact pf_count_8 ‹_› | exact pf_count_9 ‹_› | exact pf_count_10 ‹_› ‹_› ‹_› ‹_› ‹_› ‹_› ‹_› ‹_› ‹_›)⟩ dX8_count_62
  by_cases c_11 : wh = (nI 1)
  · skip
    refine lv_tableIn (tgt := 63) (off := 57) hx hb dX8_count_6 (by first | decide +kernel | (rw [c_11]; decide +kernel)) (by first | decide +kernel | (rw [c_11]; decide +kernel)) (by first | decide +kernel | (rw [c_11]; decide +kernel)) (by decide) ?_
    refine lv_aload_n hx hb dX8_count_63 rfl (lv_at hl 0 rfl) ?_
    refine g_get hC V (ci := 8) uwX8 0 rfl rfl 1 (by decide) w_913 rfl rfl dX8_count_64 ?_
    refine lv_iconst (v := (nI 1)) hx hb dX8_count_67 (by decide +kernel) ?_
    refine g_iald hC V 1 rfl (vp_in_nI (by decide) (by decide)) (v := (nI 0)) (by rw [nI_clamp (by decide)]; rfl) dX8_count_68 ?_
    have V := V.sub (ws' := []) [] rfl rfl
    exact g_iret (Qr := (q_pm_count T o wh g1 g2 g3 g4 g15 g17 g20 g22 g23 g24 g28 g29 g31 g32 g33)) hC V ⟨(Nat.le_of_ble_eq_true rfl), (Nat.le_of_ble_eq_true rfl)⟩ ⟨(nI 0), rfl, rfl, (by first | exact pf_count_1 ‹_› | exact pf_count_2 ‹_› | exact pf_count_3 ‹_› | exact pf_count_4 ‹_› | exact pf_count_5 ‹_› | exact pf_count_6 ‹_› | exact pf_count_7 ‹_› | exact pf_count_8 ‹_› | exact pf_count_9 ‹_› | exact pf_count_10 ‹_› ‹_› ‹_› ‹_› ‹_› ‹_› ‹_› ‹_› ‹_›)⟩ dX8_count_69
  by_cases c_12 : wh = (nI 2)
  · skip
    refine lv_tableIn (tgt := 70) (off := 64) hx hb dX8_count_6 (by first | decide +kernel | (rw [c_12]; decide +kernel)) (by first | decide +kernel | (rw [c_12]; decide +kernel)) (by first | decide +kernel | (rw [c_12]; decide +kernel)) (by decide) ?_
    refine lv_aload_n hx hb dX8_count_70 rfl (lv_at hl 0 rfl) ?_
    refine g_callV (wr := []) (nA := 0) hC V hl.1 (m_doneMany l D T o (nI 0) g1 g2 g3 g4 (nI 0) (nI 0) (nI 0) (nI 0) (nI 0) (nI 0) (nI 0) (nI 0) (nI 0) (-1) g15 (nI 0) g17 (nI 0) (nI 0) g20 (nI 0) g22 g23 g24 (nI 0) (nI 0) (nI 0) g28 g29 (nI 0) g31 g32 g33 (upd (fun _ => nI 0) 2 (nI 20)) (by first | rfl | assumption | omega | decide)) w_1158 w_1160 w_s56 w_9 w_1161 (by decide +kernel) rfl ⟨(Nat.le_of_ble_eq_true rfl), (Nat.le_of_ble_eq_true rfl)⟩ 0 (ci := 8) rfl rfl [0, 1] [] rfl rfl rfl rfl (by decide) (Nat.le_of_ble_eq_true rfl) dX8_count_71 ⟨(Nat.le_of_ble_eq_true rfl), (Nat.le_of_ble_eq_true rfl)⟩ rfl (fun r w1 H locs hQ V => ?_)
    obtain ⟨rfl, rfl⟩ := hQ
    have V : gW D T A s [(o, .inr (8, [.int (nI 0), .ref g1, .ref g2, .ref g3, .ref g4, .int (nI 0), .int (nI 0), .int (nI 0), .int (nI 0), .int (nI 0), .int (nI 0), .int (nI 0), .int (nI 0), .int (nI 0), .int (-1), .ref g15, .int (nI 0), .ref g17, .int (nI 0), .int (nI 0), .ref g20, .int (nI 0), .ref g22, .ref g23, .ref g24, .int (nI 0), .int (nI 0), .int (nI 0), .ref g28, .ref g29, .int (nI 0), .ref g31, .ref g32, .ref g33])), (g1, .inl (T 0, 282, .inl (upd (fun _ => nI 0) 2 (nI 20))))] H locs := V
    show W p l e _ s m args below meth c H locs _ _ _ (F0 m 74 ls [.int (nI 0)])
    have V := V.sub (ws' := []) [] rfl rfl
    exact g_iret (Qr := (q_pm_count T o wh g1 g2 g3 g4 g15 g17 g20 g22 g23 g24 g28 g29 g31 g32 g33)) hC V ⟨(Nat.le_of_ble_eq_true rfl), (Nat.le_of_ble_eq_true rfl)⟩ ⟨(nI 0), rfl, rfl, (by first | exact pf_count_1 ‹_› | exact pf_count_2 ‹_› | exact pf_count_3 ‹_› | exact pf_count_4 ‹_› | exact pf_count_5 ‹_› | exact pf_count_6 ‹_› | exact pf_count_7 ‹_› | exact pf_count_8 ‹_› | exact pf_count_9 ‹_› | exact pf_count_10 ‹_› ‹_› ‹_› ‹_› ‹_› ‹_› ‹_› ‹_› ‹_›)⟩ dX8_count_74
  by_cases c_13 : wh = (nI 3)
  · skip
    refine lv_tableIn (tgt := 75) (off := 69) hx hb dX8_count_6 (by first | decide +kernel | (rw [c_13]; decide +kernel)) (by first | decide +kernel | (rw [c_13]; decide +kernel)) (by first | decide +kernel | (rw [c_13]; decide +kernel)) (by decide) ?_
    refine lv_aload_n hx hb dX8_count_75 rfl (lv_at hl 0 rfl) ?_
    refine lv_bipush (v := (nI 74)) hx hb dX8_count_76 (by decide +kernel) ?_
    refine g_callV (wr := []) (nA := 1) hC V hl.1 (m_sumOf l D T o (nI 74) (nI 0) g1 g2 g3 g4 (nI 0) (nI 0) (nI 0) (nI 0) (nI 0) (nI 0) (nI 0) (nI 0) (nI 0) (-1) g15 (nI 0) g17 (nI 0) (nI 0) g20 (nI 0) g22 g23 g24 (nI 0) (nI 0) (nI 0) g28 g29 (nI 0) g31 g32 g33 (upd (fun _ => nI 0) 2 (nI 20)) (by first | rfl | assumption | omega | decide)) w_1403 w_1405 w_s81 w_9 w_1406 (by decide +kernel) rfl ⟨(Nat.le_of_ble_eq_true rfl), (Nat.le_of_ble_eq_true rfl)⟩ 0 (ci := 8) rfl rfl [0, 1] [] rfl rfl rfl rfl (by decide) (Nat.le_of_ble_eq_true rfl) dX8_count_78 ⟨(Nat.le_of_ble_eq_true rfl), (Nat.le_of_ble_eq_true rfl)⟩ rfl (fun r w1 H locs hQ V => ?_)
    obtain ⟨rfl, rfl⟩ := hQ
    have V : gW D T A s [(o, .inr (8, [.int (nI 0), .ref g1, .ref g2, .ref g3, .ref g4, .int (nI 0), .int (nI 0), .int (nI 0), .int (nI 0), .int (nI 0), .int (nI 0), .int (nI 0), .int (nI 0), .int (nI 0), .int (-1), .ref g15, .int (nI 0), .ref g17, .int (nI 0), .int (nI 0), .ref g20, .int (nI 0), .ref g22, .ref g23, .ref g24, .int (nI 0), .int (nI 0), .int (nI 0), .ref g28, .ref g29, .int (nI 0), .ref g31, .ref g32, .ref g33])), (g1, .inl (T 0, 282, .inl (upd (fun _ => nI 0) 2 (nI 20))))] H locs := V
    show W p l e _ s m args below meth c H locs _ _ _ (F0 m 81 ls [.int (nI 0)])
    have V := V.sub (ws' := []) [] rfl rfl
    exact g_iret (Qr := (q_pm_count T o wh g1 g2 g3 g4 g15 g17 g20 g22 g23 g24 g28 g29 g31 g32 g33)) hC V ⟨(Nat.le_of_ble_eq_true rfl), (Nat.le_of_ble_eq_true rfl)⟩ ⟨(nI 0), rfl, rfl, (by first | exact pf_count_1 ‹_› | exact pf_count_2 ‹_› | exact pf_count_3 ‹_› | exact pf_count_4 ‹_› | exact pf_count_5 ‹_› | exact pf_count_6 ‹_› | exact pf_count_7 ‹_› | exact pf_count_8 ‹_› | exact pf_count_9 ‹_› | exact pf_count_10 ‹_› ‹_› ‹_› ‹_› ‹_› ‹_› ‹_› ‹_› ‹_›)⟩ dX8_count_81
  by_cases c_14 : wh = (nI 4)
  · skip
    refine lv_tableIn (tgt := 82) (off := 76) hx hb dX8_count_6 (by first | decide +kernel | (rw [c_14]; decide +kernel)) (by first | decide +kernel | (rw [c_14]; decide +kernel)) (by first | decide +kernel | (rw [c_14]; decide +kernel)) (by decide) ?_
    refine lv_aload_n hx hb dX8_count_82 rfl (lv_at hl 0 rfl) ?_
    refine g_callV (wr := []) (nA := 0) hC V hl.1 (m_warmOnes l D T o (nI 0) g1 g2 g3 g4 (nI 0) (nI 0) (nI 0) (nI 0) (nI 0) (nI 0) (nI 0) (nI 0) (nI 0) (-1) g15 (nI 0) g17 (nI 0) (nI 0) g20 (nI 0) g22 g23 g24 (nI 0) (nI 0) (nI 0) g28 g29 (nI 0) g31 g32 g33 (upd (fun _ => nI 0) 2 (nI 20)) (by first | rfl | assumption | omega | decide)) w_1407 w_1409 w_s82 w_9 w_1410 (by decide +kernel) rfl ⟨(Nat.le_of_ble_eq_true rfl), (Nat.le_of_ble_eq_true rfl)⟩ 0 (ci := 8) rfl rfl [0, 1] [] rfl rfl rfl rfl (by decide) (Nat.le_of_ble_eq_true rfl) dX8_count_83 ⟨(Nat.le_of_ble_eq_true rfl), (Nat.le_of_ble_eq_true rfl)⟩ rfl (fun r w1 H locs hQ V => ?_)
    obtain ⟨rfl, rfl⟩ := hQ
    have V : gW D T A s [(o, .inr (8, [.int (nI 0), .ref g1, .ref g2, .ref g3, .ref g4, .int (nI 0), .int (nI 0), .int (nI 0), .int (nI 0), .int (nI 0), .int (nI 0), .int (nI 0), .int (nI 0), .int (nI 0), .int (-1), .ref g15, .int (nI 0), .ref g17, .int (nI 0), .int (nI 0), .ref g20, .int (nI 0), .ref g22, .ref g23, .ref g24, .int (nI 0), .int (nI 0), .int (nI 0), .ref g28, .ref g29, .int (nI 0), .ref g31, .ref g32, .ref g33])), (g1, .inl (T 0, 282, .inl (upd (fun _ => nI 0) 2 (nI 20))))] H locs := V
    show W p l e _ s m args below meth c H locs _ _ _ (F0 m 86 ls [.int (nI 0)])
    have V := V.sub (ws' := []) [] rfl rfl
    exact g_iret (Qr := (q_pm_count T o wh g1 g2 g3 g4 g15 g17 g20 g22 g23 g24 g28 g29 g31 g32 g33)) hC V ⟨(Nat.le_of_ble_eq_true rfl), (Nat.le_of_ble_eq_true rfl)⟩ ⟨(nI 0), rfl, rfl, (by first | exact pf_count_1 ‹_› | exact pf_count_2 ‹_› | exact pf_count_3 ‹_› | exact pf_count_4 ‹_› | exact pf_count_5 ‹_› | exact pf_count_6 ‹_› | exact pf_count_7 ‹_› | exact pf_count_8 ‹_› | exact pf_count_9 ‹_› | exact pf_count_10 ‹_› ‹_› ‹_› ‹_› ‹_› ‹_› ‹_› ‹_› ‹_›)⟩ dX8_count_86
  by_cases c_15 : wh = (nI 5)
  · skip
    refine lv_tableIn (tgt := 87) (off := 81) hx hb dX8_count_6 (by first | decide +kernel | (rw [c_15]; decide +kernel)) (by first | decide +kernel | (rw [c_15]; decide +kernel)) (by first | decide +kernel | (rw [c_15]; decide +kernel)) (by decide) ?_
    refine lv_aload_n hx hb dX8_count_87 rfl (lv_at hl 0 rfl) ?_
    refine lv_bipush (v := (nI 24)) hx hb dX8_count_88 (by decide +kernel) ?_
    refine g_callV (wr := []) (nA := 1) hC V hl.1 (m_sumOf l D T o (nI 24) (nI 0) g1 g2 g3 g4 (nI 0) (nI 0) (nI 0) (nI 0) (nI 0) (nI 0) (nI 0) (nI 0) (nI 0) (-1) g15 (nI 0) g17 (nI 0) (nI 0) g20 (nI 0) g22 g23 g24 (nI 0) (nI 0) (nI 0) g28 g29 (nI 0) g31 g32 g33 (upd (fun _ => nI 0) 2 (nI 20)) (by first | rfl | assumption | omega | decide)) w_1403 w_1405 w_s81 w_9 w_1406 (by decide +kernel) rfl ⟨(Nat.le_of_ble_eq_true rfl), (Nat.le_of_ble_eq_true rfl)⟩ 0 (ci := 8) rfl rfl [0, 1] [] rfl rfl rfl rfl (by decide) (Nat.le_of_ble_eq_true rfl) dX8_count_90 ⟨(Nat.le_of_ble_eq_true rfl), (Nat.le_of_ble_eq_true rfl)⟩ rfl (fun r w1 H locs hQ V => ?_)
    obtain ⟨rfl, rfl⟩ := hQ
    have V : gW D T A s [(o, .inr (8, [.int (nI 0), .ref g1, .ref g2, .ref g3, .ref g4, .int (nI 0), .int (nI 0), .int (nI 0), .int (nI 0), .int (nI 0), .int (nI 0), .int (nI 0), .int (nI 0), .int (nI 0), .int (-1), .ref g15, .int (nI 0), .ref g17, .int (nI 0), .int (nI 0), .ref g20, .int (nI 0), .ref g22, .ref g23, .ref g24, .int (nI 0), .int (nI 0), .int (nI 0), .ref g28, .ref g29, .int (nI 0), .ref g31, .ref g32, .ref g33])), (g1, .inl (T 0, 282, .inl (upd (fun _ => nI 0) 2 (nI 20))))] H locs := V
    show W p l e _ s m args below meth c H locs _ _ _ (F0 m 93 ls [.int (nI 0)])
    have V := V.sub (ws' := []) [] rfl rfl
    exact g_iret (Qr := (q_pm_count T o wh g1 g2 g3 g4 g15 g17 g20 g22 g23 g24 g28 g29 g31 g32 g33)) hC V ⟨(Nat.le_of_ble_eq_true rfl), (Nat.le_of_ble_eq_true rfl)⟩ ⟨(nI 0), rfl, rfl, (by first | exact pf_count_1 ‹_› | exact pf_count_2 ‹_› | exact pf_count_3 ‹_› | exact pf_count_4 ‹_› | exact pf_count_5 ‹_› | exact pf_count_6 ‹_› | exact pf_count_7 ‹_› | exact pf_count_8 ‹_› | exact pf_count_9 ‹_› | exact pf_count_10 ‹_› ‹_› ‹_› ‹_› ‹_› ‹_› ‹_› ‹_› ‹_›)⟩ dX8_count_93
  by_cases c_16 : wh = (nI 6)
  · skip
    refine lv_tableIn (tgt := 94) (off := 88) hx hb dX8_count_6 (by first | decide +kernel | (rw [c_16]; decide +kernel)) (by first | decide +kernel | (rw [c_16]; decide +kernel)) (by first | decide +kernel | (rw [c_16]; decide +kernel)) (by decide) ?_
    refine lv_aload_n hx hb dX8_count_94 rfl (lv_at hl 0 rfl) ?_
    refine g_get hC V (ci := 8) uwX8 0 rfl rfl 5 (by decide) w_917 rfl rfl dX8_count_95 ?_
    have V := V.sub (ws' := []) [] rfl rfl
    exact g_iret (Qr := (q_pm_count T o wh g1 g2 g3 g4 g15 g17 g20 g22 g23 g24 g28 g29 g31 g32 g33)) hC V ⟨(Nat.le_of_ble_eq_true rfl), (Nat.le_of_ble_eq_true rfl)⟩ ⟨(nI 0), rfl, rfl, (by first | exact pf_count_1 ‹_› | exact pf_count_2 ‹_› | exact pf_count_3 ‹_› | exact pf_count_4 ‹_› | exact pf_count_5 ‹_› | exact pf_count_6 ‹_› | exact pf_count_7 ‹_› | exact pf_count_8 ‹_› | exact pf_count_9 ‹_› | exact pf_count_10 ‹_› ‹_› ‹_› ‹_› ‹_› ‹_› ‹_› ‹_› ‹_›)⟩ dX8_count_98
  by_cases c_17 : wh = (nI 7)
  · skip
    refine lv_tableIn (tgt := 99) (off := 93) hx hb dX8_count_6 (by first | decide +kernel | (rw [c_17]; decide +kernel)) (by first | decide +kernel | (rw [c_17]; decide +kernel)) (by first | decide +kernel | (rw [c_17]; decide +kernel)) (by decide) ?_
    refine lv_aload_n hx hb dX8_count_99 rfl (lv_at hl 0 rfl) ?_
    refine g_get hC V (ci := 8) uwX8 0 rfl rfl 1 (by decide) w_913 rfl rfl dX8_count_100 ?_
    refine lv_iconst (v := (nI 3)) hx hb dX8_count_103 (by decide +kernel) ?_
    refine g_iald hC V 1 rfl (vp_in_nI (by decide) (by decide)) (v := (nI 0)) (by rw [nI_clamp (by decide)]; rfl) dX8_count_104 ?_
    have V := V.sub (ws' := []) [] rfl rfl
    exact g_iret (Qr := (q_pm_count T o wh g1 g2 g3 g4 g15 g17 g20 g22 g23 g24 g28 g29 g31 g32 g33)) hC V ⟨(Nat.le_of_ble_eq_true rfl), (Nat.le_of_ble_eq_true rfl)⟩ ⟨(nI 0), rfl, rfl, (by first | exact pf_count_1 ‹_› | exact pf_count_2 ‹_› | exact pf_count_3 ‹_› | exact pf_count_4 ‹_› | exact pf_count_5 ‹_› | exact pf_count_6 ‹_› | exact pf_count_7 ‹_› | exact pf_count_8 ‹_› | exact pf_count_9 ‹_› | exact pf_count_10 ‹_› ‹_› ‹_› ‹_› ‹_› ‹_› ‹_› ‹_› ‹_›)⟩ dX8_count_105
  by_cases c_18 : wh = (nI 8)
  · skip
    refine lv_tableIn (tgt := 106) (off := 100) hx hb dX8_count_6 (by first | decide +kernel | (rw [c_18]; decide +kernel)) (by first | decide +kernel | (rw [c_18]; decide +kernel)) (by first | decide +kernel | (rw [c_18]; decide +kernel)) (by decide) ?_
    refine lv_aload_n hx hb dX8_count_106 rfl (lv_at hl 0 rfl) ?_
    refine g_get hC V (ci := 8) uwX8 0 rfl rfl 1 (by decide) w_913 rfl rfl dX8_count_107 ?_
    refine lv_iconst (v := (nI 2)) hx hb dX8_count_110 (by decide +kernel) ?_
    refine g_iald hC V 1 rfl (vp_in_nI (by decide) (by decide)) (v := (nI 20)) (by rw [nI_clamp (by decide)]; rfl) dX8_count_111 ?_
    have V := V.sub (ws' := []) [] rfl rfl
    exact g_iret (Qr := (q_pm_count T o wh g1 g2 g3 g4 g15 g17 g20 g22 g23 g24 g28 g29 g31 g32 g33)) hC V ⟨(Nat.le_of_ble_eq_true rfl), (Nat.le_of_ble_eq_true rfl)⟩ ⟨(nI 20), rfl, rfl, (by first | exact pf_count_1 ‹_› | exact pf_count_2 ‹_› | exact pf_count_3 ‹_› | exact pf_count_4 ‹_› | exact pf_count_5 ‹_› | exact pf_count_6 ‹_› | exact pf_count_7 ‹_› | exact pf_count_8 ‹_› | exact pf_count_9 ‹_› | exact pf_count_10 ‹_› ‹_› ‹_› ‹_› ‹_› ‹_› ‹_› ‹_› ‹_›)⟩ dX8_count_112
  refine lv_tableOut (tgt := 113) hx hb dX8_count_6 (g_out 0 8 (fun k h1 h2 => ?_)) (by decide) ?_
  · intro h
    have h3 : k = 0 ∨ k = 1 ∨ k = 2 ∨ k = 3 ∨ k = 4 ∨ k = 5 ∨ k = 6 ∨ k = 7 ∨ k = 8 := by omega
    rcases h3 with rfl | rfl | rfl | rfl | rfl | rfl | rfl | rfl | rfl
    · exact c_10 (g_out2 h (by decide +kernel))
    · exact c_11 (g_out2 h (by decide +kernel))
    · exact c_12 (g_out2 h (by decide +kernel))
    · exact c_13 (g_out2 h (by decide +kernel))
    · exact c_14 (g_out2 h (by decide +kernel))
    · exact c_15 (g_out2 h (by decide +kernel))
    · exact c_16 (g_out2 h (by decide +kernel))
    · exact c_17 (g_out2 h (by decide +kernel))
    · exact c_18 (g_out2 h (by decide +kernel))
  refine lv_iconst (v := (-1)) hx hb dX8_count_113 (by decide +kernel) ?_
  have V := V.sub (ws' := []) [] rfl rfl
  exact g_iret (Qr := (q_pm_count T o wh g1 g2 g3 g4 g15 g17 g20 g22 g23 g24 g28 g29 g31 g32 g33)) hC V ⟨(Nat.le_of_ble_eq_true rfl), (Nat.le_of_ble_eq_true rfl)⟩ ⟨(-1), rfl, rfl, (by first | exact pf_count_1 ‹_› | exact pf_count_2 ‹_› | exact pf_count_3 ‹_› | exact pf_count_4 ‹_› | exact pf_count_5 ‹_› | exact pf_count_6 ‹_› | exact pf_count_7 ‹_› | exact pf_count_8 ‹_› | exact pf_count_9 ‹_› | exact pf_count_10 ‹_› ‹_› ‹_› ‹_› ‹_› ‹_› ‹_› ‹_› ‹_›)⟩ dX8_count_114
