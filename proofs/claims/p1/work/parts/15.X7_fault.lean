def q_X7_fault (T : Nat → ClassId) (o : Nat) (wh : Int32) (n0 : Nat) (s0 : Nat) (im : Nat) (iz : Nat) (rw : Nat) (t0 : Nat) (u0 : Nat) (h0 : Nat) (y0 : Nat) (t1 : Nat) : Option Value → va_W → Prop := fun rr ww => (∃ (z : Int32), rr = some (.int z) ∧ ww = [] ∧ z = pf_fault wh)
set_option maxHeartbeats 4000000 in
set_option maxRecDepth 100000 in
theorem p_X7_fault (l : Launch) (D : va_G) (T : Nat → ClassId) (o : Nat) (wh : Int32) (n0 : Nat) (s0 : Nat) (im : Nat) (iz : Nat) (rw : Nat) (t0 : Nat) (u0 : Nat) (h0 : Nat) (y0 : Nat) (t1 : Nat) : Ct l yX7_fault cX7_fault 2 (some .int) 0 0 0 D T [.ref o, .int wh] [(o, .inr (7, [.ref n0, .ref s0, .ref im, .ref iz, .ref rw, .ref t0, .ref u0, .ref h0, .ref y0, .null])), (t0, .inr (2, [.int (nI 0), .int (nI 0), .int (-1), .ref t1, .int (nI 0), .int (nI 0), .int (nI 0), .int (nI 0)]))] (q_X7_fault T o wh n0 s0 im iz rw t0 u0 h0 y0 t1) := by
  refine Ct.of (cc := cX7_fault) (maxL := 2) (ret := (some .int)) (by decide) (Nat.le_of_ble_eq_true rfl) ?_
  intro p e s m args below meth c A ls hC hnm V hl
  obtain ⟨hx, hb, hr, hml, hown, hts, hlocks⟩ := id hC
  generalize hH : s.heap = H at V ⊢
  clear hH
  have hl : lv_has ls 2 [(0, .ref o), (1, .int wh)] := hl
  generalize hlo : ([] : List Loc) = locs at V ⊢
  clear hlo
  refine lv_iload_n hx hb dX7_fault_0 rfl (lv_at hl 1 rfl) ?_
  by_cases c_10 : wh = (nI 0)
  · skip
    refine lv_lookup (tgt := 28) (off := 27) hx hb dX7_fault_1 (by decide +kernel) (by rw [c_10]; decide +kernel) (by decide) ?_
    refine lv_aload_n hx hb dX7_fault_28 rfl (lv_at hl 0 rfl) ?_
    refine g_get hC V (ci := 7) uwX7 0 rfl rfl 5 (by decide) w_254 rfl rfl dX7_fault_29 ?_
    refine g_get hC V (ci := 2) uwX2 1 rfl rfl 1 (by decide) w_131 rfl rfl dX7_fault_32 ?_
    have V := V.sub (ws' := []) [] rfl rfl
    exact g_iret (Qr := (q_X7_fault T o wh n0 s0 im iz rw t0 u0 h0 y0 t1)) hC V ⟨(Nat.le_of_ble_eq_true rfl), (Nat.le_of_ble_eq_true rfl)⟩ ⟨(nI 0), rfl, rfl, (by first | exact pf_fault_1 ‹_› | exact pf_fault_2 ‹_›)⟩ dX7_fault_35
  by_cases c_11 : wh = (nI 1)
  · skip
    refine lv_lookup (tgt := 36) (off := 35) hx hb dX7_fault_1 (by decide +kernel) (by rw [c_11]; decide +kernel) (by decide) ?_
    have c10b : ¬ wh = nI 0 := by assumption
    refine lv_aload_n hx hb dX7_fault_36 rfl (lv_at hl 0 rfl) ?_
    refine g_get hC V (ci := 7) uwX7 0 rfl rfl 5 (by decide) w_254 rfl rfl dX7_fault_37 ?_
    refine g_get hC V (ci := 2) uwX2 1 rfl rfl 2 (by decide) w_133 rfl rfl dX7_fault_40 ?_
    have V := V.sub (ws' := []) [] rfl rfl
    exact g_iret (Qr := (q_X7_fault T o wh n0 s0 im iz rw t0 u0 h0 y0 t1)) hC V ⟨(Nat.le_of_ble_eq_true rfl), (Nat.le_of_ble_eq_true rfl)⟩ ⟨(-1), rfl, rfl, (by first | exact pf_fault_1 ‹_› | exact pf_fault_2 ‹_›)⟩ dX7_fault_43
  refine lv_lookup (tgt := 44) (off := 43) hx hb dX7_fault_1 (by decide +kernel) (by have h0 : ¬ (0 : Int) = (wh).toInt := fun h => c_10 (g_out2 h.symm (by decide +kernel)); have h1 : ¬ (1 : Int) = (wh).toInt := fun h => c_11 (g_out2 h.symm (by decide +kernel)); simp [Op.lookupswitch.offset, h0, h1]) (by decide) ?_
  refine lv_iconst (v := (-1)) hx hb dX7_fault_44 (by decide +kernel) ?_
  have V := V.sub (ws' := []) [] rfl rfl
  exact g_iret (Qr := (q_X7_fault T o wh n0 s0 im iz rw t0 u0 h0 y0 t1)) hC V ⟨(Nat.le_of_ble_eq_true rfl), (Nat.le_of_ble_eq_true rfl)⟩ ⟨(-1), rfl, rfl, (by first | exact pf_fault_1 ‹_› | exact pf_fault_2 ‹_›)⟩ dX7_fault_45
