def q_X7_copy (T : Nat → ClassId) (o : Nat) (row : Int32) (n0 : Nat) (s0 : Nat) (im : Nat) (iz : Nat) (rw : Nat) (t0 : Nat) (u0 : Nat) (h0 : Nat) (y0 : Nat) (ra0 : Nat) (rb0 : Nat) (rc0 : Nat) (rd0 : Nat) (ra1 : Nat) (rb1 : Nat) (rc1 : Nat) (rd1 : Nat) : Option Value → va_W → Prop := fun rr ww => (∃ (z : Int32), rr = some (.int z) ∧ ww = [] ∧ z = pf_row row)
set_option maxHeartbeats 4000000 in
set_option maxRecDepth 100000 in
theorem p_X7_copy (l : Launch) (D : va_G) (T : Nat → ClassId) (o : Nat) (row : Int32) (n0 : Nat) (s0 : Nat) (im : Nat) (iz : Nat) (rw : Nat) (t0 : Nat) (u0 : Nat) (h0 : Nat) (y0 : Nat) (ra0 : Nat) (rb0 : Nat) (rc0 : Nat) (rd0 : Nat) (ra1 : Nat) (rb1 : Nat) (rc1 : Nat) (rd1 : Nat) : Ct l yX7_copy cX7_copy 4 (some .int) 2 0 0 D T [.ref o, .int row] [(o, .inr (7, [.ref n0, .ref s0, .ref im, .ref iz, .ref rw, .ref t0, .ref u0, .ref h0, .ref y0, .null])), (rw, .inl (T 5, 4, .inr (.inr (.inr (.inr (va_up (va_up (va_up (va_up (fun _ => none) 0 (some ra0)) 1 (some rb0)) 2 (some rc0)) 3 (some rd0))))))), (ra0, .inr (1, [.int (nI 0), .int (nI 0), .ref ra1, .int (nI 0)])), (ra1, .inl (T 1, 40, .inr (.inl (fun _ => 0)))), (rb0, .inr (1, [.int (nI 0), .int (nI 0), .ref rb1, .int (nI 0)])), (rb1, .inl (T 1, 40, .inr (.inl (fun _ => 0)))), (rc0, .inr (1, [.int (nI 0), .int (nI 0), .ref rc1, .int (nI 0)])), (rc1, .inl (T 1, 40, .inr (.inl (fun _ => 0)))), (rd0, .inr (1, [.int (nI 0), .int (nI 0), .ref rd1, .int (nI 0)])), (rd1, .inl (T 1, 40, .inr (.inl (fun _ => 0))))] (q_X7_copy T o row n0 s0 im iz rw t0 u0 h0 y0 ra0 rb0 rc0 rd0 ra1 rb1 rc1 rd1) := by
  refine Ct.of (cc := cX7_copy) (maxL := 4) (ret := (some .int)) (by decide) (Nat.le_of_ble_eq_true rfl) ?_
  intro p e s m args below meth c A ls hC hnm V hl
  obtain ⟨hx, hb, hr, hml, hown, hts, hlocks⟩ := id hC
  generalize hH : s.heap = H at V ⊢
  clear hH
  have hl : lv_has ls 4 [(0, .ref o), (1, .int row)] := hl
  generalize hlo : ([] : List Loc) = locs at V ⊢
  clear hlo
  refine lv_aload_n hx hb dX7_copy_0 rfl (lv_at hl 0 rfl) ?_
  refine lv_iload_n hx hb dX7_copy_1 rfl (lv_at hl 1 rfl) ?_
  refine g_callV (wr := []) (nA := 1) hC V hl.1 (c_refusedRow l D T o row n0 s0 im iz rw t0 u0 h0 y0 ra0 rb0 rc0 rd0 ra1 rb1 rc1 rd1) w_524 w_526 w_s11 w_2 w_527 (by decide +kernel) rfl ⟨(Nat.le_of_ble_eq_true rfl), (Nat.le_of_ble_eq_true rfl)⟩ 0 (ci := 7) rfl rfl [0, 1, 2, 3, 4, 5, 6, 7, 8, 9] [] rfl rfl rfl rfl (by decide) (Nat.le_of_ble_eq_true rfl) dX7_copy_2 ⟨(Nat.le_of_ble_eq_true rfl), (Nat.le_of_ble_eq_true rfl)⟩ rfl (fun r w1 H locs hQ V => ?_)
  rcases hQ with ⟨rfl, rfl, f_1⟩ | ⟨rfl, rfl, f_2, f_3⟩
  · have V : gW D T A s [(o, .inr (7, [.ref n0, .ref s0, .ref im, .ref iz, .ref rw, .ref t0, .ref u0, .ref h0, .ref y0, .null])), (rw, .inl (T 5, 4, .inr (.inr (.inr (.inr (va_up (va_up (va_up (va_up (fun _ => none) 0 (some ra0)) 1 (some rb0)) 2 (some rc0)) 3 (some rd0))))))), (ra0, .inr (1, [.int (nI 0), .int (nI 0), .ref ra1, .int (nI 0)])), (ra1, .inl (T 1, 40, .inr (.inl (fun _ => 0)))), (rb0, .inr (1, [.int (nI 0), .int (nI 0), .ref rb1, .int (nI 0)])), (rb1, .inl (T 1, 40, .inr (.inl (fun _ => 0)))), (rc0, .inr (1, [.int (nI 0), .int (nI 0), .ref rc1, .int (nI 0)])), (rc1, .inl (T 1, 40, .inr (.inl (fun _ => 0)))), (rd0, .inr (1, [.int (nI 0), .int (nI 0), .ref rd1, .int (nI 0)])), (rd1, .inl (T 1, 40, .inr (.inl (fun _ => 0))))] H locs := V
    show W p l e _ s m args below meth c H locs _ _ _ (F0 m 5 ls [.int (-2)])
    refine lv_istore_n (lv' := [(2, .int (-2)), (0, .ref o), (1, .int row)]) hx hb dX7_copy_5 rfl hl (by decide) rfl (fun ls hl => ?_)
    refine lv_iload_n hx hb dX7_copy_6 rfl (lv_at hl 0 rfl) ?_
    refine lv_if_eq (tgt := 12) hx hb dX7_copy_7 (by decide) (fun c => absurd (show (-2 : Int32) = 0 from c) (by decide +kernel)) (fun _ => ?_)
    refine lv_iload_n hx hb dX7_copy_10 rfl (lv_at hl 0 rfl) ?_
    have V := V.sub (ws' := []) [] rfl rfl
    exact g_iret (Qr := (q_X7_copy T o row n0 s0 im iz rw t0 u0 h0 y0 ra0 rb0 rc0 rd0 ra1 rb1 rc1 rd1)) hC V ⟨(Nat.le_of_ble_eq_true rfl), (Nat.le_of_ble_eq_true rfl)⟩ ⟨(-2), rfl, rfl, (by first | exact pf_row_1 ‹_› | exact pf_row_2 ‹_› ‹_›)⟩ dX7_copy_11
  · have V : gW D T A s [(o, .inr (7, [.ref n0, .ref s0, .ref im, .ref iz, .ref rw, .ref t0, .ref u0, .ref h0, .ref y0, .null])), (rw, .inl (T 5, 4, .inr (.inr (.inr (.inr (va_up (va_up (va_up (va_up (fun _ => none) 0 (some ra0)) 1 (some rb0)) 2 (some rc0)) 3 (some rd0))))))), (ra0, .inr (1, [.int (nI 0), .int (nI 0), .ref ra1, .int (nI 0)])), (ra1, .inl (T 1, 40, .inr (.inl (fun _ => 0)))), (rb0, .inr (1, [.int (nI 0), .int (nI 0), .ref rb1, .int (nI 0)])), (rb1, .inl (T 1, 40, .inr (.inl (fun _ => 0)))), (rc0, .inr (1, [.int (nI 0), .int (nI 0), .ref rc1, .int (nI 0)])), (rc1, .inl (T 1, 40, .inr (.inl (fun _ => 0)))), (rd0, .inr (1, [.int (nI 0), .int (nI 0), .ref rd1, .int (nI 0)])), (rd1, .inl (T 1, 40, .inr (.inl (fun _ => 0))))] H locs := V
    show W p l e _ s m args below meth c H locs _ _ _ (F0 m 5 ls [.int (-6)])
    refine lv_istore_n (lv' := [(2, .int (-6)), (0, .ref o), (1, .int row)]) hx hb dX7_copy_5 rfl hl (by decide) rfl (fun ls hl => ?_)
    refine lv_iload_n hx hb dX7_copy_6 rfl (lv_at hl 0 rfl) ?_
    refine lv_if_eq (tgt := 12) hx hb dX7_copy_7 (by decide) (fun c => absurd (show (-6 : Int32) = 0 from c) (by decide +kernel)) (fun _ => ?_)
    refine lv_iload_n hx hb dX7_copy_10 rfl (lv_at hl 0 rfl) ?_
    have V := V.sub (ws' := []) [] rfl rfl
    exact g_iret (Qr := (q_X7_copy T o row n0 s0 im iz rw t0 u0 h0 y0 ra0 rb0 rc0 rd0 ra1 rb1 rc1 rd1)) hC V ⟨(Nat.le_of_ble_eq_true rfl), (Nat.le_of_ble_eq_true rfl)⟩ ⟨(-6), rfl, rfl, (by first | exact pf_row_1 ‹_› | exact pf_row_2 ‹_› ‹_›)⟩ dX7_copy_11
