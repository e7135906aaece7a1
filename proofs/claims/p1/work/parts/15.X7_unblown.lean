def q_X7_unblown (T : Nat → ClassId) (o : Nat) (n0 : Nat) (s0 : Nat) (im : Nat) (iz : Nat) (rw : Nat) (t0 : Nat) (u0 : Nat) (h0 : Nat) (y0 : Nat) (n1 : Nat) (n2 : Nat) (n3 : Nat) (n4 : Nat) (n5 : Nat) (n6 : Nat) (n7 : Nat) (n8 : Nat) (n9 : Nat) (n10 : Nat) : Option Value → va_W → Prop := fun rr ww => (∃ (z : Int32), rr = some (.int z) ∧ ww = [] ∧ z = nI 0)
set_option maxHeartbeats 4000000 in
set_option maxRecDepth 100000 in
theorem p_X7_unblown (l : Launch) (D : va_G) (T : Nat → ClassId) (o : Nat) (n0 : Nat) (s0 : Nat) (im : Nat) (iz : Nat) (rw : Nat) (t0 : Nat) (u0 : Nat) (h0 : Nat) (y0 : Nat) (n1 : Nat) (n2 : Nat) (n3 : Nat) (n4 : Nat) (n5 : Nat) (n6 : Nat) (n7 : Nat) (n8 : Nat) (n9 : Nat) (n10 : Nat) : Ct l yX7_unblown cX7_unblown 3 (some .int) 0 0 0 D T [.ref o] [(o, .inr (7, [.ref n0, .ref s0, .ref im, .ref iz, .ref rw, .ref t0, .ref u0, .ref h0, .ref y0, .null])), (n0, .inr (5, [.int (nI 0), .int (nI 0), .int (nI 0), .int (nI 20), .int (nI 0), .ref n1, .ref n2, .ref n3, .ref n4, .ref n5, .ref n6, .ref n7, .ref n8, .ref n9, .ref n10])), (n1, .inl (T 0, 10, .inl (fun _ => nI 0))), (n2, .inl (T 0, 10, .inl (fun _ => nI 0))), (n3, .inl (T 0, 10, .inl (fun _ => nI 0))), (n4, .inl (T 0, 10, .inl (fun _ => nI 0))), (n5, .inl (T 0, 10, .inl (fun _ => nI 0))), (n6, .inl (T 0, 10, .inl (fun _ => nI 0))), (n7, .inl (T 0, 10, .inl (fun _ => nI 0))), (n8, .inl (T 0, 10, .inl (fun _ => nI 0))), (n9, .inl (T 0, 10, .inl (fun _ => nI 0))), (n10, .inl (T 0, 10, .inl (fun _ => nI 0)))] (q_X7_unblown T o n0 s0 im iz rw t0 u0 h0 y0 n1 n2 n3 n4 n5 n6 n7 n8 n9 n10) := by
  refine Ct.of (cc := cX7_unblown) (maxL := 3) (ret := (some .int)) (by decide) (Nat.le_of_ble_eq_true rfl) ?_
  intro p e s m args below meth c A ls hC hnm V hl
  obtain ⟨hx, hb, hr, hml, hown, hts, hlocks⟩ := id hC
  generalize hH : s.heap = H at V ⊢
  clear hH
  have hl : lv_has ls 3 [(0, .ref o)] := hl
  generalize hlo : ([] : List Loc) = locs at V ⊢
  clear hlo
  refine lv_iconst (v := (nI 0)) hx hb dX7_unblown_0 (by decide +kernel) ?_
  refine lv_istore_n (lv' := [(1, .int (nI 0)), (0, .ref o)]) hx hb dX7_unblown_1 rfl hl (by decide) rfl (fun ls hl => ?_)
  refine lv_iconst (v := (nI 0)) hx hb dX7_unblown_2 (by decide +kernel) ?_
  refine lv_istore_n (lv' := [(2, .int (nI 0)), (1, .int (nI 0)), (0, .ref o)]) hx hb dX7_unblown_3 rfl hl (by decide) rfl (fun ls hl => ?_)
  refine lv_iload_n hx hb dX7_unblown_4 rfl (lv_at hl 0 rfl) ?_
  refine lv_aload_n hx hb dX7_unblown_5 rfl (lv_at hl 2 rfl) ?_
  refine g_get hC V (ci := 7) uwX7 0 rfl rfl 0 (by decide) w_249 rfl rfl dX7_unblown_6 ?_
  refine g_get hC V (ci := 5) uwX5 1 rfl rfl 0 (by decide) w_38 rfl rfl dX7_unblown_9 ?_
  refine lv_icmp_ge (tgt := 38) hx hb dX7_unblown_12 (by decide) (fun _ => ?_) (fun c => absurd (show (nI 0) ≤ (nI 0) by first | rfl | decide +kernel) c)
  refine lv_iload_n hx hb dX7_unblown_38 rfl (lv_at hl 1 rfl) ?_
  have V := V.sub (ws' := []) [] rfl rfl
  exact g_iret (Qr := (q_X7_unblown T o n0 s0 im iz rw t0 u0 h0 y0 n1 n2 n3 n4 n5 n6 n7 n8 n9 n10)) hC V ⟨(Nat.le_of_ble_eq_true rfl), (Nat.le_of_ble_eq_true rfl)⟩ ⟨(nI 0), rfl, rfl, rfl⟩ dX7_unblown_39
