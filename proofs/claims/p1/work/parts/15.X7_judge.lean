def q_X7_judge (T : Nat → ClassId) (o : Nat) (row : Int32) (what : Int32) (n0 : Nat) (s0 : Nat) (im : Nat) (iz : Nat) (rw : Nat) (t0 : Nat) (u0 : Nat) (h0 : Nat) (y0 : Nat) (ra0 : Nat) (rb0 : Nat) (rc0 : Nat) (rd0 : Nat) (ra1 : Nat) (rb1 : Nat) (rc1 : Nat) (rd1 : Nat) : Option Value → va_W → Prop := fun rr ww => (∃ (z : Int32), rr = some (.int z) ∧ ww = [] ∧ z = pf_judge row what)
set_option maxHeartbeats 4000000 in
set_option maxRecDepth 100000 in
theorem p_X7_judge (l : Launch) (D : va_G) (T : Nat → ClassId) (o : Nat) (row : Int32) (what : Int32) (n0 : Nat) (s0 : Nat) (im : Nat) (iz : Nat) (rw : Nat) (t0 : Nat) (u0 : Nat) (h0 : Nat) (y0 : Nat) (ra0 : Nat) (rb0 : Nat) (rc0 : Nat) (rd0 : Nat) (ra1 : Nat) (rb1 : Nat) (rc1 : Nat) (rd1 : Nat) : Ct l yX7_judge cX7_judge 3 (some .int) 1 0 0 D T [.ref o, .int row, .int what] [(o, .inr (7, [.ref n0, .ref s0, .ref im, .ref iz, .ref rw, .ref t0, .ref u0, .ref h0, .ref y0, .null])), (rw, .inl (T 5, 4, .inr (.inr (.inr (.inr (va_up (va_up (va_up (va_up (fun _ => none) 0 (some ra0)) 1 (some rb0)) 2 (some rc0)) 3 (some rd0))))))), (ra0, .inr (1, [.int (nI 0), .int (nI 0), .ref ra1, .int (nI 0)])), (ra1, .inl (T 1, 40, .inr (.inl (fun _ => 0)))), (rb0, .inr (1, [.int (nI 0), .int (nI 0), .ref rb1, .int (nI 0)])), (rb1, .inl (T 1, 40, .inr (.inl (fun _ => 0)))), (rc0, .inr (1, [.int (nI 0), .int (nI 0), .ref rc1, .int (nI 0)])), (rc1, .inl (T 1, 40, .inr (.inl (fun _ => 0)))), (rd0, .inr (1, [.int (nI 0), .int (nI 0), .ref rd1, .int (nI 0)])), (rd1, .inl (T 1, 40, .inr (.inl (fun _ => 0))))] (q_X7_judge T o row what n0 s0 im iz rw t0 u0 h0 y0 ra0 rb0 rc0 rd0 ra1 rb1 rc1 rd1) := by
  refine Ct.of (cc := cX7_judge) (maxL := 3) (ret := (some .int)) (by decide) (Nat.le_of_ble_eq_true rfl) ?_
  intro p e s m args below meth c A ls hC hnm V hl
  obtain ⟨hx, hb, hr, hml, hown, hts, hlocks⟩ := id hC
  generalize hH : s.heap = H at V ⊢
  clear hH
  have hl : lv_has ls 3 [(0, .ref o), (1, .int row), (2, .int what)] := hl
  generalize hlo : ([] : List Loc) = locs at V ⊢
  clear hlo
  refine lv_iload_n hx hb dX7_judge_0 rfl (lv_at hl 1 rfl) ?_
  refine g_callS (wr := [(o, .inr (7, [.ref n0, .ref s0, .ref im, .ref iz, .ref rw, .ref t0, .ref u0, .ref h0, .ref y0, .null])), (rw, .inl (T 5, 4, .inr (.inr (.inr (.inr (va_up (va_up (va_up (va_up (fun _ => none) 0 (some ra0)) 1 (some rb0)) 2 (some rc0)) 3 (some rd0))))))), (ra0, .inr (1, [.int (nI 0), .int (nI 0), .ref ra1, .int (nI 0)])), (ra1, .inl (T 1, 40, .inr (.inl (fun _ => 0)))), (rb0, .inr (1, [.int (nI 0), .int (nI 0), .ref rb1, .int (nI 0)])), (rb1, .inl (T 1, 40, .inr (.inl (fun _ => 0)))), (rc0, .inr (1, [.int (nI 0), .int (nI 0), .ref rc1, .int (nI 0)])), (rc1, .inl (T 1, 40, .inr (.inl (fun _ => 0)))), (rd0, .inr (1, [.int (nI 0), .int (nI 0), .ref rd1, .int (nI 0)])), (rd1, .inl (T 1, 40, .inr (.inl (fun _ => 0))))]) (nA := 1) hC V hl.1 (c_isRow l D T row) w_501 w_502 w_2 w_503 (by decide +kernel) rfl ⟨(Nat.le_of_ble_eq_true rfl), (Nat.le_of_ble_eq_true rfl)⟩ [] [0, 1, 2, 3, 4, 5, 6, 7, 8, 9] rfl rfl rfl rfl (by decide) (Nat.le_of_ble_eq_true rfl) dX7_judge_1 ⟨(Nat.le_of_ble_eq_true rfl), (Nat.le_of_ble_eq_true rfl)⟩ rfl (fun r w1 H locs hQ V => ?_)
  rcases hQ with ⟨rfl, rfl, f_1, f_2⟩ | ⟨rfl, rfl, f_3⟩
  · have V : gW D T A s [(o, .inr (7, [.ref n0, .ref s0, .ref im, .ref iz, .ref rw, .ref t0, .ref u0, .ref h0, .ref y0, .null])), (rw, .inl (T 5, 4, .inr (.inr (.inr (.inr (va_up (va_up (va_up (va_up (fun _ => none) 0 (some ra0)) 1 (some rb0)) 2 (some rc0)) 3 (some rd0))))))), (ra0, .inr (1, [.int (nI 0), .int (nI 0), .ref ra1, .int (nI 0)])), (ra1, .inl (T 1, 40, .inr (.inl (fun _ => 0)))), (rb0, .inr (1, [.int (nI 0), .int (nI 0), .ref rb1, .int (nI 0)])), (rb1, .inl (T 1, 40, .inr (.inl (fun _ => 0)))), (rc0, .inr (1, [.int (nI 0), .int (nI 0), .ref rc1, .int (nI 0)])), (rc1, .inl (T 1, 40, .inr (.inl (fun _ => 0)))), (rd0, .inr (1, [.int (nI 0), .int (nI 0), .ref rd1, .int (nI 0)])), (rd1, .inl (T 1, 40, .inr (.inl (fun _ => 0))))] H locs := V
    show W p l e _ s m args below meth c H locs _ _ _ (F0 m 4 ls [.int (nI 1)])
    refine lv_if_eq (tgt := 16) hx hb dX7_judge_4 (by decide) (fun c => absurd (show (nI 1) = 0 from c) (by decide +kernel)) (fun _ => ?_)
    refine lv_iload_n hx hb dX7_judge_7 rfl (lv_at hl 2 rfl) ?_
    refine lv_iconst (v := (nI 0)) hx hb dX7_judge_8 (by decide +kernel) ?_
    refine lv_iconst (v := (nI 4)) hx hb dX7_judge_9 (by decide +kernel) ?_
    refine g_callS (wr := [(o, .inr (7, [.ref n0, .ref s0, .ref im, .ref iz, .ref rw, .ref t0, .ref u0, .ref h0, .ref y0, .null])), (rw, .inl (T 5, 4, .inr (.inr (.inr (.inr (va_up (va_up (va_up (va_up (fun _ => none) 0 (some ra0)) 1 (some rb0)) 2 (some rc0)) 3 (some rd0))))))), (ra0, .inr (1, [.int (nI 0), .int (nI 0), .ref ra1, .int (nI 0)])), (ra1, .inl (T 1, 40, .inr (.inl (fun _ => 0)))), (rb0, .inr (1, [.int (nI 0), .int (nI 0), .ref rb1, .int (nI 0)])), (rb1, .inl (T 1, 40, .inr (.inl (fun _ => 0)))), (rc0, .inr (1, [.int (nI 0), .int (nI 0), .ref rc1, .int (nI 0)])), (rc1, .inl (T 1, 40, .inr (.inl (fun _ => 0)))), (rd0, .inr (1, [.int (nI 0), .int (nI 0), .ref rd1, .int (nI 0)])), (rd1, .inl (T 1, 40, .inr (.inl (fun _ => 0))))]) (nA := 3) hC V hl.1 (c_isWithin l D T what (nI 0) (nI 4)) w_292 w_293 w_2 w_294 (by decide +kernel) rfl ⟨(Nat.le_of_ble_eq_true rfl), (Nat.le_of_ble_eq_true rfl)⟩ [] [0, 1, 2, 3, 4, 5, 6, 7, 8, 9] rfl rfl rfl rfl (by decide) (Nat.le_of_ble_eq_true rfl) dX7_judge_10 ⟨(Nat.le_of_ble_eq_true rfl), (Nat.le_of_ble_eq_true rfl)⟩ rfl (fun r w1 H locs hQ V => ?_)
    rcases hQ with ⟨rfl, rfl, f_4, f_5⟩ | ⟨rfl, rfl, f_6⟩
    · have V : gW D T A s [(o, .inr (7, [.ref n0, .ref s0, .ref im, .ref iz, .ref rw, .ref t0, .ref u0, .ref h0, .ref y0, .null])), (rw, .inl (T 5, 4, .inr (.inr (.inr (.inr (va_up (va_up (va_up (va_up (fun _ => none) 0 (some ra0)) 1 (some rb0)) 2 (some rc0)) 3 (some rd0))))))), (ra0, .inr (1, [.int (nI 0), .int (nI 0), .ref ra1, .int (nI 0)])), (ra1, .inl (T 1, 40, .inr (.inl (fun _ => 0)))), (rb0, .inr (1, [.int (nI 0), .int (nI 0), .ref rb1, .int (nI 0)])), (rb1, .inl (T 1, 40, .inr (.inl (fun _ => 0)))), (rc0, .inr (1, [.int (nI 0), .int (nI 0), .ref rc1, .int (nI 0)])), (rc1, .inl (T 1, 40, .inr (.inl (fun _ => 0)))), (rd0, .inr (1, [.int (nI 0), .int (nI 0), .ref rd1, .int (nI 0)])), (rd1, .inl (T 1, 40, .inr (.inl (fun _ => 0))))] H locs := V
      show W p l e _ s m args below meth c H locs _ _ _ (F0 m 13 ls [.int (nI 1)])
      obtain ⟨j_7, hj_7, ej_7⟩ := g_idx (n := 4) (by decide) f_1 f_2
      rw [ej_7] at hl
      have hj_7 : j_7 = 0 ∨ j_7 = 1 ∨ j_7 = 2 ∨ j_7 = 3 := by omega
      rcases hj_7 with rfl | rfl | rfl | rfl
      · skip
        refine lv_if_ne (tgt := 19) hx hb dX7_judge_13 (by decide) (fun _ => ?_) (fun c => absurd (show (nI 1) = 0 from c) (by decide +kernel))
        refine lv_aload_n hx hb dX7_judge_19 rfl (lv_at hl 0 rfl) ?_
        refine g_get hC V (ci := 7) uwX7 0 rfl rfl 4 (by decide) w_253 rfl rfl dX7_judge_20 ?_
        refine lv_iload_n hx hb dX7_judge_23 rfl (lv_at hl 1 rfl) ?_
        refine g_aald hC V 1 5 rfl rfl (vp_in_nI (by decide) (by decide)) (v := .ref ra0) (by rw [nI_clamp (by decide)]; rfl) dX7_judge_24 ?_
        refine g_get hC V (ci := 1) uwX1 2 rfl rfl 0 (by decide) w_229 rfl rfl dX7_judge_25 ?_
        refine lv_if_ne (tgt := 34) hx hb dX7_judge_28 (by decide) (fun c => absurd (show (nI 0) = 0 by decide +kernel) c) (fun _ => ?_)
        refine lv_bipush (v := (-6)) hx hb dX7_judge_31 (by decide +kernel) ?_
        have V := V.sub (ws' := []) [] rfl rfl
        exact g_iret (Qr := (q_X7_judge T o row what n0 s0 im iz rw t0 u0 h0 y0 ra0 rb0 rc0 rd0 ra1 rb1 rc1 rd1)) hC V ⟨(Nat.le_of_ble_eq_true rfl), (Nat.le_of_ble_eq_true rfl)⟩ ⟨(-6), rfl, rfl, (by first | exact pf_judge_1 ‹_› | exact pf_judge_2 ‹_› | exact pf_judge_3 ‹_› ‹_› ‹_› ‹_›)⟩ dX7_judge_33
      · skip
        refine lv_if_ne (tgt := 19) hx hb dX7_judge_13 (by decide) (fun _ => ?_) (fun c => absurd (show (nI 1) = 0 from c) (by decide +kernel))
        refine lv_aload_n hx hb dX7_judge_19 rfl (lv_at hl 0 rfl) ?_
        refine g_get hC V (ci := 7) uwX7 0 rfl rfl 4 (by decide) w_253 rfl rfl dX7_judge_20 ?_
        refine lv_iload_n hx hb dX7_judge_23 rfl (lv_at hl 1 rfl) ?_
        refine g_aald hC V 1 5 rfl rfl (vp_in_nI (by decide) (by decide)) (v := .ref rb0) (by rw [nI_clamp (by decide)]; rfl) dX7_judge_24 ?_
        refine g_get hC V (ci := 1) uwX1 4 rfl rfl 0 (by decide) w_229 rfl rfl dX7_judge_25 ?_
        refine lv_if_ne (tgt := 34) hx hb dX7_judge_28 (by decide) (fun c => absurd (show (nI 0) = 0 by decide +kernel) c) (fun _ => ?_)
        refine lv_bipush (v := (-6)) hx hb dX7_judge_31 (by decide +kernel) ?_
        have V := V.sub (ws' := []) [] rfl rfl
        exact g_iret (Qr := (q_X7_judge T o row what n0 s0 im iz rw t0 u0 h0 y0 ra0 rb0 rc0 rd0 ra1 rb1 rc1 rd1)) hC V ⟨(Nat.le_of_ble_eq_true rfl), (Nat.le_of_ble_eq_true rfl)⟩ ⟨(-6), rfl, rfl, (by first | exact pf_judge_1 ‹_› | exact pf_judge_2 ‹_› | exact pf_judge_3 ‹_› ‹_› ‹_› ‹_›)⟩ dX7_judge_33
      · skip
        refine lv_if_ne (tgt := 19) hx hb dX7_judge_13 (by decide) (fun _ => ?_) (fun c => absurd (show (nI 1) = 0 from c) (by decide +kernel))
        refine lv_aload_n hx hb dX7_judge_19 rfl (lv_at hl 0 rfl) ?_
        refine g_get hC V (ci := 7) uwX7 0 rfl rfl 4 (by decide) w_253 rfl rfl dX7_judge_20 ?_
        refine lv_iload_n hx hb dX7_judge_23 rfl (lv_at hl 1 rfl) ?_
        refine g_aald hC V 1 5 rfl rfl (vp_in_nI (by decide) (by decide)) (v := .ref rc0) (by rw [nI_clamp (by decide)]; rfl) dX7_judge_24 ?_
        refine g_get hC V (ci := 1) uwX1 6 rfl rfl 0 (by decide) w_229 rfl rfl dX7_judge_25 ?_
        refine lv_if_ne (tgt := 34) hx hb dX7_judge_28 (by decide) (fun c => absurd (show (nI 0) = 0 by decide +kernel) c) (fun _ => ?_)
        refine lv_bipush (v := (-6)) hx hb dX7_judge_31 (by decide +kernel) ?_
        have V := V.sub (ws' := []) [] rfl rfl
        exact g_iret (Qr := (q_X7_judge T o row what n0 s0 im iz rw t0 u0 h0 y0 ra0 rb0 rc0 rd0 ra1 rb1 rc1 rd1)) hC V ⟨(Nat.le_of_ble_eq_true rfl), (Nat.le_of_ble_eq_true rfl)⟩ ⟨(-6), rfl, rfl, (by first | exact pf_judge_1 ‹_› | exact pf_judge_2 ‹_› | exact pf_judge_3 ‹_› ‹_› ‹_› ‹_›)⟩ dX7_judge_33
      · skip
        refine lv_if_ne (tgt := 19) hx hb dX7_judge_13 (by decide) (fun _ => ?_) (fun c => absurd (show (nI 1) = 0 from c) (by decide +kernel))
        refine lv_aload_n hx hb dX7_judge_19 rfl (lv_at hl 0 rfl) ?_
        refine g_get hC V (ci := 7) uwX7 0 rfl rfl 4 (by decide) w_253 rfl rfl dX7_judge_20 ?_
        refine lv_iload_n hx hb dX7_judge_23 rfl (lv_at hl 1 rfl) ?_
        refine g_aald hC V 1 5 rfl rfl (vp_in_nI (by decide) (by decide)) (v := .ref rd0) (by rw [nI_clamp (by decide)]; rfl) dX7_judge_24 ?_
        refine g_get hC V (ci := 1) uwX1 8 rfl rfl 0 (by decide) w_229 rfl rfl dX7_judge_25 ?_
        refine lv_if_ne (tgt := 34) hx hb dX7_judge_28 (by decide) (fun c => absurd (show (nI 0) = 0 by decide +kernel) c) (fun _ => ?_)
        refine lv_bipush (v := (-6)) hx hb dX7_judge_31 (by decide +kernel) ?_
        have V := V.sub (ws' := []) [] rfl rfl
        exact g_iret (Qr := (q_X7_judge T o row what n0 s0 im iz rw t0 u0 h0 y0 ra0 rb0 rc0 rd0 ra1 rb1 rc1 rd1)) hC V ⟨(Nat.le_of_ble_eq_true rfl), (Nat.le_of_ble_eq_true rfl)⟩ ⟨(-6), rfl, rfl, (by first | exact pf_judge_1 ‹_› | exact pf_judge_2 ‹_› | exact pf_judge_3 ‹_› ‹_› ‹_› ‹_›)⟩ dX7_judge_33
    · have V : gW D T A s [(o, .inr (7, [.ref n0, .ref s0, .ref im, .ref iz, .ref rw, .ref t0, .ref u0, .ref h0, .ref y0, .null])), (rw, .inl (T 5, 4, .inr (.inr (.inr (.inr (va_up (va_up (va_up (va_up (fun _ => none) 0 (some ra0)) 1 (some rb0)) 2 (some rc0)) 3 (some rd0))))))), (ra0, .inr (1, [.int (nI 0), .int (nI 0), .ref ra1, .int (nI 0)])), (ra1, .inl (T 1, 40, .inr (.inl (fun _ => 0)))), (rb0, .inr (1, [.int (nI 0), .int (nI 0), .ref rb1, .int (nI 0)])), (rb1, .inl (T 1, 40, .inr (.inl (fun _ => 0)))), (rc0, .inr (1, [.int (nI 0), .int (nI 0), .ref rc1, .int (nI 0)])), (rc1, .inl (T 1, 40, .inr (.inl (fun _ => 0)))), (rd0, .inr (1, [.int (nI 0), .int (nI 0), .ref rd1, .int (nI 0)])), (rd1, .inl (T 1, 40, .inr (.inl (fun _ => 0))))] H locs := V
      show W p l e _ s m args below meth c H locs _ _ _ (F0 m 13 ls [.int (nI 0)])
      refine lv_if_ne (tgt := 19) hx hb dX7_judge_13 (by decide) (fun c => absurd (show (nI 0) = 0 by decide +kernel) c) (fun _ => ?_)
      refine lv_bipush (v := (-2)) hx hb dX7_judge_16 (by decide +kernel) ?_
      have V := V.sub (ws' := []) [] rfl rfl
      exact g_iret (Qr := (q_X7_judge T o row what n0 s0 im iz rw t0 u0 h0 y0 ra0 rb0 rc0 rd0 ra1 rb1 rc1 rd1)) hC V ⟨(Nat.le_of_ble_eq_true rfl), (Nat.le_of_ble_eq_true rfl)⟩ ⟨(-2), rfl, rfl, (by first | exact pf_judge_1 ‹_› | exact pf_judge_2 ‹_› | exact pf_judge_3 ‹_› ‹_› ‹_› ‹_›)⟩ dX7_judge_18
  · have V : gW D T A s [(o, .inr (7, [.ref n0, .ref s0, .ref im, .ref iz, .ref rw, .ref t0, .ref u0, .ref h0, .ref y0, .null])), (rw, .inl (T 5, 4, .inr (.inr (.inr (.inr (va_up (va_up (va_up (va_up (fun _ => none) 0 (some ra0)) 1 (some rb0)) 2 (some rc0)) 3 (some rd0))))))), (ra0, .inr (1, [.int (nI 0), .int (nI 0), .ref ra1, .int (nI 0)])), (ra1, .inl (T 1, 40, .inr (.inl (fun _ => 0)))), (rb0, .inr (1, [.int (nI 0), .int (nI 0), .ref rb1, .int (nI 0)])), (rb1, .inl (T 1, 40, .inr (.inl (fun _ => 0)))), (rc0, .inr (1, [.int (nI 0), .int (nI 0), .ref rc1, .int (nI 0)])), (rc1, .inl (T 1, 40, .inr (.inl (fun _ => 0)))), (rd0, .inr (1, [.int (nI 0), .int (nI 0), .ref rd1, .int (nI 0)])), (rd1, .inl (T 1, 40, .inr (.inl (fun _ => 0))))] H locs := V
    show W p l e _ s m args below meth c H locs _ _ _ (F0 m 4 ls [.int (nI 0)])
    refine lv_if_eq (tgt := 16) hx hb dX7_judge_4 (by decide) (fun _ => ?_) (fun c => absurd (show (nI 0) = 0 by decide +kernel) c)
    refine lv_bipush (v := (-2)) hx hb dX7_judge_16 (by decide +kernel) ?_
    have V := V.sub (ws' := []) [] rfl rfl
    exact g_iret (Qr := (q_X7_judge T o row what n0 s0 im iz rw t0 u0 h0 y0 ra0 rb0 rc0 rd0 ra1 rb1 rc1 rd1)) hC V ⟨(Nat.le_of_ble_eq_true rfl), (Nat.le_of_ble_eq_true rfl)⟩ ⟨(-2), rfl, rfl, (by first | exact pf_judge_1 ‹_› | exact pf_judge_2 ‹_› | exact pf_judge_3 ‹_› ‹_› ‹_› ‹_›)⟩ dX7_judge_18
