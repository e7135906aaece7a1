set_option maxHeartbeats 4000000 in
set_option maxRecDepth 100000 in
theorem lk_7 {p : Program} {e : Env} {s : State} {m : MethodId} {args : Array Value} {below : List Frame} {meth : Method} {c : Code} {Q : State → Prop} (l : Launch) {b : Nat} {xs : Nat → Int32} {D : va_G} {T : Nat → ClassId} {A : Nat → Prop} (ox n0 n1 n2 n3 n4 n5 n6 n7 n8 n9 n10 s0 s1 s2 s3 s4 s5 s6 s7 s8 s9 s10 im iz rw t0 t1 u0 h0 h1 h2 h3 y0 y1 y2 i0 i1 i2 i3 i4 i5 i6 i7 i8 i9 i10 j0 j1 j2 j3 j4 j5 j6 j7 j8 j9 j10 ra0 ra1 rb0 rb1 rc0 rc1 rd0 rd1 o g1 g2 g3 g4 g15 g17 g20 g22 g23 g24 g28 g29 g31 g32 g33 : Nat) (hC : cX p s m args meth c RL cL_law 4 (some .boolean)) (hX : va_X b 6 xs s s.heap) (hbl : b < s.heap.size) (hbA : ¬ A b) (hE : ∀ (H : Heap) (locs : List Loc) (ls : Array Slot), va_S A s.heap H locs → lv_has ls 4 [(3, .int (nI 0)), (2, .ref o), (1, .ref ox), (0, .ref b)] → W p l e room_1 s m args below meth c H locs 82 14431 Q (F0 m 1479 ls [])) {H : Heap} {locs : List Loc} {ls : Array Slot} (V : gW D T A s (lwW T ox n0 n1 n2 n3 n4 n5 n6 n7 n8 n9 n10 s0 s1 s2 s3 s4 s5 s6 s7 s8 s9 s10 im iz rw t0 t1 u0 h0 h1 h2 h3 y0 y1 y2 i0 i1 i2 i3 i4 i5 i6 i7 i8 i9 i10 j0 j1 j2 j3 j4 j5 j6 j7 j8 j9 j10 ra0 ra1 rb0 rb1 rc0 rc1 rd0 rd1 o g1 g2 g3 g4 g15 g17 g20 g22 g23 g24 g28 g29 g31 g32 g33) H locs) (hl : lv_has ls 4 [(3, .int (nI 0)), (2, .ref o), (1, .ref ox), (0, .ref b)]) : W p l e room_1 s m args below meth c H locs 82 14431 Q (F0 m 447 ls []) := by
  obtain ⟨hx, hb, hr, hml, hown, hts, hlocks⟩ := id hC
  have V := V.sub (ws' := [(ox, .inr (7, [.ref n0, .ref s0, .ref im, .ref iz, .ref rw, .ref t0, .ref u0, .ref h0, .ref y0, .null])), (n0, .inr (5, [.int (nI 0), .int (nI 0), .int (nI 0), .int (nI 20), .int (nI 0), .ref n1, .ref n2, .ref n3, .ref n4, .ref n5, .ref n6, .ref n7, .ref n8, .ref n9, .ref n10])), (n1, .inl (T 0, 10, .inl (fun _ => nI 0))), (n2, .inl (T 0, 10, .inl (fun _ => nI 0))), (n3, .inl (T 0, 10, .inl (fun _ => nI 0))), (n4, .inl (T 0, 10, .inl (fun _ => nI 0))), (n5, .inl (T 0, 10, .inl (fun _ => nI 0))), (n6, .inl (T 0, 10, .inl (fun _ => nI 0))), (n7, .inl (T 0, 10, .inl (fun _ => nI 0))), (n8, .inl (T 0, 10, .inl (fun _ => nI 0))), (n9, .inl (T 0, 10, .inl (fun _ => nI 0))), (n10, .inl (T 0, 10, .inl (fun _ => nI 0))), (o, .inr (8, [.int (nI 0), .ref g1, .ref g2, .ref g3, .ref g4, .int (nI 0), .int (nI 0), .int (nI 0), .int (nI 0), .int (nI 0), .int (nI 0), .int (nI 0), .int (nI 0), .int (nI 0), .int (-1), .ref g15, .int (nI 0), .ref g17, .int (nI 0), .int (nI 0), .ref g20, .int (nI 0), .ref g22, .ref g23, .ref g24, .int (nI 0), .int (nI 0), .int (nI 0), .ref g28, .ref g29, .int (nI 0), .ref g31, .ref g32, .ref g33])), (g1, .inl (T 0, 282, .inl (upd (fun _ => nI 0) 2 (nI 20))))]) [0, 1, 2, 3, 4, 5, 6, 7, 8, 9, 10, 11, 66, 67] rfl rfl
  refine lv_aload_n hx hb dL_law_447 rfl (lv_at hl 2 rfl) ?_
  refine lv_aload_n hx hb dL_law_448 rfl (lv_at hl 3 rfl) ?_
  refine lv_iload_n hx hb dL_law_449 rfl (lv_at hl 0 rfl) ?_
  refine lv_iconst (v := (nI 1)) hx hb dL_law_450 (by decide +kernel) ?_
  refine lv_iadd hx hb dL_law_451 ?_
  refine g_vi (y := (nI 1)) (by decide +kernel) ?_
  refine va_sld hx hb hX hbl hbA V.2.2.2.1 (vp_in_nI (by decide) (by decide)) dL_law_452 ?_
  refine g_vi (y := xs 1) (congrArg xs (nI_clamp (by decide))) ?_
  refine lv_aload_n hx hb dL_law_453 rfl (lv_at hl 3 rfl) ?_
  refine lv_iload_n hx hb dL_law_454 rfl (lv_at hl 0 rfl) ?_
  refine lv_iconst (v := (nI 2)) hx hb dL_law_455 (by decide +kernel) ?_
  refine lv_iadd hx hb dL_law_456 ?_
  refine g_vi (y := (nI 2)) (by decide +kernel) ?_
  refine va_sld hx hb hX hbl hbA V.2.2.2.1 (vp_in_nI (by decide) (by decide)) dL_law_457 ?_
  refine g_vi (y := xs 2) (congrArg xs (nI_clamp (by decide))) ?_
  refine g_callV (wr := [(o, .inr (8, [.int (nI 0), .ref g1, .ref g2, .ref g3, .ref g4, .int (nI 0), .int (nI 0), .int (nI 0), .int (nI 0), .int (nI 0), .int (nI 0), .int (nI 0), .int (nI 0), .int (nI 0), .int (-1), .ref g15, .int (nI 0), .ref g17, .int (nI 0), .int (nI 0), .ref g20, .int (nI 0), .ref g22, .ref g23, .ref g24, .int (nI 0), .int (nI 0), .int (nI 0), .ref g28, .ref g29, .int (nI 0), .ref g31, .ref g32, .ref g33])), (g1, .inl (T 0, 282, .inl (upd (fun _ => nI 0) 2 (nI 20))))]) (nA := 2) hC V hl.1 (p_X7_piece l D T ox (xs 1) (xs 2) n0 s0 im iz rw t0 u0 h0 y0 n1 n2 n3 n4 n5 n6 n7 n8 n9 n10) w_449 w_450 w_451 w_2 w_452 (by decide +kernel) rfl ⟨(Nat.le_of_ble_eq_true rfl), (Nat.le_of_ble_eq_true rfl)⟩ 0 (ci := 7) rfl rfl [0, 1, 2, 3, 4, 5, 6, 7, 8, 9, 10, 11] [12, 13] rfl rfl rfl rfl (by decide) (Nat.le_of_ble_eq_true rfl) dL_law_458 ⟨(Nat.le_of_ble_eq_true rfl), (Nat.le_of_ble_eq_true rfl)⟩ rfl (fun r w1 H locs hQ V => ?_)
  obtain ⟨z_1, rfl, rfl, f_2⟩ := hQ
  have V : gW D T A s [(o, .inr (8, [.int (nI 0), .ref g1, .ref g2, .ref g3, .ref g4, .int (nI 0), .int (nI 0), .int (nI 0), .int (nI 0), .int (nI 0), .int (nI 0), .int (nI 0), .int (nI 0), .int (nI 0), .int (-1), .ref g15, .int (nI 0), .ref g17, .int (nI 0), .int (nI 0), .ref g20, .int (nI 0), .ref g22, .ref g23, .ref g24, .int (nI 0), .int (nI 0), .int (nI 0), .ref g28, .ref g29, .int (nI 0), .ref g31, .ref g32, .ref g33])), (g1, .inl (T 0, 282, .inl (upd (fun _ => nI 0) 2 (nI 20))))] H locs := V
  show W p l e _ s m args below meth c H locs _ _ _ (F0 m 461 ls [.int z_1])
  refine lv_aload_n hx hb dL_law_461 rfl (lv_at hl 1 rfl) ?_
  refine lv_aload_n hx hb dL_law_462 rfl (lv_at hl 3 rfl) ?_
  refine lv_iload_n hx hb dL_law_463 rfl (lv_at hl 0 rfl) ?_
  refine lv_iconst (v := (nI 1)) hx hb dL_law_464 (by decide +kernel) ?_
  refine lv_iadd hx hb dL_law_465 ?_
  refine g_vi (y := (nI 1)) (by decide +kernel) ?_
  refine va_sld hx hb hX hbl hbA V.2.2.2.1 (vp_in_nI (by decide) (by decide)) dL_law_466 ?_
  refine g_vi (y := xs 1) (congrArg xs (nI_clamp (by decide))) ?_
  refine lv_aload_n hx hb dL_law_467 rfl (lv_at hl 3 rfl) ?_
  refine lv_iload_n hx hb dL_law_468 rfl (lv_at hl 0 rfl) ?_
  refine lv_iconst (v := (nI 2)) hx hb dL_law_469 (by decide +kernel) ?_
  refine lv_iadd hx hb dL_law_470 ?_
  refine g_vi (y := (nI 2)) (by decide +kernel) ?_
  refine va_sld hx hb hX hbl hbA V.2.2.2.1 (vp_in_nI (by decide) (by decide)) dL_law_471 ?_
  refine g_vi (y := xs 2) (congrArg xs (nI_clamp (by decide))) ?_
  refine g_callV (wr := []) (nA := 2) hC V hl.1 (pm_piece l D T o (xs 1) (xs 2) g1 g2 g3 g4 g15 g17 g20 g22 g23 g24 g28 g29 g31 g32 g33) w_1109 w_1110 w_1111 w_9 w_1112 (by decide +kernel) rfl ⟨(Nat.le_of_ble_eq_true rfl), (Nat.le_of_ble_eq_true rfl)⟩ 0 (ci := 8) rfl rfl [0, 1] [] rfl rfl rfl rfl (by decide) (Nat.le_of_ble_eq_true rfl) dL_law_472 ⟨(Nat.le_of_ble_eq_true rfl), (Nat.le_of_ble_eq_true rfl)⟩ rfl (fun r w1 H locs hQ V => ?_)
  obtain ⟨z_3, rfl, rfl, f_4⟩ := hQ
  have V : gW D T A s [] H locs := V
  show W p l e _ s m args below meth c H locs _ _ _ (F0 m 475 ls [.int z_3, .int z_1])
  refine lv_icmp_eq (tgt := 1479) hx hb dL_law_475 (by decide) (fun c_5 => ?_) (fun c_5 => ?_)
  · skip
    exact hE _ _ _ V.2.2.2.1 (lv_sub hl [0, 1, 2, 3] rfl)
  · exact (c_5 (f_2.trans f_4.symm)).elim

set_option maxHeartbeats 4000000 in
set_option maxRecDepth 100000 in
theorem lk_8 {p : Program} {e : Env} {s : State} {m : MethodId} {args : Array Value} {below : List Frame} {meth : Method} {c : Code} {Q : State → Prop} (l : Launch) {b : Nat} {xs : Nat → Int32} {D : va_G} {T : Nat → ClassId} {A : Nat → Prop} (ox n0 n1 n2 n3 n4 n5 n6 n7 n8 n9 n10 s0 s1 s2 s3 s4 s5 s6 s7 s8 s9 s10 im iz rw t0 t1 u0 h0 h1 h2 h3 y0 y1 y2 i0 i1 i2 i3 i4 i5 i6 i7 i8 i9 i10 j0 j1 j2 j3 j4 j5 j6 j7 j8 j9 j10 ra0 ra1 rb0 rb1 rc0 rc1 rd0 rd1 o g1 g2 g3 g4 g15 g17 g20 g22 g23 g24 g28 g29 g31 g32 g33 : Nat) (hC : cX p s m args meth c RL cL_law 4 (some .boolean)) (hX : va_X b 6 xs s s.heap) (hbl : b < s.heap.size) (hbA : ¬ A b) (hE : ∀ (H : Heap) (locs : List Loc) (ls : Array Slot), va_S A s.heap H locs → lv_has ls 4 [(3, .int (nI 0)), (2, .ref o), (1, .ref ox), (0, .ref b)] → W p l e room_1 s m args below meth c H locs 82 14431 Q (F0 m 1479 ls [])) {H : Heap} {locs : List Loc} {ls : Array Slot} (V : gW D T A s (lwW T ox n0 n1 n2 n3 n4 n5 n6 n7 n8 n9 n10 s0 s1 s2 s3 s4 s5 s6 s7 s8 s9 s10 im iz rw t0 t1 u0 h0 h1 h2 h3 y0 y1 y2 i0 i1 i2 i3 i4 i5 i6 i7 i8 i9 i10 j0 j1 j2 j3 j4 j5 j6 j7 j8 j9 j10 ra0 ra1 rb0 rb1 rc0 rc1 rd0 rd1 o g1 g2 g3 g4 g15 g17 g20 g22 g23 g24 g28 g29 g31 g32 g33) H locs) (hl : lv_has ls 4 [(3, .int (nI 0)), (2, .ref o), (1, .ref ox), (0, .ref b)]) : W p l e room_1 s m args below meth c H locs 82 14431 Q (F0 m 480 ls []) := by
  obtain ⟨hx, hb, hr, hml, hown, hts, hlocks⟩ := id hC
  have V := V.sub (ws' := [(ox, .inr (7, [.ref n0, .ref s0, .ref im, .ref iz, .ref rw, .ref t0, .ref u0, .ref h0, .ref y0, .null])), (n0, .inr (5, [.int (nI 0), .int (nI 0), .int (nI 0), .int (nI 20), .int (nI 0), .ref n1, .ref n2, .ref n3, .ref n4, .ref n5, .ref n6, .ref n7, .ref n8, .ref n9, .ref n10])), (n1, .inl (T 0, 10, .inl (fun _ => nI 0))), (n2, .inl (T 0, 10, .inl (fun _ => nI 0))), (n3, .inl (T 0, 10, .inl (fun _ => nI 0))), (n4, .inl (T 0, 10, .inl (fun _ => nI 0))), (n5, .inl (T 0, 10, .inl (fun _ => nI 0))), (n6, .inl (T 0, 10, .inl (fun _ => nI 0))), (n7, .inl (T 0, 10, .inl (fun _ => nI 0))), (n8, .inl (T 0, 10, .inl (fun _ => nI 0))), (n9, .inl (T 0, 10, .inl (fun _ => nI 0))), (n10, .inl (T 0, 10, .inl (fun _ => nI 0))), (o, .inr (8, [.int (nI 0), .ref g1, .ref g2, .ref g3, .ref g4, .int (nI 0), .int (nI 0), .int (nI 0), .int (nI 0), .int (nI 0), .int (nI 0), .int (nI 0), .int (nI 0), .int (nI 0), .int (-1), .ref g15, .int (nI 0), .ref g17, .int (nI 0), .int (nI 0), .ref g20, .int (nI 0), .ref g22, .ref g23, .ref g24, .int (nI 0), .int (nI 0), .int (nI 0), .ref g28, .ref g29, .int (nI 0), .ref g31, .ref g32, .ref g33])), (g1, .inl (T 0, 282, .inl (upd (fun _ => nI 0) 2 (nI 20))))]) [0, 1, 2, 3, 4, 5, 6, 7, 8, 9, 10, 11, 66, 67] rfl rfl
  refine lv_aload_n hx hb dL_law_480 rfl (lv_at hl 2 rfl) ?_
  refine lv_aload_n hx hb dL_law_481 rfl (lv_at hl 3 rfl) ?_
  refine lv_iload_n hx hb dL_law_482 rfl (lv_at hl 0 rfl) ?_
  refine lv_iconst (v := (nI 1)) hx hb dL_law_483 (by decide +kernel) ?_
  refine lv_iadd hx hb dL_law_484 ?_
  refine g_vi (y := (nI 1)) (by decide +kernel) ?_
  refine va_sld hx hb hX hbl hbA V.2.2.2.1 (vp_in_nI (by decide) (by decide)) dL_law_485 ?_
  refine g_vi (y := xs 1) (congrArg xs (nI_clamp (by decide))) ?_
  refine lv_aload_n hx hb dL_law_486 rfl (lv_at hl 3 rfl) ?_
  refine lv_iload_n hx hb dL_law_487 rfl (lv_at hl 0 rfl) ?_
  refine lv_iconst (v := (nI 2)) hx hb dL_law_488 (by decide +kernel) ?_
  refine lv_iadd hx hb dL_law_489 ?_
  refine g_vi (y := (nI 2)) (by decide +kernel) ?_
  refine va_sld hx hb hX hbl hbA V.2.2.2.1 (vp_in_nI (by decide) (by decide)) dL_law_490 ?_
  refine g_vi (y := xs 2) (congrArg xs (nI_clamp (by decide))) ?_
  refine g_callV (wr := [(o, .inr (8, [.int (nI 0), .ref g1, .ref g2, .ref g3, .ref g4, .int (nI 0), .int (nI 0), .int (nI 0), .int (nI 0), .int (nI 0), .int (nI 0), .int (nI 0), .int (nI 0), .int (nI 0), .int (-1), .ref g15, .int (nI 0), .ref g17, .int (nI 0), .int (nI 0), .ref g20, .int (nI 0), .ref g22, .ref g23, .ref g24, .int (nI 0), .int (nI 0), .int (nI 0), .ref g28, .ref g29, .int (nI 0), .ref g31, .ref g32, .ref g33])), (g1, .inl (T 0, 282, .inl (upd (fun _ => nI 0) 2 (nI 20))))]) (nA := 2) hC V hl.1 (p_X7_minute l D T ox (xs 1) (xs 2) n0 s0 im iz rw t0 u0 h0 y0 n1 n2 n3 n4 n5 n6 n7 n8 n9 n10) w_454 w_455 w_456 w_2 w_457 (by decide +kernel) rfl ⟨(Nat.le_of_ble_eq_true rfl), (Nat.le_of_ble_eq_true rfl)⟩ 0 (ci := 7) rfl rfl [0, 1, 2, 3, 4, 5, 6, 7, 8, 9, 10, 11] [12, 13] rfl rfl rfl rfl (by decide) (Nat.le_of_ble_eq_true rfl) dL_law_491 ⟨(Nat.le_of_ble_eq_true rfl), (Nat.le_of_ble_eq_true rfl)⟩ rfl (fun r w1 H locs hQ V => ?_)
  obtain ⟨z_1, rfl, rfl, f_2⟩ := hQ
  have V : gW D T A s [(o, .inr (8, [.int (nI 0), .ref g1, .ref g2, .ref g3, .ref g4, .int (nI 0), .int (nI 0), .int (nI 0), .int (nI 0), .int (nI 0), .int (nI 0), .int (nI 0), .int (nI 0), .int (nI 0), .int (-1), .ref g15, .int (nI 0), .ref g17, .int (nI 0), .int (nI 0), .ref g20, .int (nI 0), .ref g22, .ref g23, .ref g24, .int (nI 0), .int (nI 0), .int (nI 0), .ref g28, .ref g29, .int (nI 0), .ref g31, .ref g32, .ref g33])), (g1, .inl (T 0, 282, .inl (upd (fun _ => nI 0) 2 (nI 20))))] H locs := V
  show W p l e _ s m args below meth c H locs _ _ _ (F0 m 494 ls [.int z_1])
  refine lv_aload_n hx hb dL_law_494 rfl (lv_at hl 1 rfl) ?_
  refine lv_aload_n hx hb dL_law_495 rfl (lv_at hl 3 rfl) ?_
  refine lv_iload_n hx hb dL_law_496 rfl (lv_at hl 0 rfl) ?_
  refine lv_iconst (v := (nI 1)) hx hb dL_law_497 (by decide +kernel) ?_
  refine lv_iadd hx hb dL_law_498 ?_
  refine g_vi (y := (nI 1)) (by decide +kernel) ?_
  refine va_sld hx hb hX hbl hbA V.2.2.2.1 (vp_in_nI (by decide) (by decide)) dL_law_499 ?_
  refine g_vi (y := xs 1) (congrArg xs (nI_clamp (by decide))) ?_
  refine lv_aload_n hx hb dL_law_500 rfl (lv_at hl 3 rfl) ?_
  refine lv_iload_n hx hb dL_law_501 rfl (lv_at hl 0 rfl) ?_
  refine lv_iconst (v := (nI 2)) hx hb dL_law_502 (by decide +kernel) ?_
  refine lv_iadd hx hb dL_law_503 ?_
  refine g_vi (y := (nI 2)) (by decide +kernel) ?_
  refine va_sld hx hb hX hbl hbA V.2.2.2.1 (vp_in_nI (by decide) (by decide)) dL_law_504 ?_
  refine g_vi (y := xs 2) (congrArg xs (nI_clamp (by decide))) ?_
  refine g_callV (wr := []) (nA := 2) hC V hl.1 (pm_minute l D T o (xs 1) (xs 2) g1 g2 g3 g4 g15 g17 g20 g22 g23 g24 g28 g29 g31 g32 g33) w_1114 w_1115 w_1116 w_9 w_1117 (by decide +kernel) rfl ⟨(Nat.le_of_ble_eq_true rfl), (Nat.le_of_ble_eq_true rfl)⟩ 0 (ci := 8) rfl rfl [0, 1] [] rfl rfl rfl rfl (by decide) (Nat.le_of_ble_eq_true rfl) dL_law_505 ⟨(Nat.le_of_ble_eq_true rfl), (Nat.le_of_ble_eq_true rfl)⟩ rfl (fun r w1 H locs hQ V => ?_)
  obtain ⟨z_3, rfl, rfl, f_4⟩ := hQ
  have V : gW D T A s [] H locs := V
  show W p l e _ s m args below meth c H locs _ _ _ (F0 m 508 ls [.int z_3, .int z_1])
  refine lv_icmp_eq (tgt := 1479) hx hb dL_law_508 (by decide) (fun c_5 => ?_) (fun c_5 => ?_)
  · skip
    exact hE _ _ _ V.2.2.2.1 (lv_sub hl [0, 1, 2, 3] rfl)
  · exact (c_5 (f_2.trans f_4.symm)).elim

set_option maxHeartbeats 4000000 in
set_option maxRecDepth 100000 in
theorem lk_9 {p : Program} {e : Env} {s : State} {m : MethodId} {args : Array Value} {below : List Frame} {meth : Method} {c : Code} {Q : State → Prop} (l : Launch) {b : Nat} {xs : Nat → Int32} {D : va_G} {T : Nat → ClassId} {A : Nat → Prop} (ox n0 n1 n2 n3 n4 n5 n6 n7 n8 n9 n10 s0 s1 s2 s3 s4 s5 s6 s7 s8 s9 s10 im iz rw t0 t1 u0 h0 h1 h2 h3 y0 y1 y2 i0 i1 i2 i3 i4 i5 i6 i7 i8 i9 i10 j0 j1 j2 j3 j4 j5 j6 j7 j8 j9 j10 ra0 ra1 rb0 rb1 rc0 rc1 rd0 rd1 o g1 g2 g3 g4 g15 g17 g20 g22 g23 g24 g28 g29 g31 g32 g33 : Nat) (hC : cX p s m args meth c RL cL_law 4 (some .boolean)) (hX : va_X b 6 xs s s.heap) (hbl : b < s.heap.size) (hbA : ¬ A b) (hE : ∀ (H : Heap) (locs : List Loc) (ls : Array Slot), va_S A s.heap H locs → lv_has ls 4 [(3, .int (nI 0)), (2, .ref o), (1, .ref ox), (0, .ref b)] → W p l e room_1 s m args below meth c H locs 82 14431 Q (F0 m 1479 ls [])) {H : Heap} {locs : List Loc} {ls : Array Slot} (V : gW D T A s (lwW T ox n0 n1 n2 n3 n4 n5 n6 n7 n8 n9 n10 s0 s1 s2 s3 s4 s5 s6 s7 s8 s9 s10 im iz rw t0 t1 u0 h0 h1 h2 h3 y0 y1 y2 i0 i1 i2 i3 i4 i5 i6 i7 i8 i9 i10 j0 j1 j2 j3 j4 j5 j6 j7 j8 j9 j10 ra0 ra1 rb0 rb1 rc0 rc1 rd0 rd1 o g1 g2 g3 g4 g15 g17 g20 g22 g23 g24 g28 g29 g31 g32 g33) H locs) (hl : lv_has ls 4 [(3, .int (nI 0)), (2, .ref o), (1, .ref ox), (0, .ref b)]) : W p l e room_1 s m args below meth c H locs 82 14431 Q (F0 m 513 ls []) := by
  obtain ⟨hx, hb, hr, hml, hown, hts, hlocks⟩ := id hC
  have V := V.sub (ws' := [(ox, .inr (7, [.ref n0, .ref s0, .ref im, .ref iz, .ref rw, .ref t0, .ref u0, .ref h0, .ref y0, .null])), (rw, .inl (T 5, 4, .inr (.inr (.inr (.inr (va_up (va_up (va_up (va_up (fun _ => none) 0 (some ra0)) 1 (some rb0)) 2 (some rc0)) 3 (some rd0))))))), (ra0, .inr (1, [.int (nI 0), .int (nI 0), .ref ra1, .int (nI 0)])), (ra1, .inl (T 1, 40, .inr (.inl (fun _ => 0)))), (rb0, .inr (1, [.int (nI 0), .int (nI 0), .ref rb1, .int (nI 0)])), (rb1, .inl (T 1, 40, .inr (.inl (fun _ => 0)))), (rc0, .inr (1, [.int (nI 0), .int (nI 0), .ref rc1, .int (nI 0)])), (rc1, .inl (T 1, 40, .inr (.inl (fun _ => 0)))), (rd0, .inr (1, [.int (nI 0), .int (nI 0), .ref rd1, .int (nI 0)])), (rd1, .inl (T 1, 40, .inr (.inl (fun _ => 0)))), (o, .inr (8, [.int (nI 0), .ref g1, .ref g2, .ref g3, .ref g4, .int (nI 0), .int (nI 0), .int (nI 0), .int (nI 0), .int (nI 0), .int (nI 0), .int (nI 0), .int (nI 0), .int (nI 0), .int (-1), .ref g15, .int (nI 0), .ref g17, .int (nI 0), .int (nI 0), .ref g20, .int (nI 0), .ref g22, .ref g23, .ref g24, .int (nI 0), .int (nI 0), .int (nI 0), .ref g28, .ref g29, .int (nI 0), .ref g31, .ref g32, .ref g33])), (g31, .inl (T 0, 4, .inl (upd (upd (upd (upd (fun _ => nI 0) 0 (-1)) 1 (-1)) 2 (-1)) 3 (-1))))]) [0, 25, 58, 59, 60, 61, 62, 63, 64, 65, 66, 79] rfl rfl
  refine lv_aload_n hx hb dL_law_513 rfl (lv_at hl 2 rfl) ?_
  refine lv_aload_n hx hb dL_law_514 rfl (lv_at hl 3 rfl) ?_
  refine lv_iload_n hx hb dL_law_515 rfl (lv_at hl 0 rfl) ?_
  refine lv_iconst (v := (nI 1)) hx hb dL_law_516 (by decide +kernel) ?_
  refine lv_iadd hx hb dL_law_517 ?_
  refine g_vi (y := (nI 1)) (by decide +kernel) ?_
  refine va_sld hx hb hX hbl hbA V.2.2.2.1 (vp_in_nI (by decide) (by decide)) dL_law_518 ?_
  refine g_vi (y := xs 1) (congrArg xs (nI_clamp (by decide))) ?_
  refine lv_aload_n hx hb dL_law_519 rfl (lv_at hl 3 rfl) ?_
  refine lv_iload_n hx hb dL_law_520 rfl (lv_at hl 0 rfl) ?_
  refine lv_iconst (v := (nI 2)) hx hb dL_law_521 (by decide +kernel) ?_
  refine lv_iadd hx hb dL_law_522 ?_
  refine g_vi (y := (nI 2)) (by decide +kernel) ?_
  refine va_sld hx hb hX hbl hbA V.2.2.2.1 (vp_in_nI (by decide) (by decide)) dL_law_523 ?_
  refine g_vi (y := xs 2) (congrArg xs (nI_clamp (by decide))) ?_
  refine g_callV (wr := [(o, .inr (8, [.int (nI 0), .ref g1, .ref g2, .ref g3, .ref g4, .int (nI 0), .int (nI 0), .int (nI 0), .int (nI 0), .int (nI 0), .int (nI 0), .int (nI 0), .int (nI 0), .int (nI 0), .int (-1), .ref g15, .int (nI 0), .ref g17, .int (nI 0), .int (nI 0), .ref g20, .int (nI 0), .ref g22, .ref g23, .ref g24, .int (nI 0), .int (nI 0), .int (nI 0), .ref g28, .ref g29, .int (nI 0), .ref g31, .ref g32, .ref g33])), (g31, .inl (T 0, 4, .inl (upd (upd (upd (upd (fun _ => nI 0) 0 (-1)) 1 (-1)) 2 (-1)) 3 (-1))))]) (nA := 2) hC V hl.1 (p_X7_judge l D T ox (xs 1) (xs 2) n0 s0 im iz rw t0 u0 h0 y0 ra0 rb0 rc0 rd0 ra1 rb1 rc1 rd1) w_497 w_498 w_499 w_2 w_500 (by decide +kernel) rfl ⟨(Nat.le_of_ble_eq_true rfl), (Nat.le_of_ble_eq_true rfl)⟩ 0 (ci := 7) rfl rfl [0, 1, 2, 3, 4, 5, 6, 7, 8, 9] [10, 11] rfl rfl rfl rfl (by decide) (Nat.le_of_ble_eq_true rfl) dL_law_524 ⟨(Nat.le_of_ble_eq_true rfl), (Nat.le_of_ble_eq_true rfl)⟩ rfl (fun r w1 H locs hQ V => ?_)
  obtain ⟨z_1, rfl, rfl, f_2⟩ := hQ
  have V : gW D T A s [(o, .inr (8, [.int (nI 0), .ref g1, .ref g2, .ref g3, .ref g4, .int (nI 0), .int (nI 0), .int (nI 0), .int (nI 0), .int (nI 0), .int (nI 0), .int (nI 0), .int (nI 0), .int (nI 0), .int (-1), .ref g15, .int (nI 0), .ref g17, .int (nI 0), .int (nI 0), .ref g20, .int (nI 0), .ref g22, .ref g23, .ref g24, .int (nI 0), .int (nI 0), .int (nI 0), .ref g28, .ref g29, .int (nI 0), .ref g31, .ref g32, .ref g33])), (g31, .inl (T 0, 4, .inl (upd (upd (upd (upd (fun _ => nI 0) 0 (-1)) 1 (-1)) 2 (-1)) 3 (-1))))] H locs := V
  show W p l e _ s m args below meth c H locs _ _ _ (F0 m 527 ls [.int z_1])
  refine lv_aload_n hx hb dL_law_527 rfl (lv_at hl 1 rfl) ?_
  refine lv_aload_n hx hb dL_law_528 rfl (lv_at hl 3 rfl) ?_
  refine lv_iload_n hx hb dL_law_529 rfl (lv_at hl 0 rfl) ?_
  refine lv_iconst (v := (nI 1)) hx hb dL_law_530 (by decide +kernel) ?_
  refine lv_iadd hx hb dL_law_531 ?_
  refine g_vi (y := (nI 1)) (by decide +kernel) ?_
  refine va_sld hx hb hX hbl hbA V.2.2.2.1 (vp_in_nI (by decide) (by decide)) dL_law_532 ?_
  refine g_vi (y := xs 1) (congrArg xs (nI_clamp (by decide))) ?_
  refine lv_aload_n hx hb dL_law_533 rfl (lv_at hl 3 rfl) ?_
  refine lv_iload_n hx hb dL_law_534 rfl (lv_at hl 0 rfl) ?_
  refine lv_iconst (v := (nI 2)) hx hb dL_law_535 (by decide +kernel) ?_
  refine lv_iadd hx hb dL_law_536 ?_
  refine g_vi (y := (nI 2)) (by decide +kernel) ?_
  refine va_sld hx hb hX hbl hbA V.2.2.2.1 (vp_in_nI (by decide) (by decide)) dL_law_537 ?_
  refine g_vi (y := xs 2) (congrArg xs (nI_clamp (by decide))) ?_
  refine g_callV (wr := []) (nA := 2) hC V hl.1 (pm_judge l D T o (xs 1) (xs 2) g1 g2 g3 g4 g15 g17 g20 g22 g23 g24 g28 g29 g31 g32 g33) w_1140 w_1141 w_1142 w_9 w_1143 (by decide +kernel) rfl ⟨(Nat.le_of_ble_eq_true rfl), (Nat.le_of_ble_eq_true rfl)⟩ 0 (ci := 8) rfl rfl [0, 1] [] rfl rfl rfl rfl (by decide) (Nat.le_of_ble_eq_true rfl) dL_law_538 ⟨(Nat.le_of_ble_eq_true rfl), (Nat.le_of_ble_eq_true rfl)⟩ rfl (fun r w1 H locs hQ V => ?_)
  obtain ⟨z_3, rfl, rfl, f_4⟩ := hQ
  have V : gW D T A s [] H locs := V
  show W p l e _ s m args below meth c H locs _ _ _ (F0 m 541 ls [.int z_3, .int z_1])
  refine lv_icmp_eq (tgt := 1479) hx hb dL_law_541 (by decide) (fun c_5 => ?_) (fun c_5 => ?_)
  · skip
    exact hE _ _ _ V.2.2.2.1 (lv_sub hl [0, 1, 2, 3] rfl)
  · exact (c_5 (f_2.trans f_4.symm)).elim

set_option maxHeartbeats 4000000 in
set_option maxRecDepth 100000 in
theorem lk_10 {p : Program} {e : Env} {s : State} {m : MethodId} {args : Array Value} {below : List Frame} {meth : Method} {c : Code} {Q : State → Prop} (l : Launch) {b : Nat} {xs : Nat → Int32} {D : va_G} {T : Nat → ClassId} {A : Nat → Prop} (ox n0 n1 n2 n3 n4 n5 n6 n7 n8 n9 n10 s0 s1 s2 s3 s4 s5 s6 s7 s8 s9 s10 im iz rw t0 t1 u0 h0 h1 h2 h3 y0 y1 y2 i0 i1 i2 i3 i4 i5 i6 i7 i8 i9 i10 j0 j1 j2 j3 j4 j5 j6 j7 j8 j9 j10 ra0 ra1 rb0 rb1 rc0 rc1 rd0 rd1 o g1 g2 g3 g4 g15 g17 g20 g22 g23 g24 g28 g29 g31 g32 g33 : Nat) (hC : cX p s m args meth c RL cL_law 4 (some .boolean)) (hX : va_X b 6 xs s s.heap) (hbl : b < s.heap.size) (hbA : ¬ A b) (hE : ∀ (H : Heap) (locs : List Loc) (ls : Array Slot), va_S A s.heap H locs → lv_has ls 4 [(3, .int (nI 0)), (2, .ref o), (1, .ref ox), (0, .ref b)] → W p l e room_1 s m args below meth c H locs 82 14431 Q (F0 m 1479 ls [])) {H : Heap} {locs : List Loc} {ls : Array Slot} (V : gW D T A s (lwW T ox n0 n1 n2 n3 n4 n5 n6 n7 n8 n9 n10 s0 s1 s2 s3 s4 s5 s6 s7 s8 s9 s10 im iz rw t0 t1 u0 h0 h1 h2 h3 y0 y1 y2 i0 i1 i2 i3 i4 i5 i6 i7 i8 i9 i10 j0 j1 j2 j3 j4 j5 j6 j7 j8 j9 j10 ra0 ra1 rb0 rb1 rc0 rc1 rd0 rd1 o g1 g2 g3 g4 g15 g17 g20 g22 g23 g24 g28 g29 g31 g32 g33) H locs) (hl : lv_has ls 4 [(3, .int (nI 0)), (2, .ref o), (1, .ref ox), (0, .ref b)]) : W p l e room_1 s m args below meth c H locs 82 14431 Q (F0 m 546 ls []) := by
  obtain ⟨hx, hb, hr, hml, hown, hts, hlocks⟩ := id hC
  have V := V.sub (ws' := [(ox, .inr (7, [.ref n0, .ref s0, .ref im, .ref iz, .ref rw, .ref t0, .ref u0, .ref h0, .ref y0, .null])), (rw, .inl (T 5, 4, .inr (.inr (.inr (.inr (va_up (va_up (va_up (va_up (fun _ => none) 0 (some ra0)) 1 (some rb0)) 2 (some rc0)) 3 (some rd0))))))), (ra0, .inr (1, [.int (nI 0), .int (nI 0), .ref ra1, .int (nI 0)])), (ra1, .inl (T 1, 40, .inr (.inl (fun _ => 0)))), (rb0, .inr (1, [.int (nI 0), .int (nI 0), .ref rb1, .int (nI 0)])), (rb1, .inl (T 1, 40, .inr (.inl (fun _ => 0)))), (rc0, .inr (1, [.int (nI 0), .int (nI 0), .ref rc1, .int (nI 0)])), (rc1, .inl (T 1, 40, .inr (.inl (fun _ => 0)))), (rd0, .inr (1, [.int (nI 0), .int (nI 0), .ref rd1, .int (nI 0)])), (rd1, .inl (T 1, 40, .inr (.inl (fun _ => 0)))), (o, .inr (8, [.int (nI 0), .ref g1, .ref g2, .ref g3, .ref g4, .int (nI 0), .int (nI 0), .int (nI 0), .int (nI 0), .int (nI 0), .int (nI 0), .int (nI 0), .int (nI 0), .int (nI 0), .int (-1), .ref g15, .int (nI 0), .ref g17, .int (nI 0), .int (nI 0), .ref g20, .int (nI 0), .ref g22, .ref g23, .ref g24, .int (nI 0), .int (nI 0), .int (nI 0), .ref g28, .ref g29, .int (nI 0), .ref g31, .ref g32, .ref g33])), (g31, .inl (T 0, 4, .inl (upd (upd (upd (upd (fun _ => nI 0) 0 (-1)) 1 (-1)) 2 (-1)) 3 (-1))))]) [0, 25, 58, 59, 60, 61, 62, 63, 64, 65, 66, 79] rfl rfl
  refine lv_aload_n hx hb dL_law_546 rfl (lv_at hl 2 rfl) ?_
  refine lv_aload_n hx hb dL_law_547 rfl (lv_at hl 3 rfl) ?_
  refine lv_iload_n hx hb dL_law_548 rfl (lv_at hl 0 rfl) ?_
  refine lv_iconst (v := (nI 1)) hx hb dL_law_549 (by decide +kernel) ?_
  refine lv_iadd hx hb dL_law_550 ?_
  refine g_vi (y := (nI 1)) (by decide +kernel) ?_
  refine va_sld hx hb hX hbl hbA V.2.2.2.1 (vp_in_nI (by decide) (by decide)) dL_law_551 ?_
  refine g_vi (y := xs 1) (congrArg xs (nI_clamp (by decide))) ?_
  refine g_callV (wr := [(o, .inr (8, [.int (nI 0), .ref g1, .ref g2, .ref g3, .ref g4, .int (nI 0), .int (nI 0), .int (nI 0), .int (nI 0), .int (nI 0), .int (nI 0), .int (nI 0), .int (nI 0), .int (nI 0), .int (-1), .ref g15, .int (nI 0), .ref g17, .int (nI 0), .int (nI 0), .ref g20, .int (nI 0), .ref g22, .ref g23, .ref g24, .int (nI 0), .int (nI 0), .int (nI 0), .ref g28, .ref g29, .int (nI 0), .ref g31, .ref g32, .ref g33])), (g31, .inl (T 0, 4, .inl (upd (upd (upd (upd (fun _ => nI 0) 0 (-1)) 1 (-1)) 2 (-1)) 3 (-1))))]) (nA := 1) hC V hl.1 (p_X7_perform l D T ox (xs 1) n0 s0 im iz rw t0 u0 h0 y0 ra0 rb0 rc0 rd0 ra1 rb1 rc1 rd1) w_520 w_521 w_522 w_2 w_523 (by decide +kernel) rfl ⟨(Nat.le_of_ble_eq_true rfl), (Nat.le_of_ble_eq_true rfl)⟩ 0 (ci := 7) rfl rfl [0, 1, 2, 3, 4, 5, 6, 7, 8, 9] [10, 11] rfl rfl rfl rfl (by decide) (Nat.le_of_ble_eq_true rfl) dL_law_552 ⟨(Nat.le_of_ble_eq_true rfl), (Nat.le_of_ble_eq_true rfl)⟩ rfl (fun r w1 H locs hQ V => ?_)
  obtain ⟨z_1, rfl, rfl, f_2⟩ := hQ
  have V : gW D T A s [(o, .inr (8, [.int (nI 0), .ref g1, .ref g2, .ref g3, .ref g4, .int (nI 0), .int (nI 0), .int (nI 0), .int (nI 0), .int (nI 0), .int (nI 0), .int (nI 0), .int (nI 0), .int (nI 0), .int (-1), .ref g15, .int (nI 0), .ref g17, .int (nI 0), .int (nI 0), .ref g20, .int (nI 0), .ref g22, .ref g23, .ref g24, .int (nI 0), .int (nI 0), .int (nI 0), .ref g28, .ref g29, .int (nI 0), .ref g31, .ref g32, .ref g33])), (g31, .inl (T 0, 4, .inl (upd (upd (upd (upd (fun _ => nI 0) 0 (-1)) 1 (-1)) 2 (-1)) 3 (-1))))] H locs := V
  show W p l e _ s m args below meth c H locs _ _ _ (F0 m 555 ls [.int z_1])
  refine lv_aload_n hx hb dL_law_555 rfl (lv_at hl 1 rfl) ?_
  refine lv_aload_n hx hb dL_law_556 rfl (lv_at hl 3 rfl) ?_
  refine lv_iload_n hx hb dL_law_557 rfl (lv_at hl 0 rfl) ?_
  refine lv_iconst (v := (nI 1)) hx hb dL_law_558 (by decide +kernel) ?_
  refine lv_iadd hx hb dL_law_559 ?_
  refine g_vi (y := (nI 1)) (by decide +kernel) ?_
  refine va_sld hx hb hX hbl hbA V.2.2.2.1 (vp_in_nI (by decide) (by decide)) dL_law_560 ?_
  refine g_vi (y := xs 1) (congrArg xs (nI_clamp (by decide))) ?_
  refine g_callV (wr := []) (nA := 1) hC V hl.1 (pm_perform l D T o (xs 1) g1 g2 g3 g4 g15 g17 g20 g22 g23 g24 g28 g29 g31 g32 g33) w_1166 w_1167 w_1168 w_9 w_1169 (by decide +kernel) rfl ⟨(Nat.le_of_ble_eq_true rfl), (Nat.le_of_ble_eq_true rfl)⟩ 0 (ci := 8) rfl rfl [0, 1] [] rfl rfl rfl rfl (by decide) (Nat.le_of_ble_eq_true rfl) dL_law_561 ⟨(Nat.le_of_ble_eq_true rfl), (Nat.le_of_ble_eq_true rfl)⟩ rfl (fun r w1 H locs hQ V => ?_)
  obtain ⟨z_3, rfl, rfl, f_4⟩ := hQ
  have V : gW D T A s [] H locs := V
  show W p l e _ s m args below meth c H locs _ _ _ (F0 m 564 ls [.int z_3, .int z_1])
  refine lv_icmp_eq (tgt := 1479) hx hb dL_law_564 (by decide) (fun c_5 => ?_) (fun c_5 => ?_)
  · skip
    exact hE _ _ _ V.2.2.2.1 (lv_sub hl [0, 1, 2, 3] rfl)
  · exact (c_5 (f_2.trans f_4.symm)).elim

set_option maxHeartbeats 4000000 in
set_option maxRecDepth 100000 in
theorem lk_11 {p : Program} {e : Env} {s : State} {m : MethodId} {args : Array Value} {below : List Frame} {meth : Method} {c : Code} {Q : State → Prop} (l : Launch) {b : Nat} {xs : Nat → Int32} {D : va_G} {T : Nat → ClassId} {A : Nat → Prop} (ox n0 n1 n2 n3 n4 n5 n6 n7 n8 n9 n10 s0 s1 s2 s3 s4 s5 s6 s7 s8 s9 s10 im iz rw t0 t1 u0 h0 h1 h2 h3 y0 y1 y2 i0 i1 i2 i3 i4 i5 i6 i7 i8 i9 i10 j0 j1 j2 j3 j4 j5 j6 j7 j8 j9 j10 ra0 ra1 rb0 rb1 rc0 rc1 rd0 rd1 o g1 g2 g3 g4 g15 g17 g20 g22 g23 g24 g28 g29 g31 g32 g33 : Nat) (hC : cX p s m args meth c RL cL_law 4 (some .boolean)) (hX : va_X b 6 xs s s.heap) (hbl : b < s.heap.size) (hbA : ¬ A b) (hE : ∀ (H : Heap) (locs : List Loc) (ls : Array Slot), va_S A s.heap H locs → lv_has ls 4 [(3, .int (nI 0)), (2, .ref o), (1, .ref ox), (0, .ref b)] → W p l e room_1 s m args below meth c H locs 82 14431 Q (F0 m 1479 ls [])) {H : Heap} {locs : List Loc} {ls : Array Slot} (V : gW D T A s (lwW T ox n0 n1 n2 n3 n4 n5 n6 n7 n8 n9 n10 s0 s1 s2 s3 s4 s5 s6 s7 s8 s9 s10 im iz rw t0 t1 u0 h0 h1 h2 h3 y0 y1 y2 i0 i1 i2 i3 i4 i5 i6 i7 i8 i9 i10 j0 j1 j2 j3 j4 j5 j6 j7 j8 j9 j10 ra0 ra1 rb0 rb1 rc0 rc1 rd0 rd1 o g1 g2 g3 g4 g15 g17 g20 g22 g23 g24 g28 g29 g31 g32 g33) H locs) (hl : lv_has ls 4 [(3, .int (nI 0)), (2, .ref o), (1, .ref ox), (0, .ref b)]) : W p l e room_1 s m args below meth c H locs 82 14431 Q (F0 m 569 ls []) := by
  obtain ⟨hx, hb, hr, hml, hown, hts, hlocks⟩ := id hC
  have V := V.sub (ws' := [(ox, .inr (7, [.ref n0, .ref s0, .ref im, .ref iz, .ref rw, .ref t0, .ref u0, .ref h0, .ref y0, .null])), (n0, .inr (5, [.int (nI 0), .int (nI 0), .int (nI 0), .int (nI 20), .int (nI 0), .ref n1, .ref n2, .ref n3, .ref n4, .ref n5, .ref n6, .ref n7, .ref n8, .ref n9, .ref n10])), (n1, .inl (T 0, 10, .inl (fun _ => nI 0))), (n2, .inl (T 0, 10, .inl (fun _ => nI 0))), (n3, .inl (T 0, 10, .inl (fun _ => nI 0))), (n4, .inl (T 0, 10, .inl (fun _ => nI 0))), (n5, .inl (T 0, 10, .inl (fun _ => nI 0))), (n6, .inl (T 0, 10, .inl (fun _ => nI 0))), (n7, .inl (T 0, 10, .inl (fun _ => nI 0))), (n8, .inl (T 0, 10, .inl (fun _ => nI 0))), (n9, .inl (T 0, 10, .inl (fun _ => nI 0))), (n10, .inl (T 0, 10, .inl (fun _ => nI 0))), (s0, .inr (5, [.int (nI 0), .int (nI 0), .int (nI 0), .int (nI 20), .int (nI 0), .ref s1, .ref s2, .ref s3, .ref s4, .ref s5, .ref s6, .ref s7, .ref s8, .ref s9, .ref s10])), (s1, .inl (T 0, 10, .inl (fun _ => nI 0))), (s2, .inl (T 0, 10, .inl (fun _ => nI 0))), (s3, .inl (T 0, 10, .inl (fun _ => nI 0))), (s4, .inl (T 0, 10, .inl (fun _ => nI 0))), (s5, .inl (T 0, 10, .inl (fun _ => nI 0))), (s6, .inl (T 0, 10, .inl (fun _ => nI 0))), (s7, .inl (T 0, 10, .inl (fun _ => nI 0))), (s8, .inl (T 0, 10, .inl (fun _ => nI 0))), (s9, .inl (T 0, 10, .inl (fun _ => nI 0))), (s10, .inl (T 0, 10, .inl (fun _ => nI 0))), (o, .inr (8, [.int (nI 0), .ref g1, .ref g2, .ref g3, .ref g4, .int (nI 0), .int (nI 0), .int (nI 0), .int (nI 0), .int (nI 0), .int (nI 0), .int (nI 0), .int (nI 0), .int (nI 0), .int (-1), .ref g15, .int (nI 0), .ref g17, .int (nI 0), .int (nI 0), .ref g20, .int (nI 0), .ref g22, .ref g23, .ref g24, .int (nI 0), .int (nI 0), .int (nI 0), .ref g28, .ref g29, .int (nI 0), .ref g31, .ref g32, .ref g33])), (g1, .inl (T 0, 282, .inl (upd (fun _ => nI 0) 2 (nI 20)))), (g17, .inl (T 0, 94, .inl (fun _ => nI 0)))]) [0, 1, 2, 3, 4, 5, 6, 7, 8, 9, 10, 11, 12, 13, 14, 15, 16, 17, 18, 19, 20, 21, 22, 66, 67, 72] rfl rfl
  refine lv_aload_n hx hb dL_law_569 rfl (lv_at hl 2 rfl) ?_
  refine lv_aload_n hx hb dL_law_570 rfl (lv_at hl 3 rfl) ?_
  refine lv_iload_n hx hb dL_law_571 rfl (lv_at hl 0 rfl) ?_
  refine lv_iconst (v := (nI 1)) hx hb dL_law_572 (by decide +kernel) ?_
  refine lv_iadd hx hb dL_law_573 ?_
  refine g_vi (y := (nI 1)) (by decide +kernel) ?_
  refine va_sld hx hb hX hbl hbA V.2.2.2.1 (vp_in_nI (by decide) (by decide)) dL_law_574 ?_
  refine g_vi (y := xs 1) (congrArg xs (nI_clamp (by decide))) ?_
  refine g_callV (wr := [(o, .inr (8, [.int (nI 0), .ref g1, .ref g2, .ref g3, .ref g4, .int (nI 0), .int (nI 0), .int (nI 0), .int (nI 0), .int (nI 0), .int (nI 0), .int (nI 0), .int (nI 0), .int (nI 0), .int (-1), .ref g15, .int (nI 0), .ref g17, .int (nI 0), .int (nI 0), .ref g20, .int (nI 0), .ref g22, .ref g23, .ref g24, .int (nI 0), .int (nI 0), .int (nI 0), .ref g28, .ref g29, .int (nI 0), .ref g31, .ref g32, .ref g33])), (g1, .inl (T 0, 282, .inl (upd (fun _ => nI 0) 2 (nI 20)))), (g17, .inl (T 0, 94, .inl (fun _ => nI 0)))]) (nA := 1) hC V hl.1 (p_X7_custom l D T ox (xs 1) n0 s0 im iz rw t0 u0 h0 y0 n1 n2 n3 n4 n5 n6 n7 n8 n9 n10 s1 s2 s3 s4 s5 s6 s7 s8 s9 s10) w_528 w_529 w_530 w_2 w_531 (by decide +kernel) rfl ⟨(Nat.le_of_ble_eq_true rfl), (Nat.le_of_ble_eq_true rfl)⟩ 0 (ci := 7) rfl rfl [0, 1, 2, 3, 4, 5, 6, 7, 8, 9, 10, 11, 12, 13, 14, 15, 16, 17, 18, 19, 20, 21, 22] [23, 24, 25] rfl rfl rfl rfl (by decide) (Nat.le_of_ble_eq_true rfl) dL_law_575 ⟨(Nat.le_of_ble_eq_true rfl), (Nat.le_of_ble_eq_true rfl)⟩ rfl (fun r w1 H locs hQ V => ?_)
  obtain ⟨z_1, rfl, rfl, f_2⟩ := hQ
  have V : gW D T A s [(o, .inr (8, [.int (nI 0), .ref g1, .ref g2, .ref g3, .ref g4, .int (nI 0), .int (nI 0), .int (nI 0), .int (nI 0), .int (nI 0), .int (nI 0), .int (nI 0), .int (nI 0), .int (nI 0), .int (-1), .ref g15, .int (nI 0), .ref g17, .int (nI 0), .int (nI 0), .ref g20, .int (nI 0), .ref g22, .ref g23, .ref g24, .int (nI 0), .int (nI 0), .int (nI 0), .ref g28, .ref g29, .int (nI 0), .ref g31, .ref g32, .ref g33])), (g1, .inl (T 0, 282, .inl (upd (fun _ => nI 0) 2 (nI 20)))), (g17, .inl (T 0, 94, .inl (fun _ => nI 0)))] H locs := V
  show W p l e _ s m args below meth c H locs _ _ _ (F0 m 578 ls [.int z_1])
  refine lv_aload_n hx hb dL_law_578 rfl (lv_at hl 1 rfl) ?_
  refine lv_aload_n hx hb dL_law_579 rfl (lv_at hl 3 rfl) ?_
  refine lv_iload_n hx hb dL_law_580 rfl (lv_at hl 0 rfl) ?_
  refine lv_iconst (v := (nI 1)) hx hb dL_law_581 (by decide +kernel) ?_
  refine lv_iadd hx hb dL_law_582 ?_
  refine g_vi (y := (nI 1)) (by decide +kernel) ?_
  refine va_sld hx hb hX hbl hbA V.2.2.2.1 (vp_in_nI (by decide) (by decide)) dL_law_583 ?_
  refine g_vi (y := xs 1) (congrArg xs (nI_clamp (by decide))) ?_
  refine g_callV (wr := []) (nA := 1) hC V hl.1 (pm_custom l D T o (xs 1) g1 g2 g3 g4 g15 g17 g20 g22 g23 g24 g28 g29 g31 g32 g33) w_1170 w_1171 w_1172 w_9 w_1173 (by decide +kernel) rfl ⟨(Nat.le_of_ble_eq_true rfl), (Nat.le_of_ble_eq_true rfl)⟩ 0 (ci := 8) rfl rfl [0, 1, 2] [] rfl rfl rfl rfl (by decide) (Nat.le_of_ble_eq_true rfl) dL_law_584 ⟨(Nat.le_of_ble_eq_true rfl), (Nat.le_of_ble_eq_true rfl)⟩ rfl (fun r w1 H locs hQ V => ?_)
  obtain ⟨z_3, rfl, rfl, f_4⟩ := hQ
  have V : gW D T A s [] H locs := V
  show W p l e _ s m args below meth c H locs _ _ _ (F0 m 587 ls [.int z_3, .int z_1])
  refine lv_icmp_eq (tgt := 1479) hx hb dL_law_587 (by decide) (fun c_5 => ?_) (fun c_5 => ?_)
  · skip
    exact hE _ _ _ V.2.2.2.1 (lv_sub hl [0, 1, 2, 3] rfl)
  · exact (c_5 (f_2.trans f_4.symm)).elim

set_option maxHeartbeats 4000000 in
set_option maxRecDepth 100000 in
theorem lk_12 {p : Program} {e : Env} {s : State} {m : MethodId} {args : Array Value} {below : List Frame} {meth : Method} {c : Code} {Q : State → Prop} (l : Launch) {b : Nat} {xs : Nat → Int32} {D : va_G} {T : Nat → ClassId} {A : Nat → Prop} (ox n0 n1 n2 n3 n4 n5 n6 n7 n8 n9 n10 s0 s1 s2 s3 s4 s5 s6 s7 s8 s9 s10 im iz rw t0 t1 u0 h0 h1 h2 h3 y0 y1 y2 i0 i1 i2 i3 i4 i5 i6 i7 i8 i9 i10 j0 j1 j2 j3 j4 j5 j6 j7 j8 j9 j10 ra0 ra1 rb0 rb1 rc0 rc1 rd0 rd1 o g1 g2 g3 g4 g15 g17 g20 g22 g23 g24 g28 g29 g31 g32 g33 : Nat) (hC : cX p s m args meth c RL cL_law 4 (some .boolean)) (hX : va_X b 6 xs s s.heap) (hbl : b < s.heap.size) (hbA : ¬ A b) (hE : ∀ (H : Heap) (locs : List Loc) (ls : Array Slot), va_S A s.heap H locs → lv_has ls 4 [(3, .int (nI 0)), (2, .ref o), (1, .ref ox), (0, .ref b)] → W p l e room_1 s m args below meth c H locs 82 14431 Q (F0 m 1479 ls [])) {H : Heap} {locs : List Loc} {ls : Array Slot} (V : gW D T A s (lwW T ox n0 n1 n2 n3 n4 n5 n6 n7 n8 n9 n10 s0 s1 s2 s3 s4 s5 s6 s7 s8 s9 s10 im iz rw t0 t1 u0 h0 h1 h2 h3 y0 y1 y2 i0 i1 i2 i3 i4 i5 i6 i7 i8 i9 i10 j0 j1 j2 j3 j4 j5 j6 j7 j8 j9 j10 ra0 ra1 rb0 rb1 rc0 rc1 rd0 rd1 o g1 g2 g3 g4 g15 g17 g20 g22 g23 g24 g28 g29 g31 g32 g33) H locs) (hl : lv_has ls 4 [(3, .int (nI 0)), (2, .ref o), (1, .ref ox), (0, .ref b)]) : W p l e room_1 s m args below meth c H locs 82 14431 Q (F0 m 592 ls []) := by
  obtain ⟨hx, hb, hr, hml, hown, hts, hlocks⟩ := id hC
  have V := V.sub (ws' := [(ox, .inr (7, [.ref n0, .ref s0, .ref im, .ref iz, .ref rw, .ref t0, .ref u0, .ref h0, .ref y0, .null])), (n0, .inr (5, [.int (nI 0), .int (nI 0), .int (nI 0), .int (nI 20), .int (nI 0), .ref n1, .ref n2, .ref n3, .ref n4, .ref n5, .ref n6, .ref n7, .ref n8, .ref n9, .ref n10])), (n1, .inl (T 0, 10, .inl (fun _ => nI 0))), (n2, .inl (T 0, 10, .inl (fun _ => nI 0))), (n3, .inl (T 0, 10, .inl (fun _ => nI 0))), (n4, .inl (T 0, 10, .inl (fun _ => nI 0))), (n5, .inl (T 0, 10, .inl (fun _ => nI 0))), (n6, .inl (T 0, 10, .inl (fun _ => nI 0))), (n7, .inl (T 0, 10, .inl (fun _ => nI 0))), (n8, .inl (T 0, 10, .inl (fun _ => nI 0))), (n9, .inl (T 0, 10, .inl (fun _ => nI 0))), (n10, .inl (T 0, 10, .inl (fun _ => nI 0))), (o, .inr (8, [.int (nI 0), .ref g1, .ref g2, .ref g3, .ref g4, .int (nI 0), .int (nI 0), .int (nI 0), .int (nI 0), .int (nI 0), .int (nI 0), .int (nI 0), .int (nI 0), .int (nI 0), .int (-1), .ref g15, .int (nI 0), .ref g17, .int (nI 0), .int (nI 0), .ref g20, .int (nI 0), .ref g22, .ref g23, .ref g24, .int (nI 0), .int (nI 0), .int (nI 0), .ref g28, .ref g29, .int (nI 0), .ref g31, .ref g32, .ref g33])), (g1, .inl (T 0, 282, .inl (upd (fun _ => nI 0) 2 (nI 20))))]) [0, 1, 2, 3, 4, 5, 6, 7, 8, 9, 10, 11, 66, 67] rfl rfl
  refine lv_aload_n hx hb dL_law_592 rfl (lv_at hl 2 rfl) ?_
  refine lv_aload_n hx hb dL_law_593 rfl (lv_at hl 3 rfl) ?_
  refine lv_iload_n hx hb dL_law_594 rfl (lv_at hl 0 rfl) ?_
  refine lv_iconst (v := (nI 1)) hx hb dL_law_595 (by decide +kernel) ?_
  refine lv_iadd hx hb dL_law_596 ?_
  refine g_vi (y := (nI 1)) (by decide +kernel) ?_
  refine va_sld hx hb hX hbl hbA V.2.2.2.1 (vp_in_nI (by decide) (by decide)) dL_law_597 ?_
  refine g_vi (y := xs 1) (congrArg xs (nI_clamp (by decide))) ?_
  refine g_callV (wr := [(o, .inr (8, [.int (nI 0), .ref g1, .ref g2, .ref g3, .ref g4, .int (nI 0), .int (nI 0), .int (nI 0), .int (nI 0), .int (nI 0), .int (nI 0), .int (nI 0), .int (nI 0), .int (nI 0), .int (-1), .ref g15, .int (nI 0), .ref g17, .int (nI 0), .int (nI 0), .ref g20, .int (nI 0), .ref g22, .ref g23, .ref g24, .int (nI 0), .int (nI 0), .int (nI 0), .ref g28, .ref g29, .int (nI 0), .ref g31, .ref g32, .ref g33])), (g1, .inl (T 0, 282, .inl (upd (fun _ => nI 0) 2 (nI 20))))]) (nA := 1) hC V hl.1 (p_X7_live l D T ox (xs 1) n0 s0 im iz rw t0 u0 h0 y0 n1 n2 n3 n4 n5 n6 n7 n8 n9 n10) w_553 w_554 w_555 w_2 w_556 (by decide +kernel) rfl ⟨(Nat.le_of_ble_eq_true rfl), (Nat.le_of_ble_eq_true rfl)⟩ 0 (ci := 7) rfl rfl [0, 1, 2, 3, 4, 5, 6, 7, 8, 9, 10, 11] [12, 13] rfl rfl rfl rfl (by decide) (Nat.le_of_ble_eq_true rfl) dL_law_598 ⟨(Nat.le_of_ble_eq_true rfl), (Nat.le_of_ble_eq_true rfl)⟩ rfl (fun r w1 H locs hQ V => ?_)
  obtain ⟨z_1, rfl, rfl, f_2⟩ := hQ
  have V : gW D T A s [(o, .inr (8, [.int (nI 0), .ref g1, .ref g2, .ref g3, .ref g4, .int (nI 0), .int (nI 0), .int (nI 0), .int (nI 0), .int (nI 0), .int (nI 0), .int (nI 0), .int (nI 0), .int (nI 0), .int (-1), .ref g15, .int (nI 0), .ref g17, .int (nI 0), .int (nI 0), .ref g20, .int (nI 0), .ref g22, .ref g23, .ref g24, .int (nI 0), .int (nI 0), .int (nI 0), .ref g28, .ref g29, .int (nI 0), .ref g31, .ref g32, .ref g33])), (g1, .inl (T 0, 282, .inl (upd (fun _ => nI 0) 2 (nI 20))))] H locs := V
  show W p l e _ s m args below meth c H locs _ _ _ (F0 m 601 ls [.int z_1])
  refine lv_aload_n hx hb dL_law_601 rfl (lv_at hl 1 rfl) ?_
  refine lv_aload_n hx hb dL_law_602 rfl (lv_at hl 3 rfl) ?_
  refine lv_iload_n hx hb dL_law_603 rfl (lv_at hl 0 rfl) ?_
  refine lv_iconst (v := (nI 1)) hx hb dL_law_604 (by decide +kernel) ?_
  refine lv_iadd hx hb dL_law_605 ?_
  refine g_vi (y := (nI 1)) (by decide +kernel) ?_
  refine va_sld hx hb hX hbl hbA V.2.2.2.1 (vp_in_nI (by decide) (by decide)) dL_law_606 ?_
  refine g_vi (y := xs 1) (congrArg xs (nI_clamp (by decide))) ?_
  refine g_callV (wr := []) (nA := 1) hC V hl.1 (pm_live l D T o (xs 1) g1 g2 g3 g4 g15 g17 g20 g22 g23 g24 g28 g29 g31 g32 g33) w_1187 w_1188 w_1189 w_9 w_1190 (by decide +kernel) rfl ⟨(Nat.le_of_ble_eq_true rfl), (Nat.le_of_ble_eq_true rfl)⟩ 0 (ci := 8) rfl rfl [0, 1] [] rfl rfl rfl rfl (by decide) (Nat.le_of_ble_eq_true rfl) dL_law_607 ⟨(Nat.le_of_ble_eq_true rfl), (Nat.le_of_ble_eq_true rfl)⟩ rfl (fun r w1 H locs hQ V => ?_)
  obtain ⟨z_3, rfl, rfl, f_4⟩ := hQ
  have V : gW D T A s [] H locs := V
  show W p l e _ s m args below meth c H locs _ _ _ (F0 m 610 ls [.int z_3, .int z_1])
  refine lv_icmp_eq (tgt := 1479) hx hb dL_law_610 (by decide) (fun c_5 => ?_) (fun c_5 => ?_)
  · skip
    exact hE _ _ _ V.2.2.2.1 (lv_sub hl [0, 1, 2, 3] rfl)
  · exact (c_5 (f_2.trans f_4.symm)).elim

set_option maxHeartbeats 4000000 in
set_option maxRecDepth 100000 in
theorem lk_13 {p : Program} {e : Env} {s : State} {m : MethodId} {args : Array Value} {below : List Frame} {meth : Method} {c : Code} {Q : State → Prop} (l : Launch) {b : Nat} {xs : Nat → Int32} {D : va_G} {T : Nat → ClassId} {A : Nat → Prop} (ox n0 n1 n2 n3 n4 n5 n6 n7 n8 n9 n10 s0 s1 s2 s3 s4 s5 s6 s7 s8 s9 s10 im iz rw t0 t1 u0 h0 h1 h2 h3 y0 y1 y2 i0 i1 i2 i3 i4 i5 i6 i7 i8 i9 i10 j0 j1 j2 j3 j4 j5 j6 j7 j8 j9 j10 ra0 ra1 rb0 rb1 rc0 rc1 rd0 rd1 o g1 g2 g3 g4 g15 g17 g20 g22 g23 g24 g28 g29 g31 g32 g33 : Nat) (hC : cX p s m args meth c RL cL_law 4 (some .boolean)) (hX : va_X b 6 xs s s.heap) (hbl : b < s.heap.size) (hbA : ¬ A b) (hE : ∀ (H : Heap) (locs : List Loc) (ls : Array Slot), va_S A s.heap H locs → lv_has ls 4 [(3, .int (nI 0)), (2, .ref o), (1, .ref ox), (0, .ref b)] → W p l e room_1 s m args below meth c H locs 82 14431 Q (F0 m 1479 ls [])) {H : Heap} {locs : List Loc} {ls : Array Slot} (V : gW D T A s (lwW T ox n0 n1 n2 n3 n4 n5 n6 n7 n8 n9 n10 s0 s1 s2 s3 s4 s5 s6 s7 s8 s9 s10 im iz rw t0 t1 u0 h0 h1 h2 h3 y0 y1 y2 i0 i1 i2 i3 i4 i5 i6 i7 i8 i9 i10 j0 j1 j2 j3 j4 j5 j6 j7 j8 j9 j10 ra0 ra1 rb0 rb1 rc0 rc1 rd0 rd1 o g1 g2 g3 g4 g15 g17 g20 g22 g23 g24 g28 g29 g31 g32 g33) H locs) (hl : lv_has ls 4 [(3, .int (nI 0)), (2, .ref o), (1, .ref ox), (0, .ref b)]) : W p l e room_1 s m args below meth c H locs 82 14431 Q (F0 m 615 ls []) := by
  obtain ⟨hx, hb, hr, hml, hown, hts, hlocks⟩ := id hC
  have V := V.sub (ws' := [(ox, .inr (7, [.ref n0, .ref s0, .ref im, .ref iz, .ref rw, .ref t0, .ref u0, .ref h0, .ref y0, .null])), (n0, .inr (5, [.int (nI 0), .int (nI 0), .int (nI 0), .int (nI 20), .int (nI 0), .ref n1, .ref n2, .ref n3, .ref n4, .ref n5, .ref n6, .ref n7, .ref n8, .ref n9, .ref n10])), (n1, .inl (T 0, 10, .inl (fun _ => nI 0))), (n2, .inl (T 0, 10, .inl (fun _ => nI 0))), (n3, .inl (T 0, 10, .inl (fun _ => nI 0))), (n4, .inl (T 0, 10, .inl (fun _ => nI 0))), (n5, .inl (T 0, 10, .inl (fun _ => nI 0))), (n6, .inl (T 0, 10, .inl (fun _ => nI 0))), (n7, .inl (T 0, 10, .inl (fun _ => nI 0))), (n8, .inl (T 0, 10, .inl (fun _ => nI 0))), (n9, .inl (T 0, 10, .inl (fun _ => nI 0))), (n10, .inl (T 0, 10, .inl (fun _ => nI 0))), (o, .inr (8, [.int (nI 0), .ref g1, .ref g2, .ref g3, .ref g4, .int (nI 0), .int (nI 0), .int (nI 0), .int (nI 0), .int (nI 0), .int (nI 0), .int (nI 0), .int (nI 0), .int (nI 0), .int (-1), .ref g15, .int (nI 0), .ref g17, .int (nI 0), .int (nI 0), .ref g20, .int (nI 0), .ref g22, .ref g23, .ref g24, .int (nI 0), .int (nI 0), .int (nI 0), .ref g28, .ref g29, .int (nI 0), .ref g31, .ref g32, .ref g33])), (g1, .inl (T 0, 282, .inl (upd (fun _ => nI 0) 2 (nI 20))))]) [0, 1, 2, 3, 4, 5, 6, 7, 8, 9, 10, 11, 66, 67] rfl rfl
  refine lv_aload_n hx hb dL_law_615 rfl (lv_at hl 2 rfl) ?_
  refine lv_aload_n hx hb dL_law_616 rfl (lv_at hl 3 rfl) ?_
  refine lv_iload_n hx hb dL_law_617 rfl (lv_at hl 0 rfl) ?_
  refine lv_iconst (v := (nI 1)) hx hb dL_law_618 (by decide +kernel) ?_
  refine lv_iadd hx hb dL_law_619 ?_
  refine g_vi (y := (nI 1)) (by decide +kernel) ?_
  refine va_sld hx hb hX hbl hbA V.2.2.2.1 (vp_in_nI (by decide) (by decide)) dL_law_620 ?_
  refine g_vi (y := xs 1) (congrArg xs (nI_clamp (by decide))) ?_
  refine lv_aload_n hx hb dL_law_621 rfl (lv_at hl 3 rfl) ?_
  refine lv_iload_n hx hb dL_law_622 rfl (lv_at hl 0 rfl) ?_
  refine lv_iconst (v := (nI 2)) hx hb dL_law_623 (by decide +kernel) ?_
  refine lv_iadd hx hb dL_law_624 ?_
  refine g_vi (y := (nI 2)) (by decide +kernel) ?_
  refine va_sld hx hb hX hbl hbA V.2.2.2.1 (vp_in_nI (by decide) (by decide)) dL_law_625 ?_
  refine g_vi (y := xs 2) (congrArg xs (nI_clamp (by decide))) ?_
  refine g_callV (wr := [(o, .inr (8, [.int (nI 0), .ref g1, .ref g2, .ref g3, .ref g4, .int (nI 0), .int (nI 0), .int (nI 0), .int (nI 0), .int (nI 0), .int (nI 0), .int (nI 0), .int (nI 0), .int (nI 0), .int (-1), .ref g15, .int (nI 0), .ref g17, .int (nI 0), .int (nI 0), .ref g20, .int (nI 0), .ref g22, .ref g23, .ref g24, .int (nI 0), .int (nI 0), .int (nI 0), .ref g28, .ref g29, .int (nI 0), .ref g31, .ref g32, .ref g33])), (g1, .inl (T 0, 282, .inl (upd (fun _ => nI 0) 2 (nI 20))))]) (nA := 2) hC V hl.1 (p_X7_day l D T ox (xs 1) (xs 2) n0 s0 im iz rw t0 u0 h0 y0 n1 n2 n3 n4 n5 n6 n7 n8 n9 n10) w_557 w_558 w_559 w_2 w_560 (by decide +kernel) rfl ⟨(Nat.le_of_ble_eq_true rfl), (Nat.le_of_ble_eq_true rfl)⟩ 0 (ci := 7) rfl rfl [0, 1, 2, 3, 4, 5, 6, 7, 8, 9, 10, 11] [12, 13] rfl rfl rfl rfl (by decide) (Nat.le_of_ble_eq_true rfl) dL_law_626 ⟨(Nat.le_of_ble_eq_true rfl), (Nat.le_of_ble_eq_true rfl)⟩ rfl (fun r w1 H locs hQ V => ?_)
  obtain ⟨z_1, rfl, rfl, f_2⟩ := hQ
  have V : gW D T A s [(o, .inr (8, [.int (nI 0), .ref g1, .ref g2, .ref g3, .ref g4, .int (nI 0), .int (nI 0), .int (nI 0), .int (nI 0), .int (nI 0), .int (nI 0), .int (nI 0), .int (nI 0), .int (nI 0), .int (-1), .ref g15, .int (nI 0), .ref g17, .int (nI 0), .int (nI 0), .ref g20, .int (nI 0), .ref g22, .ref g23, .ref g24, .int (nI 0), .int (nI 0), .int (nI 0), .ref g28, .ref g29, .int (nI 0), .ref g31, .ref g32, .ref g33])), (g1, .inl (T 0, 282, .inl (upd (fun _ => nI 0) 2 (nI 20))))] H locs := V
  show W p l e _ s m args below meth c H locs _ _ _ (F0 m 629 ls [.int z_1])
  refine lv_aload_n hx hb dL_law_629 rfl (lv_at hl 1 rfl) ?_
  refine lv_aload_n hx hb dL_law_630 rfl (lv_at hl 3 rfl) ?_
  refine lv_iload_n hx hb dL_law_631 rfl (lv_at hl 0 rfl) ?_
  refine lv_iconst (v := (nI 1)) hx hb dL_law_632 (by decide +kernel) ?_
  refine lv_iadd hx hb dL_law_633 ?_
  refine g_vi (y := (nI 1)) (by decide +kernel) ?_
  refine va_sld hx hb hX hbl hbA V.2.2.2.1 (vp_in_nI (by decide) (by decide)) dL_law_634 ?_
  refine g_vi (y := xs 1) (congrArg xs (nI_clamp (by decide))) ?_
  refine lv_aload_n hx hb dL_law_635 rfl (lv_at hl 3 rfl) ?_
  refine lv_iload_n hx hb dL_law_636 rfl (lv_at hl 0 rfl) ?_
  refine lv_iconst (v := (nI 2)) hx hb dL_law_637 (by decide +kernel) ?_
  refine lv_iadd hx hb dL_law_638 ?_
  refine g_vi (y := (nI 2)) (by decide +kernel) ?_
  refine va_sld hx hb hX hbl hbA V.2.2.2.1 (vp_in_nI (by decide) (by decide)) dL_law_639 ?_
  refine g_vi (y := xs 2) (congrArg xs (nI_clamp (by decide))) ?_
  refine g_callV (wr := []) (nA := 2) hC V hl.1 (pm_day l D T o (xs 1) (xs 2) g1 g2 g3 g4 g15 g17 g20 g22 g23 g24 g28 g29 g31 g32 g33) w_1191 w_1192 w_1193 w_9 w_1194 (by decide +kernel) rfl ⟨(Nat.le_of_ble_eq_true rfl), (Nat.le_of_ble_eq_true rfl)⟩ 0 (ci := 8) rfl rfl [0, 1] [] rfl rfl rfl rfl (by decide) (Nat.le_of_ble_eq_true rfl) dL_law_640 ⟨(Nat.le_of_ble_eq_true rfl), (Nat.le_of_ble_eq_true rfl)⟩ rfl (fun r w1 H locs hQ V => ?_)
  obtain ⟨z_3, rfl, rfl, f_4⟩ := hQ
  have V : gW D T A s [] H locs := V
  show W p l e _ s m args below meth c H locs _ _ _ (F0 m 643 ls [.int z_3, .int z_1])
  refine lv_icmp_eq (tgt := 1479) hx hb dL_law_643 (by decide) (fun c_5 => ?_) (fun c_5 => ?_)
  · skip
    exact hE _ _ _ V.2.2.2.1 (lv_sub hl [0, 1, 2, 3] rfl)
  · exact (c_5 (f_2.trans f_4.symm)).elim
