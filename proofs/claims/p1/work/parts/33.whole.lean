set_option maxHeartbeats 4000000 in
set_option maxRecDepth 100000 in
theorem whole_start {p : Program} {e : Env} {s : State} {m : MethodId} {below : List Frame} {meth : Method} {c : Code} (l : Launch) {b L : Nat} {xs : Nat → Int32} (hL : L ≤ 6) (C0 : lw_At p s m meth c b L xs) : W p l e room_1 s m #[Value.ref b] below meth c s.heap [] 0 0 (lw_Z below #[Value.ref b] s) (entryFrame m ([Value.ref b] : List Value).toArray 4) := by
  obtain ⟨hx, hb, hr, hml, hown, hts0, hX, hbl, hlocks, hgv⟩ := id C0
  obtain ⟨D, T, hK, hN⟩ := g_start hts0
  have hC : cX p s m #[Value.ref b] meth c RL cL_law 4 (some .boolean) := ⟨hx, hb, hr, hml, hown, fun w h => hts0 w (gT_tbl w h), hlocks⟩
  obtain ⟨A, hAe⟩ : ∃ A : Nat → Prop, A = fun q => s.heap.size ≤ q := ⟨_, rfl⟩
  have hbA : ¬ A b := by rw [hAe]; exact Nat.not_le.mpr hbl
  have V : gW D T A s [] s.heap [] := ⟨hK, fun k q h => by simp at h, ⟨fun i j p q h => by simp at h, fun k q h => by simp at h⟩, va_S.rf, fun q h => by rw [hAe]; exact h, hN⟩
  have hl := lv_entry ([.ref b]) (n := 4) (Nat.le_of_ble_eq_true rfl)
  rw [lg_entry_eq]
  generalize (lg_sl ([.ref b]) ++ List.replicate (4 - (lg_sl ([.ref b])).length) Slot.unset).toArray = ls at hl ⊢
  have hl : lv_has ls 4 [(0, .ref b)] := hl
  have hts : ∀ w ∈ gT, w.before #[Value.ref b] s = true := hC.2.2.2.2.2.1
  generalize hH : s.heap = H at V ⊢
  clear hH
  generalize hlo : ([] : List Loc) = locs at V ⊢
  clear hlo
  refine g_new hC V (ci := 7) uwX7 tyX7 tyX7_ok w_19 w_20 w_2 rfl (fs := [.null, .null, .null, .null, .null, .null, .null, .null, .null, .null]) (by decide +kernel) (Nat.le_of_ble_eq_true rfl) (Nat.le_of_ble_eq_true rfl) dL_law_0 (fun ox H V => ?_)
  have V : gW D T A s [(ox, .inr (7, [.null, .null, .null, .null, .null, .null, .null, .null, .null, .null]))] H locs := V
  refine lv_dup hx hb dL_law_3 rfl ?_
  refine g_callI (wr := []) (nA := 0) hC V hl.1 (c_X_init l D T ox) w_23 w_2 w_21 w_22 rfl (by decide +kernel) rfl ⟨(Nat.le_of_ble_eq_true rfl), (Nat.le_of_ble_eq_true rfl)⟩ [0] [] rfl rfl rfl rfl (by decide) (Nat.le_of_ble_eq_true rfl) dL_law_4 ⟨(Nat.le_of_ble_eq_true rfl), (Nat.le_of_ble_eq_true rfl)⟩ rfl (fun r w1 H locs hQ V => ?_)
  obtain ⟨n0, n1, n2, n3, n4, n5, n6, n7, n8, n9, n10, s0, s1, s2, s3, s4, s5, s6, s7, s8, s9, s10, im, iz, rw, t0, t1, u0, h0, h1, h2, h3, y0, y1, y2, i0, i1, i2, i3, i4, i5, i6, i7, i8, i9, i10, j0, j1, j2, j3, j4, j5, j6, j7, j8, j9, j10, ra0, ra1, rb0, rb1, rc0, rc1, rd0, rd1, rfl, rfl⟩ := hQ
  have V : gW D T A s [(ox, .inr (7, [.ref n0, .ref s0, .ref im, .ref iz, .ref rw, .ref t0, .ref u0, .ref h0, .ref y0, .null])), (n0, .inr (5, [.int (nI 0), .int (nI 0), .int (nI 0), .int (nI 20), .int (nI 0), .ref n1, .ref n2, .ref n3, .ref n4, .ref n5, .ref n6, .ref n7, .ref n8, .ref n9, .ref n10])), (n1, .inl (T 0, 10, .inl (fun _ => nI 0))), (n2, .inl (T 0, 10, .inl (fun _ => nI 0))), (n3, .inl (T 0, 10, .inl (fun _ => nI 0))), (n4, .inl (T 0, 10, .inl (fun _ => nI 0))), (n5, .inl (T 0, 10, .inl (fun _ => nI 0))), (n6, .inl (T 0, 10, .inl (fun _ => nI 0))), (n7, .inl (T 0, 10, .inl (fun _ => nI 0))), (n8, .inl (T 0, 10, .inl (fun _ => nI 0))), (n9, .inl (T 0, 10, .inl (fun _ => nI 0))), (n10, .inl (T 0, 10, .inl (fun _ => nI 0))), (s0, .inr (5, [.int (nI 0), .int (nI 0), .int (nI 0), .int (nI 20), .int (nI 0), .ref s1, .ref s2, .ref s3, .ref s4, .ref s5, .ref s6, .ref s7, .ref s8, .ref s9, .ref s10])), (s1, .inl (T 0, 10, .inl (fun _ => nI 0))), (s2, .inl (T 0, 10, .inl (fun _ => nI 0))), (s3, .inl (T 0, 10, .inl (fun _ => nI 0))), (s4, .inl (T 0, 10, .inl (fun _ => nI 0))), (s5, .inl (T 0, 10, .inl (fun _ => nI 0))), (s6, .inl (T 0, 10, .inl (fun _ => nI 0))), (s7, .inl (T 0, 10, .inl (fun _ => nI 0))), (s8, .inl (T 0, 10, .inl (fun _ => nI 0))), (s9, .inl (T 0, 10, .inl (fun _ => nI 0))), (s10, .inl (T 0, 10, .inl (fun _ => nI 0))), (im, .inl (T 4, 2, .inr (.inr (.inr (.inr (va_up (va_up (fun _ => none) 0 (some i0)) 1 (some j0))))))), (iz, .inl (T 2, 2, .inl (fun _ => nI 0))), (rw, .inl (T 5, 4, .inr (.inr (.inr (.inr (va_up (va_up (va_up (va_up (fun _ => none) 0 (some ra0)) 1 (some rb0)) 2 (some rc0)) 3 (some rd0))))))), (t0, .inr (2, [.int (nI 0), .int (nI 0), .int (-1), .ref t1, .int (nI 0), .int (nI 0), .int (nI 0), .int (nI 0)])), (t1, .inl (T 3, 900, .inl (fun _ => nI 0))), (u0, .inr (6, [.int (nI 0), .int (nI 0), .int (nI 0)])), (h0, .inr (3, [.ref h1, .int (nI 0), .int (nI 0), .int (nI 0), .ref h2, .ref h3])), (h1, .inl (T 0, 10, .inl (fun _ => nI 0))), (h2, .inl (T 0, 10, .inl (fun _ => nI 0))), (h3, .inl (T 0, 12, .inl (fun _ => nI 0))), (y0, .inr (0, [.int (nI 0), .ref y1, .ref y2])), (y1, .inl (T 0, 7, .inl (fun _ => nI 0))), (y2, .inl (T 0, 7, .inl (fun _ => nI 0))), (i0, .inr (5, [.int (nI 0), .int (nI 0), .int (nI 0), .int (nI 20), .int (nI 0), .ref i1, .ref i2, .ref i3, .ref i4, .ref i5, .ref i6, .ref i7, .ref i8, .ref i9, .ref i10])), (i1, .inl (T 0, 10, .inl (fun _ => nI 0))), (i2, .inl (T 0, 10, .inl (fun _ => nI 0))), (i3, .inl (T 0, 10, .inl (fun _ => nI 0))), (i4, .inl (T 0, 10, .inl (fun _ => nI 0))), (i5, .inl (T 0, 10, .inl (fun _ => nI 0))), (i6, .inl (T 0, 10, .inl (fun _ => nI 0))), (i7, .inl (T 0, 10, .inl (fun _ => nI 0))), (i8, .inl (T 0, 10, .inl (fun _ => nI 0))), (i9, .inl (T 0, 10, .inl (fun _ => nI 0))), (i10, .inl (T 0, 10, .inl (fun _ => nI 0))), (j0, .inr (5, [.int (nI 0), .int (nI 0), .int (nI 0), .int (nI 20), .int (nI 0), .ref j1, .ref j2, .ref j3, .ref j4, .ref j5, .ref j6, .ref j7, .ref j8, .ref j9, .ref j10])), (j1, .inl (T 0, 10, .inl (fun _ => nI 0))), (j2, .inl (T 0, 10, .inl (fun _ => nI 0))), (j3, .inl (T 0, 10, .inl (fun _ => nI 0))), (j4, .inl (T 0, 10, .inl (fun _ => nI 0))), (j5, .inl (T 0, 10, .inl (fun _ => nI 0))), (j6, .inl (T 0, 10, .inl (fun _ => nI 0))), (j7, .inl (T 0, 10, .inl (fun _ => nI 0))), (j8, .inl (T 0, 10, .inl (fun _ => nI 0))), (j9, .inl (T 0, 10, .inl (fun _ => nI 0))), (j10, .inl (T 0, 10, .inl (fun _ => nI 0))), (ra0, .inr (1, [.int (nI 0), .int (nI 0), .ref ra1, .int (nI 0)])), (ra1, .inl (T 1, 40, .inr (.inl (fun _ => 0)))), (rb0, .inr (1, [.int (nI 0), .int (nI 0), .ref rb1, .int (nI 0)])), (rb1, .inl (T 1, 40, .inr (.inl (fun _ => 0)))), (rc0, .inr (1, [.int (nI 0), .int (nI 0), .ref rc1, .int (nI 0)])), (rc1, .inl (T 1, 40, .inr (.inl (fun _ => 0)))), (rd0, .inr (1, [.int (nI 0), .int (nI 0), .ref rd1, .int (nI 0)])), (rd1, .inl (T 1, 40, .inr (.inl (fun _ => 0))))] H locs := V
  show W p l e _ s m args below meth c H locs _ _ _ (F0 m 7 ls [.ref ox])
  refine lv_astore_n (lv' := [(1, .ref ox), (0, .ref b)]) hx hb dL_law_7 rfl hl (by decide) rfl (fun ls hl => ?_)
  refine g_new hC V (ci := 8) uwX8 tyX8 tyX8_ok w_906 w_907 w_9 rfl (fs := [.int (nI 0), .null, .null, .null, .null, .int (nI 0), .int (nI 0), .int (nI 0), .int (nI 0), .int (nI 0), .int (nI 0), .int (nI 0), .int (nI 0), .int (nI 0), .int (nI 0), .null, .int (nI 0), .null, .int (nI 0), .int (nI 0), .null, .int (nI 0), .null, .null, .null, .int (nI 0), .int (nI 0), .int (nI 0), .null, .null, .int (nI 0), .null, .null, .null]) (by decide +kernel) (Nat.le_of_ble_eq_true rfl) (Nat.le_of_ble_eq_true rfl) dL_law_8 (fun o H V => ?_)
  have V : gW D T A s [(ox, .inr (7, [.ref n0, .ref s0, .ref im, .ref iz, .ref rw, .ref t0, .ref u0, .ref h0, .ref y0, .null])), (n0, .inr (5, [.int (nI 0), .int (nI 0), .int (nI 0), .int (nI 20), .int (nI 0), .ref n1, .ref n2, .ref n3, .ref n4, .ref n5, .ref n6, .ref n7, .ref n8, .ref n9, .ref n10])), (n1, .inl (T 0, 10, .inl (fun _ => nI 0))), (n2, .inl (T 0, 10, .inl (fun _ => nI 0))), (n3, .inl (T 0, 10, .inl (fun _ => nI 0))), (n4, .inl (T 0, 10, .inl (fun _ => nI 0))), (n5, .inl (T 0, 10, .inl (fun _ => nI 0))), (n6, .inl (T 0, 10, .inl (fun _ => nI 0))), (n7, .inl (T 0, 10, .inl (fun _ => nI 0))), (n8, .inl (T 0, 10, .inl (fun _ => nI 0))), (n9, .inl (T 0, 10, .inl (fun _ => nI 0))), (n10, .inl (T 0, 10, .inl (fun _ => nI 0))), (s0, .inr (5, [.int (nI 0), .int (nI 0), .int (nI 0), .int (nI 20), .int (nI 0), .ref s1, .ref s2, .ref s3, .ref s4, .ref s5, .ref s6, .ref s7, .ref s8, .ref s9, .ref s10])), (s1, .inl (T 0, 10, .inl (fun _ => nI 0))), (s2, .inl (T 0, 10, .inl (fun _ => nI 0))), (s3, .inl (T 0, 10, .inl (fun _ => nI 0))), (s4, .inl (T 0, 10, .inl (fun _ => nI 0))), (s5, .inl (T 0, 10, .inl (fun _ => nI 0))), (s6, .inl (T 0, 10, .inl (fun _ => nI 0))), (s7, .inl (T 0, 10, .inl (fun _ => nI 0))), (s8, .inl (T 0, 10, .inl (fun _ => nI 0))), (s9, .inl (T 0, 10, .inl (fun _ => nI 0))), (s10, .inl (T 0, 10, .inl (fun _ => nI 0))), (im, .inl (T 4, 2, .inr (.inr (.inr (.inr (va_up (va_up (fun _ => none) 0 (some i0)) 1 (some j0))))))), (iz, .inl (T 2, 2, .inl (fun _ => nI 0))), (rw, .inl (T 5, 4, .inr (.inr (.inr (.inr (va_up (va_up (va_up (va_up (fun _ => none) 0 (some ra0)) 1 (some rb0)) 2 (some rc0)) 3 (some rd0))))))), (t0, .inr (2, [.int (nI 0), .int (nI 0), .int (-1), .ref t1, .int (nI 0), .int (nI 0), .int (nI 0), .int (nI 0)])), (t1, .inl (T 3, 900, .inl (fun _ => nI 0))), (u0, .inr (6, [.int (nI 0), .int (nI 0), .int (nI 0)])), (h0, .inr (3, [.ref h1, .int (nI 0), .int (nI 0), .int (nI 0), .ref h2, .ref h3])), (h1, .inl (T 0, 10, .inl (fun _ => nI 0))), (h2, .inl (T 0, 10, .inl (fun _ => nI 0))), (h3, .inl (T 0, 12, .inl (fun _ => nI 0))), (y0, .inr (0, [.int (nI 0), .ref y1, .ref y2])), (y1, .inl (T 0, 7, .inl (fun _ => nI 0))), (y2, .inl (T 0, 7, .inl (fun _ => nI 0))), (i0, .inr (5, [.int (nI 0), .int (nI 0), .int (nI 0), .int (nI 20), .int (nI 0), .ref i1, .ref i2, .ref i3, .ref i4, .ref i5, .ref i6, .ref i7, .ref i8, .ref i9, .ref i10])), (i1, .inl (T 0, 10, .inl (fun _ => nI 0))), (i2, .inl (T 0, 10, .inl (fun _ => nI 0))), (i3, .inl (T 0, 10, .inl (fun _ => nI 0))), (i4, .inl (T 0, 10, .inl (fun _ => nI 0))), (i5, .inl (T 0, 10, .inl (fun _ => nI 0))), (i6, .inl (T 0, 10, .inl (fun _ => nI 0))), (i7, .inl (T 0, 10, .inl (fun _ => nI 0))), (i8, .inl (T 0, 10, .inl (fun _ => nI 0))), (i9, .inl (T 0, 10, .inl (fun _ => nI 0))), (i10, .inl (T 0, 10, .inl (fun _ => nI 0))), (j0, .inr (5, [.int (nI 0), .int (nI 0), .int (nI 0), .int (nI 20), .int (nI 0), .ref j1, .ref j2, .ref j3, .ref j4, .ref j5, .ref j6, .ref j7, .ref j8, .ref j9, .ref j10])), (j1, .inl (T 0, 10, .inl (fun _ => nI 0))), (j2, .inl (T 0, 10, .inl (fun _ => nI 0))), (j3, .inl (T 0, 10, .inl (fun _ => nI 0))), (j4, .inl (T 0, 10, .inl (fun _ => nI 0))), (j5, .inl (T 0, 10, .inl (fun _ => nI 0))), (j6, .inl (T 0, 10, .inl (fun _ => nI 0))), (j7, .inl (T 0, 10, .inl (fun _ => nI 0))), (j8, .inl (T 0, 10, .inl (fun _ => nI 0))), (j9, .inl (T 0, 10, .inl (fun _ => nI 0))), (j10, .inl (T 0, 10, .inl (fun _ => nI 0))), (ra0, .inr (1, [.int (nI 0), .int (nI 0), .ref ra1, .int (nI 0)])), (ra1, .inl (T 1, 40, .inr (.inl (fun _ => 0)))), (rb0, .inr (1, [.int (nI 0), .int (nI 0), .ref rb1, .int (nI 0)])), (rb1, .inl (T 1, 40, .inr (.inl (fun _ => 0)))), (rc0, .inr (1, [.int (nI 0), .int (nI 0), .ref rc1, .int (nI 0)])), (rc1, .inl (T 1, 40, .inr (.inl (fun _ => 0)))), (rd0, .inr (1, [.int (nI 0), .int (nI 0), .ref rd1, .int (nI 0)])), (rd1, .inl (T 1, 40, .inr (.inl (fun _ => 0)))), (o, .inr (8, [.int (nI 0), .null, .null, .null, .null, .int (nI 0), .int (nI 0), .int (nI 0), .int (nI 0), .int (nI 0), .int (nI 0), .int (nI 0), .int (nI 0), .int (nI 0), .int (nI 0), .null, .int (nI 0), .null, .int (nI 0), .int (nI 0), .null, .int (nI 0), .null, .null, .null, .int (nI 0), .int (nI 0), .int (nI 0), .null, .null, .int (nI 0), .null, .null, .null]))] H locs := V
  refine lv_dup hx hb dL_law_11 rfl ?_
  refine g_callI (wr := [(ox, .inr (7, [.ref n0, .ref s0, .ref im, .ref iz, .ref rw, .ref t0, .ref u0, .ref h0, .ref y0, .null])), (n0, .inr (5, [.int (nI 0), .int (nI 0), .int (nI 0), .int (nI 20), .int (nI 0), .ref n1, .ref n2, .ref n3, .ref n4, .ref n5, .ref n6, .ref n7, .ref n8, .ref n9, .ref n10])), (n1, .inl (T 0, 10, .inl (fun _ => nI 0))), (n2, .inl (T 0, 10, .inl (fun _ => nI 0))), (n3, .inl (T 0, 10, .inl (fun _ => nI 0))), (n4, .inl (T 0, 10, .inl (fun _ => nI 0))), (n5, .inl (T 0, 10, .inl (fun _ => nI 0))), (n6, .inl (T 0, 10, .inl (fun _ => nI 0))), (n7, .inl (T 0, 10, .inl (fun _ => nI 0))), (n8, .inl (T 0, 10, .inl (fun _ => nI 0))), (n9, .inl (T 0, 10, .inl (fun _ => nI 0))), (n10, .inl (T 0, 10, .inl (fun _ => nI 0))), (s0, .inr (5, [.int (nI 0), .int (nI 0), .int (nI 0), .int (nI 20), .int (nI 0), .ref s1, .ref s2, .ref s3, .ref s4, .ref s5, .ref s6, .ref s7, .ref s8, .ref s9, .ref s10])), (s1, .inl (T 0, 10, .inl (fun _ => nI 0))), (s2, .inl (T 0, 10, .inl (fun _ => nI 0))), (s3, .inl (T 0, 10, .inl (fun _ => nI 0))), (s4, .inl (T 0, 10, .inl (fun _ => nI 0))), (s5, .inl (T 0, 10, .inl (fun _ => nI 0))), (s6, .inl (T 0, 10, .inl (fun _ => nI 0))), (s7, .inl (T 0, 10, .inl (fun _ => nI 0))), (s8, .inl (T 0, 10, .inl (fun _ => nI 0))), (s9, .inl (T 0, 10, .inl (fun _ => nI 0))), (s10, .inl (T 0, 10, .inl (fun _ => nI 0))), (im, .inl (T 4, 2, .inr (.inr (.inr (.inr (va_up (va_up (fun _ => none) 0 (some i0)) 1 (some j0))))))), (iz, .inl (T 2, 2, .inl (fun _ => nI 0))), (rw, .inl (T 5, 4, .inr (.inr (.inr (.inr (va_up (va_up (va_up (va_up (fun _ => none) 0 (some ra0)) 1 (some rb0)) 2 (some rc0)) 3 (some rd0))))))), (t0, .inr (2, [.int (nI 0), .int (nI 0), .int (-1), .ref t1, .int (nI 0), .int (nI 0), .int (nI 0), .int (nI 0)])), (t1, .inl (T 3, 900, .inl (fun _ => nI 0))), (u0, .inr (6, [.int (nI 0), .int (nI 0), .int (nI 0)])), (h0, .inr (3, [.ref h1, .int (nI 0), .int (nI 0), .int (nI 0), .ref h2, .ref h3])), (h1, .inl (T 0, 10, .inl (fun _ => nI 0))), (h2, .inl (T 0, 10, .inl (fun _ => nI 0))), (h3, .inl (T 0, 12, .inl (fun _ => nI 0))), (y0, .inr (0, [.int (nI 0), .ref y1, .ref y2])), (y1, .inl (T 0, 7, .inl (fun _ => nI 0))), (y2, .inl (T 0, 7, .inl (fun _ => nI 0))), (i0, .inr (5, [.int (nI 0), .int (nI 0), .int (nI 0), .int (nI 20), .int (nI 0), .ref i1, .ref i2, .ref i3, .ref i4, .ref i5, .ref i6, .ref i7, .ref i8, .ref i9, .ref i10])), (i1, .inl (T 0, 10, .inl (fun _ => nI 0))), (i2, .inl (T 0, 10, .inl (fun _ => nI 0))), (i3, .inl (T 0, 10, .inl (fun _ => nI 0))), (i4, .inl (T 0, 10, .inl (fun _ => nI 0))), (i5, .inl (T 0, 10, .inl (fun _ => nI 0))), (i6, .inl (T 0, 10, .inl (fun _ => nI 0))), (i7, .inl (T 0, 10, .inl (fun _ => nI 0))), (i8, .inl (T 0, 10, .inl (fun _ => nI 0))), (i9, .inl (T 0, 10, .inl (fun _ => nI 0))), (i10, .inl (T 0, 10, .inl (fun _ => nI 0))), (j0, .inr (5, [.int (nI 0), .int (nI 0), .int (nI 0), .int (nI 20), .int (nI 0), .ref j1, .ref j2, .ref j3, .ref j4, .ref j5, .ref j6, .ref j7, .ref j8, .ref j9, .ref j10])), (j1, .inl (T 0, 10, .inl (fun _ => nI 0))), (j2, .inl (T 0, 10, .inl (fun _ => nI 0))), (j3, .inl (T 0, 10, .inl (fun _ => nI 0))), (j4, .inl (T 0, 10, .inl (fun _ => nI 0))), (j5, .inl (T 0, 10, .inl (fun _ => nI 0))), (j6, .inl (T 0, 10, .inl (fun _ => nI 0))), (j7, .inl (T 0, 10, .inl (fun _ => nI 0))), (j8, .inl (T 0, 10, .inl (fun _ => nI 0))), (j9, .inl (T 0, 10, .inl (fun _ => nI 0))), (j10, .inl (T 0, 10, .inl (fun _ => nI 0))), (ra0, .inr (1, [.int (nI 0), .int (nI 0), .ref ra1, .int (nI 0)])), (ra1, .inl (T 1, 40, .inr (.inl (fun _ => 0)))), (rb0, .inr (1, [.int (nI 0), .int (nI 0), .ref rb1, .int (nI 0)])), (rb1, .inl (T 1, 40, .inr (.inl (fun _ => 0)))), (rc0, .inr (1, [.int (nI 0), .int (nI 0), .ref rc1, .int (nI 0)])), (rc1, .inl (T 1, 40, .inr (.inl (fun _ => 0)))), (rd0, .inr (1, [.int (nI 0), .int (nI 0), .ref rd1, .int (nI 0)])), (rd1, .inl (T 1, 40, .inr (.inl (fun _ => 0))))]) (nA := 0) hC V hl.1 (m_init l D T o) w_910 w_9 w_908 w_909 rfl (by decide +kernel) rfl ⟨(Nat.le_of_ble_eq_true rfl), (Nat.le_of_ble_eq_true rfl)⟩ [66] [0, 1, 2, 3, 4, 5, 6, 7, 8, 9, 10, 11, 12, 13, 14, 15, 16, 17, 18, 19, 20, 21, 22, 23, 24, 25, 26, 27, 28, 29, 30, 31, 32, 33, 34, 35, 36, 37, 38, 39, 40, 41, 42, 43, 44, 45, 46, 47, 48, 49, 50, 51, 52, 53, 54, 55, 56, 57, 58, 59, 60, 61, 62, 63, 64, 65] rfl rfl rfl rfl (by decide) (Nat.le_of_ble_eq_true rfl) dL_law_12 ⟨(Nat.le_of_ble_eq_true rfl), (Nat.le_of_ble_eq_true rfl)⟩ rfl (fun r w1 H locs hQ V => ?_)
  obtain ⟨g1, g2, g3, g4, g15, g17, g20, g22, g23, g24, g28, g29, g31, g32, g33, rfl, rfl⟩ := hQ
  have V : gW D T A s [(ox, .inr (7, [.ref n0, .ref s0, .ref im, .ref iz, .ref rw, .ref t0, .ref u0, .ref h0, .ref y0, .null])), (n0, .inr (5, [.int (nI 0), .int (nI 0), .int (nI 0), .int (nI 20), .int (nI 0), .ref n1, .ref n2, .ref n3, .ref n4, .ref n5, .ref n6, .ref n7, .ref n8, .ref n9, .ref n10])), (n1, .inl (T 0, 10, .inl (fun _ => nI 0))), (n2, .inl (T 0, 10, .inl (fun _ => nI 0))), (n3, .inl (T 0, 10, .inl (fun _ => nI 0))), (n4, .inl (T 0, 10, .inl (fun _ => nI 0))), (n5, .inl (T 0, 10, .inl (fun _ => nI 0))), (n6, .inl (T 0, 10, .inl (fun _ => nI 0))), (n7, .inl (T 0, 10, .inl (fun _ => nI 0))), (n8, .inl (T 0, 10, .inl (fun _ => nI 0))), (n9, .inl (T 0, 10, .inl (fun _ => nI 0))), (n10, .inl (T 0, 10, .inl (fun _ => nI 0))), (s0, .inr (5, [.int (nI 0), .int (nI 0), .int (nI 0), .int (nI 20), .int (nI 0), .ref s1, .ref s2, .ref s3, .ref s4, .ref s5, .ref s6, .ref s7, .ref s8, .ref s9, .ref s10])), (s1, .inl (T 0, 10, .inl (fun _ => nI 0))), (s2, .inl (T 0, 10, .inl (fun _ => nI 0))), (s3, .inl (T 0, 10, .inl (fun _ => nI 0))), (s4, .inl (T 0, 10, .inl (fun _ => nI 0))), (s5, .inl (T 0, 10, .inl (fun _ => nI 0))), (s6, .inl (T 0, 10, .inl (fun _ => nI 0))), (s7, .inl (T 0, 10, .inl (fun _ => nI 0))), (s8, .inl (T 0, 10, .inl (fun _ => nI 0))), (s9, .inl (T 0, 10, .inl (fun _ => nI 0))), (s10, .inl (T 0, 10, .inl (fun _ => nI 0))), (im, .inl (T 4, 2, .inr (.inr (.inr (.inr (va_up (va_up (fun _ => none) 0 (some i0)) 1 (some j0))))))), (iz, .inl (T 2, 2, .inl (fun _ => nI 0))), (rw, .inl (T 5, 4, .inr (.inr (.inr (.inr (va_up (va_up (va_up (va_up (fun _ => none) 0 (some ra0)) 1 (some rb0)) 2 (some rc0)) 3 (some rd0))))))), (t0, .inr (2, [.int (nI 0), .int (nI 0), .int (-1), .ref t1, .int (nI 0), .int (nI 0), .int (nI 0), .int (nI 0)])), (t1, .inl (T 3, 900, .inl (fun _ => nI 0))), (u0, .inr (6, [.int (nI 0), .int (nI 0), .int (nI 0)])), (h0, .inr (3, [.ref h1, .int (nI 0), .int (nI 0), .int (nI 0), .ref h2, .ref h3])), (h1, .inl (T 0, 10, .inl (fun _ => nI 0))), (h2, .inl (T 0, 10, .inl (fun _ => nI 0))), (h3, .inl (T 0, 12, .inl (fun _ => nI 0))), (y0, .inr (0, [.int (nI 0), .ref y1, .ref y2])), (y1, .inl (T 0, 7, .inl (fun _ => nI 0))), (y2, .inl (T 0, 7, .inl (fun _ => nI 0))), (i0, .inr (5, [.int (nI 0), .int (nI 0), .int (nI 0), .int (nI 20), .int (nI 0), .ref i1, .ref i2, .ref i3, .ref i4, .ref i5, .ref i6, .ref i7, .ref i8, .ref i9, .ref i10])), (i1, .inl (T 0, 10, .inl (fun _ => nI 0))), (i2, .inl (T 0, 10, .inl (fun _ => nI 0))), (i3, .inl (T 0, 10, .inl (fun _ => nI 0))), (i4, .inl (T 0, 10, .inl (fun _ => nI 0))), (i5, .inl (T 0, 10, .inl (fun _ => nI 0))), (i6, .inl (T 0, 10, .inl (fun _ => nI 0))), (i7, .inl (T 0, 10, .inl (fun _ => nI 0))), (i8, .inl (T 0, 10, .inl (fun _ => nI 0))), (i9, .inl (T 0, 10, .inl (fun _ => nI 0))), (i10, .inl (T 0, 10, .inl (fun _ => nI 0))), (j0, .inr (5, [.int (nI 0), .int (nI 0), .int (nI 0), .int (nI 20), .int (nI 0), .ref j1, .ref j2, .ref j3, .ref j4, .ref j5, .ref j6, .ref j7, .ref j8, .ref j9, .ref j10])), (j1, .inl (T 0, 10, .inl (fun _ => nI 0))), (j2, .inl (T 0, 10, .inl (fun _ => nI 0))), (j3, .inl (T 0, 10, .inl (fun _ => nI 0))), (j4, .inl (T 0, 10, .inl (fun _ => nI 0))), (j5, .inl (T 0, 10, .inl (fun _ => nI 0))), (j6, .inl (T 0, 10, .inl (fun _ => nI 0))), (j7, .inl (T 0, 10, .inl (fun _ => nI 0))), (j8, .inl (T 0, 10, .inl (fun _ => nI 0))), (j9, .inl (T 0, 10, .inl (fun _ => nI 0))), (j10, .inl (T 0, 10, .inl (fun _ => nI 0))), (ra0, .inr (1, [.int (nI 0), .int (nI 0), .ref ra1, .int (nI 0)])), (ra1, .inl (T 1, 40, .inr (.inl (fun _ => 0)))), (rb0, .inr (1, [.int (nI 0), .int (nI 0), .ref rb1, .int (nI 0)])), (rb1, .inl (T 1, 40, .inr (.inl (fun _ => 0)))), (rc0, .inr (1, [.int (nI 0), .int (nI 0), .ref rc1, .int (nI 0)])), (rc1, .inl (T 1, 40, .inr (.inl (fun _ => 0)))), (rd0, .inr (1, [.int (nI 0), .int (nI 0), .ref rd1, .int (nI 0)])), (rd1, .inl (T 1, 40, .inr (.inl (fun _ => 0)))), (o, .inr (8, [.int (nI 0), .ref g1, .ref g2, .ref g3, .ref g4, .int (nI 0), .int (nI 0), .int (nI 0), .int (nI 0), .int (nI 0), .int (nI 0), .int (nI 0), .int (nI 0), .int (nI 0), .int (-1), .ref g15, .int (nI 0), .ref g17, .int (nI 0), .int (nI 0), .ref g20, .int (nI 0), .ref g22, .ref g23, .ref g24, .int (nI 0), .int (nI 0), .int (nI 0), .ref g28, .ref g29, .int (nI 0), .ref g31, .ref g32, .ref g33])), (g1, .inl (T 0, 282, .inl (upd (fun _ => nI 0) 2 (nI 20)))), (g2, .inl (T 2, 2, .inl (fun _ => nI 0))), (g3, .inl (T 0, 900, .inl (fun _ => nI 0))), (g4, .inl (T 0, 94, .inl (fun _ => nI 0))), (g15, .inl (T 0, 10, .inl (fun _ => nI 0))), (g17, .inl (T 0, 94, .inl (fun _ => nI 0))), (g20, .inl (T 1, 10, .inr (.inl (fun _ => 0)))), (g22, .inl (T 1, 10, .inr (.inl (fun _ => 0)))), (g23, .inl (T 1, 3001, .inr (.inl (fun _ => 0)))), (g24, .inl (T 0, 8192, .inl (fun _ => nI 0))), (g28, .inl (T 0, 7, .inl (fun _ => nI 0))), (g29, .inl (T 0, 7, .inl (fun _ => nI 0))), (g31, .inl (T 0, 4, .inl (upd (upd (upd (upd (fun _ => nI 0) 0 (-1)) 1 (-1)) 2 (-1)) 3 (-1)))), (g32, .inl (T 0, 4, .inl (fun _ => nI 0))), (g33, .inl (T 1, 160, .inr (.inl (fun _ => 0))))] H locs := V
  show W p l e _ s m args below meth c H locs _ _ _ (F0 m 15 ls [.ref o])
  refine lv_astore_n (lv' := [(2, .ref o), (1, .ref ox), (0, .ref b)]) hx hb dL_law_15 rfl hl (by decide) rfl (fun ls hl => ?_)
  refine lv_iconst (v := (nI 0)) hx hb dL_law_16 (by decide +kernel) ?_
  refine lv_istore_n (lv' := [(3, .int (nI 0)), (2, .ref o), (1, .ref ox), (0, .ref b)]) hx hb dL_law_17 rfl hl (by decide) rfl (fun ls hl => ?_)
  refine lv_iload_n hx hb dL_law_18 rfl (lv_at hl 0 rfl) ?_
  refine lv_aload_n hx hb dL_law_19 rfl (lv_at hl 3 rfl) ?_
  refine va_slen hx hb hX hbl hbA V.2.2.2.1 dL_law_20 ?_
  refine g_vi (y := nI L) rfl ?_
  refine lv_bipush (v := (nI 6)) hx hb dL_law_21 (by decide +kernel) ?_
  refine lv_isub hx hb dL_law_23 ?_
  refine lv_icmp_gt (tgt := 1485) hx hb dL_law_24 (by decide) (fun c1 => ?_) (fun c1 => ?_)
  · subst hAe; exact lw_fin l hx hb hr hlocks (by decide) (by decide) V.2.2.2.1
  · obtain rfl := lw_six hL c1
    have hE : ∀ (H : Heap) (locs : List Loc) (ls : Array Slot), va_S A s.heap H locs → lv_has ls 4 [(3, .int (nI 0)), (2, .ref o), (1, .ref ox), (0, .ref b)] → W p l e room_1 s m #[Value.ref b] below meth c H locs 82 14431 (lw_Z below #[Value.ref b] s) (F0 m 1479 ls []) := by
      intro H locs ls hS hl
      refine lv_iinc (v := nI 6) (lv' := [(3, .int (nI 6)), (2, .ref o), (1, .ref ox), (0, .ref b)]) hx hb dL_law_1479 hl (k := 0) rfl (by decide +kernel) (by decide) rfl (fun ls hl => ?_)
      refine lv_goto (tgt := 18) hx hb dL_law_1482 (by decide) ?_
      refine lv_iload_n hx hb dL_law_18 rfl (lv_at hl 0 rfl) ?_
      refine lv_aload_n hx hb dL_law_19 rfl (lv_at hl 3 rfl) ?_
      refine va_slen hx hb hX hbl hbA hS dL_law_20 ?_
      refine g_vi (y := nI 6) rfl ?_
      refine lv_bipush (v := nI 6) hx hb dL_law_21 (by decide +kernel) ?_
      refine lv_isub hx hb dL_law_23 ?_
      refine g_vi (y := nI 0) (by decide +kernel) ?_
      refine lv_icmp_gt (tgt := 1485) hx hb dL_law_24 (by decide) (fun _ => ?_) (fun c => absurd (show nI 0 < nI 6 by decide +kernel) c)
      subst hAe; exact lw_fin l hx hb hr hlocks (by decide) (by decide) hS
    refine lv_aload_n hx hb dL_law_27 rfl (lv_at hl 3 rfl) ?_
    refine lv_iload_n hx hb dL_law_28 rfl (lv_at hl 0 rfl) ?_
    refine va_sld hx hb hX hbl hbA V.2.2.2.1 (vp_in_nI (by decide) (by decide)) dL_law_29 ?_
    refine g_vi (y := xs 0) (congrArg xs (nI_clamp (by decide))) ?_
    refine lv_bipush (v := (nI 63)) hx hb dL_law_30 (by decide +kernel) ?_
    refine lv_iand hx hb dL_law_32 ?_
    by_cases c_30 : ((xs 0) &&& (nI 63)) = (nI 0)
    · refine lv_tableIn (tgt := 216) (off := 183) hx hb dL_law_33 (by rw [c_30]; decide +kernel) (by rw [c_30]; decide +kernel) (by rw [c_30]; decide +kernel) (by decide) ?_
      exact lk_0 l ox n0 n1 n2 n3 n4 n5 n6 n7 n8 n9 n10 s0 s1 s2 s3 s4 s5 s6 s7 s8 s9 s10 im iz rw t0 t1 u0 h0 h1 h2 h3 y0 y1 y2 i0 i1 i2 i3 i4 i5 i6 i7 i8 i9 i10 j0 j1 j2 j3 j4 j5 j6 j7 j8 j9 j10 ra0 ra1 rb0 rb1 rc0 rc1 rd0 rd1 o g1 g2 g3 g4 g15 g17 g20 g22 g23 g24 g28 g29 g31 g32 g33 hC hX hbl hbA hE V (lv_sub hl [0, 1, 2, 3] rfl)
    by_cases c_31 : ((xs 0) &&& (nI 63)) = (nI 1)
    · refine lv_tableIn (tgt := 279) (off := 246) hx hb dL_law_33 (by rw [c_31]; decide +kernel) (by rw [c_31]; decide +kernel) (by rw [c_31]; decide +kernel) (by decide) ?_
      exact lk_1 l ox n0 n1 n2 n3 n4 n5 n6 n7 n8 n9 n10 s0 s1 s2 s3 s4 s5 s6 s7 s8 s9 s10 im iz rw t0 t1 u0 h0 h1 h2 h3 y0 y1 y2 i0 i1 i2 i3 i4 i5 i6 i7 i8 i9 i10 j0 j1 j2 j3 j4 j5 j6 j7 j8 j9 j10 ra0 ra1 rb0 rb1 rc0 rc1 rd0 rd1 o g1 g2 g3 g4 g15 g17 g20 g22 g23 g24 g28 g29 g31 g32 g33 hC hX hbl hbA hE V (lv_sub hl [0, 1, 2, 3] rfl)
    by_cases c_32 : ((xs 0) &&& (nI 63)) = (nI 2)
    · refine lv_tableIn (tgt := 302) (off := 269) hx hb dL_law_33 (by rw [c_32]; decide +kernel) (by rw [c_32]; decide +kernel) (by rw [c_32]; decide +kernel) (by decide) ?_
      exact lk_2 l ox n0 n1 n2 n3 n4 n5 n6 n7 n8 n9 n10 s0 s1 s2 s3 s4 s5 s6 s7 s8 s9 s10 im iz rw t0 t1 u0 h0 h1 h2 h3 y0 y1 y2 i0 i1 i2 i3 i4 i5 i6 i7 i8 i9 i10 j0 j1 j2 j3 j4 j5 j6 j7 j8 j9 j10 ra0 ra1 rb0 rb1 rc0 rc1 rd0 rd1 o g1 g2 g3 g4 g15 g17 g20 g22 g23 g24 g28 g29 g31 g32 g33 hC hX hbl hbA hE V (lv_sub hl [0, 1, 2, 3] rfl)
    by_cases c_33 : ((xs 0) &&& (nI 63)) = (nI 3)
    · refine lv_tableIn (tgt := 325) (off := 292) hx hb dL_law_33 (by rw [c_33]; decide +kernel) (by rw [c_33]; decide +kernel) (by rw [c_33]; decide +kernel) (by decide) ?_
      exact lk_3 l ox n0 n1 n2 n3 n4 n5 n6 n7 n8 n9 n10 s0 s1 s2 s3 s4 s5 s6 s7 s8 s9 s10 im iz rw t0 t1 u0 h0 h1 h2 h3 y0 y1 y2 i0 i1 i2 i3 i4 i5 i6 i7 i8 i9 i10 j0 j1 j2 j3 j4 j5 j6 j7 j8 j9 j10 ra0 ra1 rb0 rb1 rc0 rc1 rd0 rd1 o g1 g2 g3 g4 g15 g17 g20 g22 g23 g24 g28 g29 g31 g32 g33 hC hX hbl hbA hE V (lv_sub hl [0, 1, 2, 3] rfl)
    by_cases c_34 : ((xs 0) &&& (nI 63)) = (nI 4)
    · refine lv_tableIn (tgt := 358) (off := 325) hx hb dL_law_33 (by rw [c_34]; decide +kernel) (by rw [c_34]; decide +kernel) (by rw [c_34]; decide +kernel) (by decide) ?_
      exact lk_4 l ox n0 n1 n2 n3 n4 n5 n6 n7 n8 n9 n10 s0 s1 s2 s3 s4 s5 s6 s7 s8 s9 s10 im iz rw t0 t1 u0 h0 h1 h2 h3 y0 y1 y2 i0 i1 i2 i3 i4 i5 i6 i7 i8 i9 i10 j0 j1 j2 j3 j4 j5 j6 j7 j8 j9 j10 ra0 ra1 rb0 rb1 rc0 rc1 rd0 rd1 o g1 g2 g3 g4 g15 g17 g20 g22 g23 g24 g28 g29 g31 g32 g33 hC hX hbl hbA hE V (lv_sub hl [0, 1, 2, 3] rfl)
    by_cases c_35 : ((xs 0) &&& (nI 63)) = (nI 5)
    · refine lv_tableIn (tgt := 381) (off := 348) hx hb dL_law_33 (by rw [c_35]; decide +kernel) (by rw [c_35]; decide +kernel) (by rw [c_35]; decide +kernel) (by decide) ?_
      exact lk_5 l ox n0 n1 n2 n3 n4 n5 n6 n7 n8 n9 n10 s0 s1 s2 s3 s4 s5 s6 s7 s8 s9 s10 im iz rw t0 t1 u0 h0 h1 h2 h3 y0 y1 y2 i0 i1 i2 i3 i4 i5 i6 i7 i8 i9 i10 j0 j1 j2 j3 j4 j5 j6 j7 j8 j9 j10 ra0 ra1 rb0 rb1 rc0 rc1 rd0 rd1 o g1 g2 g3 g4 g15 g17 g20 g22 g23 g24 g28 g29 g31 g32 g33 hC hX hbl hbA hE V (lv_sub hl [0, 1, 2, 3] rfl)
    by_cases c_36 : ((xs 0) &&& (nI 63)) = (nI 6)
    · refine lv_tableIn (tgt := 414) (off := 381) hx hb dL_law_33 (by rw [c_36]; decide +kernel) (by rw [c_36]; decide +kernel) (by rw [c_36]; decide +kernel) (by decide) ?_
      exact lk_6 l ox n0 n1 n2 n3 n4 n5 n6 n7 n8 n9 n10 s0 s1 s2 s3 s4 s5 s6 s7 s8 s9 s10 im iz rw t0 t1 u0 h0 h1 h2 h3 y0 y1 y2 i0 i1 i2 i3 i4 i5 i6 i7 i8 i9 i10 j0 j1 j2 j3 j4 j5 j6 j7 j8 j9 j10 ra0 ra1 rb0 rb1 rc0 rc1 rd0 rd1 o g1 g2 g3 g4 g15 g17 g20 g22 g23 g24 g28 g29 g31 g32 g33 hC hX hbl hbA hE V (lv_sub hl [0, 1, 2, 3] rfl)
    by_cases c_37 : ((xs 0) &&& (nI 63)) = (nI 7)
    · refine lv_tableIn (tgt := 447) (off := 414) hx hb dL_law_33 (by rw [c_37]; decide +kernel) (by rw [c_37]; decide +kernel) (by rw [c_37]; decide +kernel) (by decide) ?_
      exact lk_7 l ox n0 n1 n2 n3 n4 n5 n6 n7 n8 n9 n10 s0 s1 s2 s3 s4 s5 s6 s7 s8 s9 s10 im iz rw t0 t1 u0 h0 h1 h2 h3 y0 y1 y2 i0 i1 i2 i3 i4 i5 i6 i7 i8 i9 i10 j0 j1 j2 j3 j4 j5 j6 j7 j8 j9 j10 ra0 ra1 rb0 rb1 rc0 rc1 rd0 rd1 o g1 g2 g3 g4 g15 g17 g20 g22 g23 g24 g28 g29 g31 g32 g33 hC hX hbl hbA hE V (lv_sub hl [0, 1, 2, 3] rfl)
    by_cases c_38 : ((xs 0) &&& (nI 63)) = (nI 8)
    · refine lv_tableIn (tgt := 480) (off := 447) hx hb dL_law_33 (by rw [c_38]; decide +kernel) (by rw [c_38]; decide +kernel) (by rw [c_38]; decide +kernel) (by decide) ?_
      exact lk_8 l ox n0 n1 n2 n3 n4 n5 n6 n7 n8 n9 n10 s0 s1 s2 s3 s4 s5 s6 s7 s8 s9 s10 im iz rw t0 t1 u0 h0 h1 h2 h3 y0 y1 y2 i0 i1 i2 i3 i4 i5 i6 i7 i8 i9 i10 j0 j1 j2 j3 j4 j5 j6 j7 j8 j9 j10 ra0 ra1 rb0 rb1 rc0 rc1 rd0 rd1 o g1 g2 g3 g4 g15 g17 g20 g22 g23 g24 g28 g29 g31 g32 g33 hC hX hbl hbA hE V (lv_sub hl [0, 1, 2, 3] rfl)
    by_cases c_39 : ((xs 0) &&& (nI 63)) = (nI 9)
    · refine lv_tableIn (tgt := 513) (off := 480) hx hb dL_law_33 (by rw [c_39]; decide +kernel) (by rw [c_39]; decide +kernel) (by rw [c_39]; decide +kernel) (by decide) ?_
      exact lk_9 l ox n0 n1 n2 n3 n4 n5 n6 n7 n8 n9 n10 s0 s1 s2 s3 s4 s5 s6 s7 s8 s9 s10 im iz rw t0 t1 u0 h0 h1 h2 h3 y0 y1 y2 i0 i1 i2 i3 i4 i5 i6 i7 i8 i9 i10 j0 j1 j2 j3 j4 j5 j6 j7 j8 j9 j10 ra0 ra1 rb0 rb1 rc0 rc1 rd0 rd1 o g1 g2 g3 g4 g15 g17 g20 g22 g23 g24 g28 g29 g31 g32 g33 hC hX hbl hbA hE V (lv_sub hl [0, 1, 2, 3] rfl)
    by_cases c_310 : ((xs 0) &&& (nI 63)) = (nI 10)
    · refine lv_tableIn (tgt := 546) (off := 513) hx hb dL_law_33 (by rw [c_310]; decide +kernel) (by rw [c_310]; decide +kernel) (by rw [c_310]; decide +kernel) (by decide) ?_
      exact lk_10 l ox n0 n1 n2 n3 n4 n5 n6 n7 n8 n9 n10 s0 s1 s2 s3 s4 s5 s6 s7 s8 s9 s10 im iz rw t0 t1 u0 h0 h1 h2 h3 y0 y1 y2 i0 i1 i2 i3 i4 i5 i6 i7 i8 i9 i10 j0 j1 j2 j3 j4 j5 j6 j7 j8 j9 j10 ra0 ra1 rb0 rb1 rc0 rc1 rd0 rd1 o g1 g2 g3 g4 g15 g17 g20 g22 g23 g24 g28 g29 g31 g32 g33 hC hX hbl hbA hE V (lv_sub hl [0, 1, 2, 3] rfl)
    by_cases c_311 : ((xs 0) &&& (nI 63)) = (nI 11)
    · refine lv_tableIn (tgt := 569) (off := 536) hx hb dL_law_33 (by rw [c_311]; decide +kernel) (by rw [c_311]; decide +kernel) (by rw [c_311]; decide +kernel) (by decide) ?_
      exact lk_11 l ox n0 n1 n2 n3 n4 n5 n6 n7 n8 n9 n10 s0 s1 s2 s3 s4 s5 s6 s7 s8 s9 s10 im iz rw t0 t1 u0 h0 h1 h2 h3 y0 y1 y2 i0 i1 i2 i3 i4 i5 i6 i7 i8 i9 i10 j0 j1 j2 j3 j4 j5 j6 j7 j8 j9 j10 ra0 ra1 rb0 rb1 rc0 rc1 rd0 rd1 o g1 g2 g3 g4 g15 g17 g20 g22 g23 g24 g28 g29 g31 g32 g33 hC hX hbl hbA hE V (lv_sub hl [0, 1, 2, 3] rfl)
    by_cases c_312 : ((xs 0) &&& (nI 63)) = (nI 12)
    · refine lv_tableIn (tgt := 592) (off := 559) hx hb dL_law_33 (by rw [c_312]; decide +kernel) (by rw [c_312]; decide +kernel) (by rw [c_312]; decide +kernel) (by decide) ?_
      exact lk_12 l ox n0 n1 n2 n3 n4 n5 n6 n7 n8 n9 n10 s0 s1 s2 s3 s4 s5 s6 s7 s8 s9 s10 im iz rw t0 t1 u0 h0 h1 h2 h3 y0 y1 y2 i0 i1 i2 i3 i4 i5 i6 i7 i8 i9 i10 j0 j1 j2 j3 j4 j5 j6 j7 j8 j9 j10 ra0 ra1 rb0 rb1 rc0 rc1 rd0 rd1 o g1 g2 g3 g4 g15 g17 g20 g22 g23 g24 g28 g29 g31 g32 g33 hC hX hbl hbA hE V (lv_sub hl [0, 1, 2, 3] rfl)
    by_cases c_313 : ((xs 0) &&& (nI 63)) = (nI 13)
    · refine lv_tableIn (tgt := 615) (off := 582) hx hb dL_law_33 (by rw [c_313]; decide +kernel) (by rw [c_313]; decide +kernel) (by rw [c_313]; decide +kernel) (by decide) ?_
      exact lk_13 l ox n0 n1 n2 n3 n4 n5 n6 n7 n8 n9 n10 s0 s1 s2 s3 s4 s5 s6 s7 s8 s9 s10 im iz rw t0 t1 u0 h0 h1 h2 h3 y0 y1 y2 i0 i1 i2 i3 i4 i5 i6 i7 i8 i9 i10 j0 j1 j2 j3 j4 j5 j6 j7 j8 j9 j10 ra0 ra1 rb0 rb1 rc0 rc1 rd0 rd1 o g1 g2 g3 g4 g15 g17 g20 g22 g23 g24 g28 g29 g31 g32 g33 hC hX hbl hbA hE V (lv_sub hl [0, 1, 2, 3] rfl)
    by_cases c_314 : ((xs 0) &&& (nI 63)) = (nI 14)
    · refine lv_tableIn (tgt := 648) (off := 615) hx hb dL_law_33 (by rw [c_314]; decide +kernel) (by rw [c_314]; decide +kernel) (by rw [c_314]; decide +kernel) (by decide) ?_
      exact lk_14 l ox n0 n1 n2 n3 n4 n5 n6 n7 n8 n9 n10 s0 s1 s2 s3 s4 s5 s6 s7 s8 s9 s10 im iz rw t0 t1 u0 h0 h1 h2 h3 y0 y1 y2 i0 i1 i2 i3 i4 i5 i6 i7 i8 i9 i10 j0 j1 j2 j3 j4 j5 j6 j7 j8 j9 j10 ra0 ra1 rb0 rb1 rc0 rc1 rd0 rd1 o g1 g2 g3 g4 g15 g17 g20 g22 g23 g24 g28 g29 g31 g32 g33 hC hX hbl hbA hE V (lv_sub hl [0, 1, 2, 3] rfl)
    by_cases c_315 : ((xs 0) &&& (nI 63)) = (nI 15)
    · refine lv_tableIn (tgt := 671) (off := 638) hx hb dL_law_33 (by rw [c_315]; decide +kernel) (by rw [c_315]; decide +kernel) (by rw [c_315]; decide +kernel) (by decide) ?_
      exact lk_15 l ox n0 n1 n2 n3 n4 n5 n6 n7 n8 n9 n10 s0 s1 s2 s3 s4 s5 s6 s7 s8 s9 s10 im iz rw t0 t1 u0 h0 h1 h2 h3 y0 y1 y2 i0 i1 i2 i3 i4 i5 i6 i7 i8 i9 i10 j0 j1 j2 j3 j4 j5 j6 j7 j8 j9 j10 ra0 ra1 rb0 rb1 rc0 rc1 rd0 rd1 o g1 g2 g3 g4 g15 g17 g20 g22 g23 g24 g28 g29 g31 g32 g33 hC hX hbl hbA hE V (lv_sub hl [0, 1, 2, 3] rfl)
    by_cases c_316 : ((xs 0) &&& (nI 63)) = (nI 16)
    · refine lv_tableIn (tgt := 684) (off := 651) hx hb dL_law_33 (by rw [c_316]; decide +kernel) (by rw [c_316]; decide +kernel) (by rw [c_316]; decide +kernel) (by decide) ?_
      exact lk_16 l ox n0 n1 n2 n3 n4 n5 n6 n7 n8 n9 n10 s0 s1 s2 s3 s4 s5 s6 s7 s8 s9 s10 im iz rw t0 t1 u0 h0 h1 h2 h3 y0 y1 y2 i0 i1 i2 i3 i4 i5 i6 i7 i8 i9 i10 j0 j1 j2 j3 j4 j5 j6 j7 j8 j9 j10 ra0 ra1 rb0 rb1 rc0 rc1 rd0 rd1 o g1 g2 g3 g4 g15 g17 g20 g22 g23 g24 g28 g29 g31 g32 g33 hC hX hbl hbA hE V (lv_sub hl [0, 1, 2, 3] rfl)
    by_cases c_317 : ((xs 0) &&& (nI 63)) = (nI 17)
    · refine lv_tableIn (tgt := 717) (off := 684) hx hb dL_law_33 (by rw [c_317]; decide +kernel) (by rw [c_317]; decide +kernel) (by rw [c_317]; decide +kernel) (by decide) ?_
      exact lk_17 l ox n0 n1 n2 n3 n4 n5 n6 n7 n8 n9 n10 s0 s1 s2 s3 s4 s5 s6 s7 s8 s9 s10 im iz rw t0 t1 u0 h0 h1 h2 h3 y0 y1 y2 i0 i1 i2 i3 i4 i5 i6 i7 i8 i9 i10 j0 j1 j2 j3 j4 j5 j6 j7 j8 j9 j10 ra0 ra1 rb0 rb1 rc0 rc1 rd0 rd1 o g1 g2 g3 g4 g15 g17 g20 g22 g23 g24 g28 g29 g31 g32 g33 hC hX hbl hbA hE V (lv_sub hl [0, 1, 2, 3] rfl)
    by_cases c_318 : ((xs 0) &&& (nI 63)) = (nI 18)
    · refine lv_tableIn (tgt := 730) (off := 697) hx hb dL_law_33 (by rw [c_318]; decide +kernel) (by rw [c_318]; decide +kernel) (by rw [c_318]; decide +kernel) (by decide) ?_
      exact lk_18 l ox n0 n1 n2 n3 n4 n5 n6 n7 n8 n9 n10 s0 s1 s2 s3 s4 s5 s6 s7 s8 s9 s10 im iz rw t0 t1 u0 h0 h1 h2 h3 y0 y1 y2 i0 i1 i2 i3 i4 i5 i6 i7 i8 i9 i10 j0 j1 j2 j3 j4 j5 j6 j7 j8 j9 j10 ra0 ra1 rb0 rb1 rc0 rc1 rd0 rd1 o g1 g2 g3 g4 g15 g17 g20 g22 g23 g24 g28 g29 g31 g32 g33 hC hX hbl hbA hE V (lv_sub hl [0, 1, 2, 3] rfl)
    by_cases c_319 : ((xs 0) &&& (nI 63)) = (nI 19)
    · refine lv_tableIn (tgt := 773) (off := 740) hx hb dL_law_33 (by rw [c_319]; decide +kernel) (by rw [c_319]; decide +kernel) (by rw [c_319]; decide +kernel) (by decide) ?_
      exact lk_19 l ox n0 n1 n2 n3 n4 n5 n6 n7 n8 n9 n10 s0 s1 s2 s3 s4 s5 s6 s7 s8 s9 s10 im iz rw t0 t1 u0 h0 h1 h2 h3 y0 y1 y2 i0 i1 i2 i3 i4 i5 i6 i7 i8 i9 i10 j0 j1 j2 j3 j4 j5 j6 j7 j8 j9 j10 ra0 ra1 rb0 rb1 rc0 rc1 rd0 rd1 o g1 g2 g3 g4 g15 g17 g20 g22 g23 g24 g28 g29 g31 g32 g33 hC hX hbl hbA hE V (lv_sub hl [0, 1, 2, 3] rfl)
    by_cases c_320 : ((xs 0) &&& (nI 63)) = (nI 20)
    · refine lv_tableIn (tgt := 806) (off := 773) hx hb dL_law_33 (by rw [c_320]; decide +kernel) (by rw [c_320]; decide +kernel) (by rw [c_320]; decide +kernel) (by decide) ?_
      exact lk_20 l ox n0 n1 n2 n3 n4 n5 n6 n7 n8 n9 n10 s0 s1 s2 s3 s4 s5 s6 s7 s8 s9 s10 im iz rw t0 t1 u0 h0 h1 h2 h3 y0 y1 y2 i0 i1 i2 i3 i4 i5 i6 i7 i8 i9 i10 j0 j1 j2 j3 j4 j5 j6 j7 j8 j9 j10 ra0 ra1 rb0 rb1 rc0 rc1 rd0 rd1 o g1 g2 g3 g4 g15 g17 g20 g22 g23 g24 g28 g29 g31 g32 g33 hC hX hbl hbA hE V (lv_sub hl [0, 1, 2, 3] rfl)
    by_cases c_321 : ((xs 0) &&& (nI 63)) = (nI 21)
    · refine lv_tableIn (tgt := 839) (off := 806) hx hb dL_law_33 (by rw [c_321]; decide +kernel) (by rw [c_321]; decide +kernel) (by rw [c_321]; decide +kernel) (by decide) ?_
      exact lk_21 l ox n0 n1 n2 n3 n4 n5 n6 n7 n8 n9 n10 s0 s1 s2 s3 s4 s5 s6 s7 s8 s9 s10 im iz rw t0 t1 u0 h0 h1 h2 h3 y0 y1 y2 i0 i1 i2 i3 i4 i5 i6 i7 i8 i9 i10 j0 j1 j2 j3 j4 j5 j6 j7 j8 j9 j10 ra0 ra1 rb0 rb1 rc0 rc1 rd0 rd1 o g1 g2 g3 g4 g15 g17 g20 g22 g23 g24 g28 g29 g31 g32 g33 hC hX hbl hbA hE V (lv_sub hl [0, 1, 2, 3] rfl)
    by_cases c_322 : ((xs 0) &&& (nI 63)) = (nI 22)
    · refine lv_tableIn (tgt := 862) (off := 829) hx hb dL_law_33 (by rw [c_322]; decide +kernel) (by rw [c_322]; decide +kernel) (by rw [c_322]; decide +kernel) (by decide) ?_
      exact lk_22 l ox n0 n1 n2 n3 n4 n5 n6 n7 n8 n9 n10 s0 s1 s2 s3 s4 s5 s6 s7 s8 s9 s10 im iz rw t0 t1 u0 h0 h1 h2 h3 y0 y1 y2 i0 i1 i2 i3 i4 i5 i6 i7 i8 i9 i10 j0 j1 j2 j3 j4 j5 j6 j7 j8 j9 j10 ra0 ra1 rb0 rb1 rc0 rc1 rd0 rd1 o g1 g2 g3 g4 g15 g17 g20 g22 g23 g24 g28 g29 g31 g32 g33 hC hX hbl hbA hE V (lv_sub hl [0, 1, 2, 3] rfl)
    by_cases c_323 : ((xs 0) &&& (nI 63)) = (nI 23)
    · refine lv_tableIn (tgt := 895) (off := 862) hx hb dL_law_33 (by rw [c_323]; decide +kernel) (by rw [c_323]; decide +kernel) (by rw [c_323]; decide +kernel) (by decide) ?_
      exact lk_23 l ox n0 n1 n2 n3 n4 n5 n6 n7 n8 n9 n10 s0 s1 s2 s3 s4 s5 s6 s7 s8 s9 s10 im iz rw t0 t1 u0 h0 h1 h2 h3 y0 y1 y2 i0 i1 i2 i3 i4 i5 i6 i7 i8 i9 i10 j0 j1 j2 j3 j4 j5 j6 j7 j8 j9 j10 ra0 ra1 rb0 rb1 rc0 rc1 rd0 rd1 o g1 g2 g3 g4 g15 g17 g20 g22 g23 g24 g28 g29 g31 g32 g33 hC hX hbl hbA hE V (lv_sub hl [0, 1, 2, 3] rfl)
    by_cases c_324 : ((xs 0) &&& (nI 63)) = (nI 24)
    · refine lv_tableIn (tgt := 918) (off := 885) hx hb dL_law_33 (by rw [c_324]; decide +kernel) (by rw [c_324]; decide +kernel) (by rw [c_324]; decide +kernel) (by decide) ?_
      exact lk_24 l ox n0 n1 n2 n3 n4 n5 n6 n7 n8 n9 n10 s0 s1 s2 s3 s4 s5 s6 s7 s8 s9 s10 im iz rw t0 t1 u0 h0 h1 h2 h3 y0 y1 y2 i0 i1 i2 i3 i4 i5 i6 i7 i8 i9 i10 j0 j1 j2 j3 j4 j5 j6 j7 j8 j9 j10 ra0 ra1 rb0 rb1 rc0 rc1 rd0 rd1 o g1 g2 g3 g4 g15 g17 g20 g22 g23 g24 g28 g29 g31 g32 g33 hC hX hbl hbA hE V (lv_sub hl [0, 1, 2, 3] rfl)
    by_cases c_325 : ((xs 0) &&& (nI 63)) = (nI 25)
    · refine lv_tableIn (tgt := 941) (off := 908) hx hb dL_law_33 (by rw [c_325]; decide +kernel) (by rw [c_325]; decide +kernel) (by rw [c_325]; decide +kernel) (by decide) ?_
      exact lk_25 l ox n0 n1 n2 n3 n4 n5 n6 n7 n8 n9 n10 s0 s1 s2 s3 s4 s5 s6 s7 s8 s9 s10 im iz rw t0 t1 u0 h0 h1 h2 h3 y0 y1 y2 i0 i1 i2 i3 i4 i5 i6 i7 i8 i9 i10 j0 j1 j2 j3 j4 j5 j6 j7 j8 j9 j10 ra0 ra1 rb0 rb1 rc0 rc1 rd0 rd1 o g1 g2 g3 g4 g15 g17 g20 g22 g23 g24 g28 g29 g31 g32 g33 hC hX hbl hbA hE V (lv_sub hl [0, 1, 2, 3] rfl)
    by_cases c_326 : ((xs 0) &&& (nI 63)) = (nI 26)
    · refine lv_tableIn (tgt := 954) (off := 921) hx hb dL_law_33 (by rw [c_326]; decide +kernel) (by rw [c_326]; decide +kernel) (by rw [c_326]; decide +kernel) (by decide) ?_
      exact lk_26 l ox n0 n1 n2 n3 n4 n5 n6 n7 n8 n9 n10 s0 s1 s2 s3 s4 s5 s6 s7 s8 s9 s10 im iz rw t0 t1 u0 h0 h1 h2 h3 y0 y1 y2 i0 i1 i2 i3 i4 i5 i6 i7 i8 i9 i10 j0 j1 j2 j3 j4 j5 j6 j7 j8 j9 j10 ra0 ra1 rb0 rb1 rc0 rc1 rd0 rd1 o g1 g2 g3 g4 g15 g17 g20 g22 g23 g24 g28 g29 g31 g32 g33 hC hX hbl hbA hE V (lv_sub hl [0, 1, 2, 3] rfl)
    by_cases c_327 : ((xs 0) &&& (nI 63)) = (nI 27)
    · refine lv_tableIn (tgt := 977) (off := 944) hx hb dL_law_33 (by rw [c_327]; decide +kernel) (by rw [c_327]; decide +kernel) (by rw [c_327]; decide +kernel) (by decide) ?_
      exact lk_27 l ox n0 n1 n2 n3 n4 n5 n6 n7 n8 n9 n10 s0 s1 s2 s3 s4 s5 s6 s7 s8 s9 s10 im iz rw t0 t1 u0 h0 h1 h2 h3 y0 y1 y2 i0 i1 i2 i3 i4 i5 i6 i7 i8 i9 i10 j0 j1 j2 j3 j4 j5 j6 j7 j8 j9 j10 ra0 ra1 rb0 rb1 rc0 rc1 rd0 rd1 o g1 g2 g3 g4 g15 g17 g20 g22 g23 g24 g28 g29 g31 g32 g33 hC hX hbl hbA hE V (lv_sub hl [0, 1, 2, 3] rfl)
    by_cases c_328 : ((xs 0) &&& (nI 63)) = (nI 28)
    · refine lv_tableIn (tgt := 1026) (off := 993) hx hb dL_law_33 (by rw [c_328]; decide +kernel) (by rw [c_328]; decide +kernel) (by rw [c_328]; decide +kernel) (by decide) ?_
      exact lk_28 l ox n0 n1 n2 n3 n4 n5 n6 n7 n8 n9 n10 s0 s1 s2 s3 s4 s5 s6 s7 s8 s9 s10 im iz rw t0 t1 u0 h0 h1 h2 h3 y0 y1 y2 i0 i1 i2 i3 i4 i5 i6 i7 i8 i9 i10 j0 j1 j2 j3 j4 j5 j6 j7 j8 j9 j10 ra0 ra1 rb0 rb1 rc0 rc1 rd0 rd1 o g1 g2 g3 g4 g15 g17 g20 g22 g23 g24 g28 g29 g31 g32 g33 hC hX hbl hbA hE V (lv_sub hl [0, 1, 2, 3] rfl)
    by_cases c_329 : ((xs 0) &&& (nI 63)) = (nI 29)
    · refine lv_tableIn (tgt := 1049) (off := 1016) hx hb dL_law_33 (by rw [c_329]; decide +kernel) (by rw [c_329]; decide +kernel) (by rw [c_329]; decide +kernel) (by decide) ?_
      exact lk_29 l ox n0 n1 n2 n3 n4 n5 n6 n7 n8 n9 n10 s0 s1 s2 s3 s4 s5 s6 s7 s8 s9 s10 im iz rw t0 t1 u0 h0 h1 h2 h3 y0 y1 y2 i0 i1 i2 i3 i4 i5 i6 i7 i8 i9 i10 j0 j1 j2 j3 j4 j5 j6 j7 j8 j9 j10 ra0 ra1 rb0 rb1 rc0 rc1 rd0 rd1 o g1 g2 g3 g4 g15 g17 g20 g22 g23 g24 g28 g29 g31 g32 g33 hC hX hbl hbA hE V (lv_sub hl [0, 1, 2, 3] rfl)
    by_cases c_330 : ((xs 0) &&& (nI 63)) = (nI 30)
    · refine lv_tableIn (tgt := 1082) (off := 1049) hx hb dL_law_33 (by rw [c_330]; decide +kernel) (by rw [c_330]; decide +kernel) (by rw [c_330]; decide +kernel) (by decide) ?_
      exact lk_30 l ox n0 n1 n2 n3 n4 n5 n6 n7 n8 n9 n10 s0 s1 s2 s3 s4 s5 s6 s7 s8 s9 s10 im iz rw t0 t1 u0 h0 h1 h2 h3 y0 y1 y2 i0 i1 i2 i3 i4 i5 i6 i7 i8 i9 i10 j0 j1 j2 j3 j4 j5 j6 j7 j8 j9 j10 ra0 ra1 rb0 rb1 rc0 rc1 rd0 rd1 o g1 g2 g3 g4 g15 g17 g20 g22 g23 g24 g28 g29 g31 g32 g33 hC hX hbl hbA hE V (lv_sub hl [0, 1, 2, 3] rfl)
    by_cases c_331 : ((xs 0) &&& (nI 63)) = (nI 31)
    · refine lv_tableIn (tgt := 1125) (off := 1092) hx hb dL_law_33 (by rw [c_331]; decide +kernel) (by rw [c_331]; decide +kernel) (by rw [c_331]; decide +kernel) (by decide) ?_
      exact lk_31 l ox n0 n1 n2 n3 n4 n5 n6 n7 n8 n9 n10 s0 s1 s2 s3 s4 s5 s6 s7 s8 s9 s10 im iz rw t0 t1 u0 h0 h1 h2 h3 y0 y1 y2 i0 i1 i2 i3 i4 i5 i6 i7 i8 i9 i10 j0 j1 j2 j3 j4 j5 j6 j7 j8 j9 j10 ra0 ra1 rb0 rb1 rc0 rc1 rd0 rd1 o g1 g2 g3 g4 g15 g17 g20 g22 g23 g24 g28 g29 g31 g32 g33 hC hX hbl hbA hE V (lv_sub hl [0, 1, 2, 3] rfl)
    by_cases c_332 : ((xs 0) &&& (nI 63)) = (nI 32)
    · refine lv_tableIn (tgt := 1158) (off := 1125) hx hb dL_law_33 (by rw [c_332]; decide +kernel) (by rw [c_332]; decide +kernel) (by rw [c_332]; decide +kernel) (by decide) ?_
      exact lk_32 l ox n0 n1 n2 n3 n4 n5 n6 n7 n8 n9 n10 s0 s1 s2 s3 s4 s5 s6 s7 s8 s9 s10 im iz rw t0 t1 u0 h0 h1 h2 h3 y0 y1 y2 i0 i1 i2 i3 i4 i5 i6 i7 i8 i9 i10 j0 j1 j2 j3 j4 j5 j6 j7 j8 j9 j10 ra0 ra1 rb0 rb1 rc0 rc1 rd0 rd1 o g1 g2 g3 g4 g15 g17 g20 g22 g23 g24 g28 g29 g31 g32 g33 hC hX hbl hbA hE V (lv_sub hl [0, 1, 2, 3] rfl)
    by_cases c_333 : ((xs 0) &&& (nI 63)) = (nI 33)
    · refine lv_tableIn (tgt := 1191) (off := 1158) hx hb dL_law_33 (by rw [c_333]; decide +kernel) (by rw [c_333]; decide +kernel) (by rw [c_333]; decide +kernel) (by decide) ?_
      exact lk_33 l ox n0 n1 n2 n3 n4 n5 n6 n7 n8 n9 n10 s0 s1 s2 s3 s4 s5 s6 s7 s8 s9 s10 im iz rw t0 t1 u0 h0 h1 h2 h3 y0 y1 y2 i0 i1 i2 i3 i4 i5 i6 i7 i8 i9 i10 j0 j1 j2 j3 j4 j5 j6 j7 j8 j9 j10 ra0 ra1 rb0 rb1 rc0 rc1 rd0 rd1 o g1 g2 g3 g4 g15 g17 g20 g22 g23 g24 g28 g29 g31 g32 g33 hC hX hbl hbA hE V (lv_sub hl [0, 1, 2, 3] rfl)
    by_cases c_334 : ((xs 0) &&& (nI 63)) = (nI 34)
    · refine lv_tableIn (tgt := 1214) (off := 1181) hx hb dL_law_33 (by rw [c_334]; decide +kernel) (by rw [c_334]; decide +kernel) (by rw [c_334]; decide +kernel) (by decide) ?_
      exact lk_34 l ox n0 n1 n2 n3 n4 n5 n6 n7 n8 n9 n10 s0 s1 s2 s3 s4 s5 s6 s7 s8 s9 s10 im iz rw t0 t1 u0 h0 h1 h2 h3 y0 y1 y2 i0 i1 i2 i3 i4 i5 i6 i7 i8 i9 i10 j0 j1 j2 j3 j4 j5 j6 j7 j8 j9 j10 ra0 ra1 rb0 rb1 rc0 rc1 rd0 rd1 o g1 g2 g3 g4 g15 g17 g20 g22 g23 g24 g28 g29 g31 g32 g33 hC hX hbl hbA hE V (lv_sub hl [0, 1, 2, 3] rfl)
    by_cases c_335 : ((xs 0) &&& (nI 63)) = (nI 35)
    · refine lv_tableIn (tgt := 1247) (off := 1214) hx hb dL_law_33 (by rw [c_335]; decide +kernel) (by rw [c_335]; decide +kernel) (by rw [c_335]; decide +kernel) (by decide) ?_
      exact lk_35 l ox n0 n1 n2 n3 n4 n5 n6 n7 n8 n9 n10 s0 s1 s2 s3 s4 s5 s6 s7 s8 s9 s10 im iz rw t0 t1 u0 h0 h1 h2 h3 y0 y1 y2 i0 i1 i2 i3 i4 i5 i6 i7 i8 i9 i10 j0 j1 j2 j3 j4 j5 j6 j7 j8 j9 j10 ra0 ra1 rb0 rb1 rc0 rc1 rd0 rd1 o g1 g2 g3 g4 g15 g17 g20 g22 g23 g24 g28 g29 g31 g32 g33 hC hX hbl hbA hE V (lv_sub hl [0, 1, 2, 3] rfl)
    by_cases c_336 : ((xs 0) &&& (nI 63)) = (nI 36)
    · refine lv_tableIn (tgt := 1270) (off := 1237) hx hb dL_law_33 (by rw [c_336]; decide +kernel) (by rw [c_336]; decide +kernel) (by rw [c_336]; decide +kernel) (by decide) ?_
      exact lk_36 l ox n0 n1 n2 n3 n4 n5 n6 n7 n8 n9 n10 s0 s1 s2 s3 s4 s5 s6 s7 s8 s9 s10 im iz rw t0 t1 u0 h0 h1 h2 h3 y0 y1 y2 i0 i1 i2 i3 i4 i5 i6 i7 i8 i9 i10 j0 j1 j2 j3 j4 j5 j6 j7 j8 j9 j10 ra0 ra1 rb0 rb1 rc0 rc1 rd0 rd1 o g1 g2 g3 g4 g15 g17 g20 g22 g23 g24 g28 g29 g31 g32 g33 hC hX hbl hbA hE V (lv_sub hl [0, 1, 2, 3] rfl)
    by_cases c_337 : ((xs 0) &&& (nI 63)) = (nI 37)
    · refine lv_tableIn (tgt := 1313) (off := 1280) hx hb dL_law_33 (by rw [c_337]; decide +kernel) (by rw [c_337]; decide +kernel) (by rw [c_337]; decide +kernel) (by decide) ?_
      exact lk_37 l ox n0 n1 n2 n3 n4 n5 n6 n7 n8 n9 n10 s0 s1 s2 s3 s4 s5 s6 s7 s8 s9 s10 im iz rw t0 t1 u0 h0 h1 h2 h3 y0 y1 y2 i0 i1 i2 i3 i4 i5 i6 i7 i8 i9 i10 j0 j1 j2 j3 j4 j5 j6 j7 j8 j9 j10 ra0 ra1 rb0 rb1 rc0 rc1 rd0 rd1 o g1 g2 g3 g4 g15 g17 g20 g22 g23 g24 g28 g29 g31 g32 g33 hC hX hbl hbA hE V (lv_sub hl [0, 1, 2, 3] rfl)
    by_cases c_338 : ((xs 0) &&& (nI 63)) = (nI 38)
    · refine lv_tableIn (tgt := 1387) (off := 1354) hx hb dL_law_33 (by rw [c_338]; decide +kernel) (by rw [c_338]; decide +kernel) (by rw [c_338]; decide +kernel) (by decide) ?_
      exact lk_38 l ox n0 n1 n2 n3 n4 n5 n6 n7 n8 n9 n10 s0 s1 s2 s3 s4 s5 s6 s7 s8 s9 s10 im iz rw t0 t1 u0 h0 h1 h2 h3 y0 y1 y2 i0 i1 i2 i3 i4 i5 i6 i7 i8 i9 i10 j0 j1 j2 j3 j4 j5 j6 j7 j8 j9 j10 ra0 ra1 rb0 rb1 rc0 rc1 rd0 rd1 o g1 g2 g3 g4 g15 g17 g20 g22 g23 g24 g28 g29 g31 g32 g33 hC hX hbl hbA hE V (lv_sub hl [0, 1, 2, 3] rfl)
    by_cases c_339 : ((xs 0) &&& (nI 63)) = (nI 39)
    · refine lv_tableIn (tgt := 1410) (off := 1377) hx hb dL_law_33 (by rw [c_339]; decide +kernel) (by rw [c_339]; decide +kernel) (by rw [c_339]; decide +kernel) (by decide) ?_
      exact lk_39 l ox n0 n1 n2 n3 n4 n5 n6 n7 n8 n9 n10 s0 s1 s2 s3 s4 s5 s6 s7 s8 s9 s10 im iz rw t0 t1 u0 h0 h1 h2 h3 y0 y1 y2 i0 i1 i2 i3 i4 i5 i6 i7 i8 i9 i10 j0 j1 j2 j3 j4 j5 j6 j7 j8 j9 j10 ra0 ra1 rb0 rb1 rc0 rc1 rd0 rd1 o g1 g2 g3 g4 g15 g17 g20 g22 g23 g24 g28 g29 g31 g32 g33 hC hX hbl hbA hE V (lv_sub hl [0, 1, 2, 3] rfl)
    by_cases c_340 : ((xs 0) &&& (nI 63)) = (nI 40)
    · refine lv_tableIn (tgt := 1433) (off := 1400) hx hb dL_law_33 (by rw [c_340]; decide +kernel) (by rw [c_340]; decide +kernel) (by rw [c_340]; decide +kernel) (by decide) ?_
      exact lk_40 l ox n0 n1 n2 n3 n4 n5 n6 n7 n8 n9 n10 s0 s1 s2 s3 s4 s5 s6 s7 s8 s9 s10 im iz rw t0 t1 u0 h0 h1 h2 h3 y0 y1 y2 i0 i1 i2 i3 i4 i5 i6 i7 i8 i9 i10 j0 j1 j2 j3 j4 j5 j6 j7 j8 j9 j10 ra0 ra1 rb0 rb1 rc0 rc1 rd0 rd1 o g1 g2 g3 g4 g15 g17 g20 g22 g23 g24 g28 g29 g31 g32 g33 hC hX hbl hbA hE V (lv_sub hl [0, 1, 2, 3] rfl)
    by_cases c_341 : ((xs 0) &&& (nI 63)) = (nI 41)
    · refine lv_tableIn (tgt := 1456) (off := 1423) hx hb dL_law_33 (by rw [c_341]; decide +kernel) (by rw [c_341]; decide +kernel) (by rw [c_341]; decide +kernel) (by decide) ?_
      exact lk_41 l ox n0 n1 n2 n3 n4 n5 n6 n7 n8 n9 n10 s0 s1 s2 s3 s4 s5 s6 s7 s8 s9 s10 im iz rw t0 t1 u0 h0 h1 h2 h3 y0 y1 y2 i0 i1 i2 i3 i4 i5 i6 i7 i8 i9 i10 j0 j1 j2 j3 j4 j5 j6 j7 j8 j9 j10 ra0 ra1 rb0 rb1 rc0 rc1 rd0 rd1 o g1 g2 g3 g4 g15 g17 g20 g22 g23 g24 g28 g29 g31 g32 g33 hC hX hbl hbA hE V (lv_sub hl [0, 1, 2, 3] rfl)
    refine lv_tableOut (tgt := 1479) hx hb dL_law_33 (g_out42 (fun j hj => ?_)) (by decide) ?_
    · exact (match j, hj with
        | 0, _ => c_30
        | 1, _ => c_31
        | 2, _ => c_32
        | 3, _ => c_33
        | 4, _ => c_34
        | 5, _ => c_35
        | 6, _ => c_36
        | 7, _ => c_37
        | 8, _ => c_38
        | 9, _ => c_39
        | 10, _ => c_310
        | 11, _ => c_311
        | 12, _ => c_312
        | 13, _ => c_313
        | 14, _ => c_314
        | 15, _ => c_315
        | 16, _ => c_316
        | 17, _ => c_317
        | 18, _ => c_318
        | 19, _ => c_319
        | 20, _ => c_320
        | 21, _ => c_321
        | 22, _ => c_322
        | 23, _ => c_323
        | 24, _ => c_324
        | 25, _ => c_325
        | 26, _ => c_326
        | 27, _ => c_327
        | 28, _ => c_328
        | 29, _ => c_329
        | 30, _ => c_330
        | 31, _ => c_331
        | 32, _ => c_332
        | 33, _ => c_333
        | 34, _ => c_334
        | 35, _ => c_335
        | 36, _ => c_336
        | 37, _ => c_337
        | 38, _ => c_338
        | 39, _ => c_339
        | 40, _ => c_340
        | 41, _ => c_341
        | j + 42, h => absurd h (by omega))
    exact hE _ _ _ V.2.2.2.1 (lv_sub hl [0, 1, 2, 3] rfl)

set_option maxHeartbeats 4000000 in
theorem lw_walk (l : Launch) (b : Addr) (xs : List Int32) : MetFree l x (headSpec (Jvm.Cond.code x code maxLocals ret :: tables_1) room_1) (lw_P b xs) (fun _ _ _ _ _ => True) lw_Q := by
  refine MetFree.of_bodyS (code := code) (maxLocals := maxLocals) (ret := ret) (by decide) ?_ ?_
  · intro args s m h hn
    obtain ⟨meth, c, h1, h2, h3, h4, h5, h6, -, -⟩ := Cond.code_spec hn (atoms_spec (ws := Jvm.Cond.code x code maxLocals ret :: tables_1) h _ List.mem_cons_self)
    exact ⟨meth, c, h1, h2, h3, h4, h5, h6⟩
  · intro p e s m args below meth c s₁ B hml0 hP _
    obtain ⟨rfl, hx, hbd, hgv⟩ := hP
    obtain ⟨scr, harrAt, hlist, hof, hsmall⟩ := hx
    obtain ⟨hcb, hkn, -, -⟩ := State.arrayAt?_spec harrAt
    have hown : s.vm.findClass R_law = some m.cls := findClass_of_methodNamed B.named
    have hts0 : ∀ c ∈ (Jvm.Cond.code x code maxLocals ret :: tables_1), c.before #[Value.ref b] s = true := atoms_spec (ws := Jvm.Cond.code x code maxLocals ret :: tables_1) B.pre
    have hts : ∀ w ∈ lw_tbl, w.before #[Value.ref b] s = true := k2_hts_sels lw_privs (fun w hw => hts0 w (List.mem_cons_of_mem _ hw)) lw_privs_ok
    have hml : c.maxLocals = 4 := B.maxLocals_eq (hts0 _ List.mem_cons_self)
    have X₀ : Stand p l e room_1 s m #[Value.ref b] below meth c s₁ [] 0 0 := Stand.of_body B
    have hh0 : s₁.heap = s.heap := by rw [B.state]; rfl
    have hsz : scr.slots.size = xs.length := by rw [← Array.length_toList, hlist, List.length_map]
    have hval : ∀ j : Nat, j < xs.length → scr.slots[j]? = some (.int (xs.getD j 0)) := fun j hj => by
      rw [← Array.getElem?_toList, hlist]
      simp [hj]
    have hbl : b < s.heap.size := (Array.getElem?_eq_some_iff.mp hcb).1
    have hX : va_X b xs.length (fun j => xs.getD j 0) s s.heap := ⟨scr, hcb, hof, hkn, hsz, hval⟩
    have K : W p l e room_1 s m #[Value.ref b] below meth c s₁.heap [] 0 0 (lw_Z below #[Value.ref b] s) (entryFrame m ([Value.ref b] : List Value).toArray 4) := by
      rw [hh0]
      exact whole_start l hbd ⟨B.exec, B.bytes, B.returns, hml, hown, hts, hX, hbl, B.notSynchronized, hgv⟩
    obtain ⟨t, a1, o, b1, b2, b3⟩ := K s₁ rfl X₀
    exact ⟨t, o, a1, b1, b2, b3⟩
theorem lw_pre_spec {args : Array Value} {s : State} (h : (Jvm.Cond.and given_1 narrow_1).before args s = true) (hr : rest_1_c.before args s = true) : ∃ (b : Addr) (xs : List Int32), lw_P b xs args s := by
  have hs := flat_of_before _ h
  have hq := flat_of_before _ hr
  have hc : (Cond.count 1).before args s = true := hs _ (by decide +kernel)
  have harr : (Cond.arrayOf (.arg 0) .int).before args s = true := hs _ (by decide +kernel)
  have hle : (Cond.le (.length (.arg 0)) (.int 6)).before args s = true := hs _ (by decide +kernel)
  have hlen : (Cond.isInt (.length (.arg 0))).before args s = true := hq _ (by decide +kernel)
  have hall : (Cond.all (.arg 0) (.isInt (.elem (.arg 0) (.index 0)))).before args s = true := hq _ (by decide +kernel)
  obtain ⟨b, xs, hb, hx⟩ := State.ints_of_pre rfl harr hlen hall
  have hsm : xs.length < 2 ^ 31 := hx.choose_spec.2.2.2
  have hev : (Term.length (.arg 0)).eval args s none [] s = some (.int xs.length.toInt32) := hx.length_eval hb
  have hv := Cond.le_ints hev (show (Term.int 6).eval args s none [] s = some (.int 6) from rfl)
  have hd : xs.length.toInt32 ≤ 6 := by
    simpa [Cond.before, Cond.holds, hv] using hle
  have hN : xs.length ≤ 6 := (Int32.ofNat_le_ofNat hsm (by decide)).mp (show Int32.ofNat xs.length ≤ Int32.ofNat 6 from hd)
  exact ⟨b, xs, Cond.one_arg hc (show args[0]? = some (.ref b) from hb), hx, hN, h⟩
theorem lw_comes (l : Launch) : Comes l x (Jvm.Cond.code x code maxLocals ret :: tables_1) room_1 (fun tb e args s => Calls_1 tb e args s ∧ rest_1 tb e args s ∧ Pre_1 tb e args s)
    (fun _ _ args s o t => lw_Q args s o t) := by
  intro p e ha hc hk s m args below hf hfit hheap happ hpre
  obtain ⟨b, xs, hP⟩ := lw_pre_spec hpre.2.2 hpre.2.1
  obtain ⟨k, o, h1, h2, h3, hQ⟩ := lw_walk l b xs p e ha hc hk s m args below hf ((Spec.applies_iff_loose hf).mp happ).1 hP trivial
  exact ⟨k, o, h1, h2, h3, hQ⟩
theorem lw_frame {s t : State} {o : Outcome} {args : Array Value} (h : Framed s o t [] 600000 7302250) :
    Framed s o t (fieldLocs frame_1_writes args s ++ arrayLocs frame_1_arrays args s ++ staticLocs frame_1_statics s) 600000 7302250 := h
theorem lw_limb (L : Cond) (hL : ∀ (args : Array Value) (s t : State), L.after args s (.returned (some (.int 1))) t = true) :
    ArmFor flags0 classFile x code maxLocals ret World_1 tables_1 room_1 Calls_1 rest_1 Pre_1
      (fun tb e a s o t => postC L tb e a s o t ∧ Framed s o t (fieldLocs frame_1_writes a s ++ arrayLocs frame_1_arrays a s ++ staticLocs frame_1_statics s) 600000 7302250) := by
  intro l _ _ _ p e ha hc hk s m args below hf hfit hheap happ hpre
  obtain ⟨k, o, h1, h2, h3, rfl, hF⟩ := lw_comes l p e ha hc hk s m args below hf hfit hheap happ hpre
  exact ⟨k, _, h1, h2, h3, hL args s _, lw_frame hF⟩
theorem i_vc : Claimed_1_1 ∧ Claimed_1_2 := ⟨lw_limb limb_1_1 (fun args s t => by simp [limb_1_1, Cond.after, Cond.holds, Cond.value]), lw_limb limb_1_2 (fun args s t => Cond.after_iff.mpr (by
  first | (rw [show limb_1_2 = Cond.eq .result (.int 1) from rfl, Cond.eq_ints (x := 1) (y := 1) rfl rfl]; simp; done) | (simp [limb_1_2, Cond.value, Term.eval]; done)))⟩
