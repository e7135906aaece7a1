set_option maxHeartbeats 4000000 in
set_option maxRecDepth 100000 in
theorem lk_35 {p : Program} {e : Env} {s : State} {m : MethodId} {args : Array Value} {below : List Frame} {meth : Method} {c : Code} {Q : State → Prop} (l : Launch) {b : Nat} {xs : Nat → Int32} {D : va_G} {T : Nat → ClassId} {A : Nat → Prop} (ox n0 n1 n2 n3 n4 n5 n6 n7 n8 n9 n10 s0 s1 s2 s3 s4 s5 s6 s7 s8 s9 s10 im iz rw t0 t1 u0 h0 h1 h2 h3 y0 y1 y2 i0 i1 i2 i3 i4 i5 i6 i7 i8 i9 i10 j0 j1 j2 j3 j4 j5 j6 j7 j8 j9 j10 ra0 ra1 rb0 rb1 rc0 rc1 rd0 rd1 o g1 g2 g3 g4 g15 g17 g20 g22 g23 g24 g28 g29 g31 g32 g33 : Nat) (hC : cX p s m args meth c RL cL_law 4 (some .boolean)) (hX : va_X b 6 xs s s.heap) (hbl : b < s.heap.size) (hbA : ¬ A b) (hE : ∀ (H : Heap) (locs : List Loc) (ls : Array Slot), va_S A s.heap H locs → lv_has ls 4 [(3, .int (nI 0)), (2, .ref o), (1, .ref ox), (0, .ref b)] → W p l e room_1 s m args below meth c H locs 82 14431 Q (F0 m 1479 ls [])) {H : Heap} {locs : List Loc} {ls : Array Slot} (V : gW D T A s (lwW T ox n0 n1 n2 n3 n4 n5 n6 n7 n8 n9 n10 s0 s1 s2 s3 s4 s5 s6 s7 s8 s9 s10 im iz rw t0 t1 u0 h0 h1 h2 h3 y0 y1 y2 i0 i1 i2 i3 i4 i5 i6 i7 i8 i9 i10 j0 j1 j2 j3 j4 j5 j6 j7 j8 j9 j10 ra0 ra1 rb0 rb1 rc0 rc1 rd0 rd1 o g1 g2 g3 g4 g15 g17 g20 g22 g23 g24 g28 g29 g31 g32 g33) H locs) (hl : lv_has ls 4 [(3, .int (nI 0)), (2, .ref o), (1, .ref ox), (0, .ref b)]) : W p l e room_1 s m args below meth c H locs 82 14431 Q (F0 m 1247 ls []) := by
  obtain ⟨hx, hb, hr, hml, hown, hts, hlocks⟩ := id hC
  have V := V.sub (ws' := [(ox, .inr (7, [.ref n0, .ref s0, .ref im, .ref iz, .ref rw, .ref t0, .ref u0, .ref h0, .ref y0, .null])), (n0, .inr (5, [.int (nI 0), .int (nI 0), .int (nI 0), .int (nI 20), .int (nI 0), .ref n1, .ref n2, .ref n3, .ref n4, .ref n5, .ref n6, .ref n7, .ref n8, .ref n9, .ref n10])), (n1, .inl (T 0, 10, .inl (fun _ => nI 0))), (n2, .inl (T 0, 10, .inl (fun _ => nI 0))), (n3, .inl (T 0, 10, .inl (fun _ => nI 0))), (n4, .inl (T 0, 10, .inl (fun _ => nI 0))), (n5, .inl (T 0, 10, .inl (fun _ => nI 0))), (n6, .inl (T 0, 10, .inl (fun _ => nI 0))), (n7, .inl (T 0, 10, .inl (fun _ => nI 0))), (n8, .inl (T 0, 10, .inl (fun _ => nI 0))), (n9, .inl (T 0, 10, .inl (fun _ => nI 0))), (n10, .inl (T 0, 10, .inl (fun _ => nI 0))), (o, .inr (8, [.int (nI 0), .ref g1, .ref g2, .ref g3, .ref g4, .int (nI 0), .int (nI 0), .int (nI 0), .int (nI 0), .int (nI 0), .int (nI 0), .int (nI 0), .int (nI 0), .int (nI 0), .int (-1), .ref g15, .int (nI 0), .ref g17, .int (nI 0), .int (nI 0), .ref g20, .int (nI 0), .ref g22, .ref g23, .ref g24, .int (nI 0), .int (nI 0), .int (nI 0), .ref g28, .ref g29, .int (nI 0), .ref g31, .ref g32, .ref g33])), (g1, .inl (T 0, 282, .inl (upd (fun _ => nI 0) 2 (nI 20))))]) [0, 1, 2, 3, 4, 5, 6, 7, 8, 9, 10, 11, 66, 67] rfl rfl
  refine lv_aload_n hx hb dL_law_1247 rfl (lv_at hl 2 rfl) ?_
  refine lv_aload_n hx hb dL_law_1248 rfl (lv_at hl 3 rfl) ?_
  refine lv_iload_n hx hb dL_law_1249 rfl (lv_at hl 0 rfl) ?_
  refine lv_iconst (v := (nI 1)) hx hb dL_law_1250 (by decide +kernel) ?_
  refine lv_iadd hx hb dL_law_1251 ?_
  refine g_vi (y := (nI 1)) (by decide +kernel) ?_
  refine va_sld hx hb hX hbl hbA V.2.2.2.1 (vp_in_nI (by decide) (by decide)) dL_law_1252 ?_
  refine g_vi (y := xs 1) (congrArg xs (nI_clamp (by decide))) ?_
  refine g_callV (wr := [(o, .inr (8, [.int (nI 0), .ref g1, .ref g2, .ref g3, .ref g4, .int (nI 0), .int (nI 0), .int (nI 0), .int (nI 0), .int (nI 0), .int (nI 0), .int (nI 0), .int (nI 0), .int (nI 0), .int (-1), .ref g15, .int (nI 0), .ref g17, .int (nI 0), .int (nI 0), .ref g20, .int (nI 0), .ref g22, .ref g23, .ref g24, .int (nI 0), .int (nI 0), .int (nI 0), .ref g28, .ref g29, .int (nI 0), .ref g31, .ref g32, .ref g33])), (g1, .inl (T 0, 282, .inl (upd (fun _ => nI 0) 2 (nI 20))))]) (nA := 1) hC V hl.1 (p_X7_cold l D T ox (xs 1) n0 s0 im iz rw t0 u0 h0 y0 n1 n2 n3 n4 n5 n6 n7 n8 n9 n10) w_851 w_852 w_853 w_2 w_854 (by decide +kernel) rfl ⟨(Nat.le_of_ble_eq_true rfl), (Nat.le_of_ble_eq_true rfl)⟩ 0 (ci := 7) rfl rfl [0, 1, 2, 3, 4, 5, 6, 7, 8, 9, 10, 11] [12, 13] rfl rfl rfl rfl (by decide) (Nat.le_of_ble_eq_true rfl) dL_law_1253 ⟨(Nat.le_of_ble_eq_true rfl), (Nat.le_of_ble_eq_true rfl)⟩ rfl (fun r w1 H locs hQ V => ?_)
  obtain ⟨z_1, rfl, rfl, f_2⟩ := hQ
  have V : gW D T A s [(o, .inr (8, [.int (nI 0), .ref g1, .ref g2, .ref g3, .ref g4, .int (nI 0), .int (nI 0), .int (nI 0), .int (nI 0), .int (nI 0), .int (nI 0), .int (nI 0), .int (nI 0), .int (nI 0), .int (-1), .ref g15, .int (nI 0), .ref g17, .int (nI 0), .int (nI 0), .ref g20, .int (nI 0), .ref g22, .ref g23, .ref g24, .int (nI 0), .int (nI 0), .int (nI 0), .ref g28, .ref g29, .int (nI 0), .ref g31, .ref g32, .ref g33])), (g1, .inl (T 0, 282, .inl (upd (fun _ => nI 0) 2 (nI 20))))] H locs := V
  show W p l e _ s m args below meth c H locs _ _ _ (F0 m 1256 ls [.int z_1])
  refine lv_aload_n hx hb dL_law_1256 rfl (lv_at hl 1 rfl) ?_
  refine lv_aload_n hx hb dL_law_1257 rfl (lv_at hl 3 rfl) ?_
  refine lv_iload_n hx hb dL_law_1258 rfl (lv_at hl 0 rfl) ?_
  refine lv_iconst (v := (nI 1)) hx hb dL_law_1259 (by decide +kernel) ?_
  refine lv_iadd hx hb dL_law_1260 ?_
  refine g_vi (y := (nI 1)) (by decide +kernel) ?_
  refine va_sld hx hb hX hbl hbA V.2.2.2.1 (vp_in_nI (by decide) (by decide)) dL_law_1261 ?_
  refine g_vi (y := xs 1) (congrArg xs (nI_clamp (by decide))) ?_
  refine g_callV (wr := []) (nA := 1) hC V hl.1 (pm_cold l D T o (xs 1) g1 g2 g3 g4 g15 g17 g20 g22 g23 g24 g28 g29 g31 g32 g33) w_1368 w_1369 w_1370 w_9 w_1371 (by decide +kernel) rfl ⟨(Nat.le_of_ble_eq_true rfl), (Nat.le_of_ble_eq_true rfl)⟩ 0 (ci := 8) rfl rfl [0, 1] [] rfl rfl rfl rfl (by decide) (Nat.le_of_ble_eq_true rfl) dL_law_1262 ⟨(Nat.le_of_ble_eq_true rfl), (Nat.le_of_ble_eq_true rfl)⟩ rfl (fun r w1 H locs hQ V => ?_)
  obtain ⟨z_3, rfl, rfl, f_4⟩ := hQ
  have V : gW D T A s [] H locs := V
  show W p l e _ s m args below meth c H locs _ _ _ (F0 m 1265 ls [.int z_3, .int z_1])
  refine lv_icmp_eq (tgt := 1479) hx hb dL_law_1265 (by decide) (fun c_5 => ?_) (fun c_5 => ?_)
  · skip
    exact hE _ _ _ V.2.2.2.1 (lv_sub hl [0, 1, 2, 3] rfl)
  · exact (c_5 (f_2.trans f_4.symm)).elim

set_option maxHeartbeats 4000000 in
set_option maxRecDepth 100000 in
theorem lk_36 {p : Program} {e : Env} {s : State} {m : MethodId} {args : Array Value} {below : List Frame} {meth : Method} {c : Code} {Q : State → Prop} (l : Launch) {b : Nat} {xs : Nat → Int32} {D : va_G} {T : Nat → ClassId} {A : Nat → Prop} (ox n0 n1 n2 n3 n4 n5 n6 n7 n8 n9 n10 s0 s1 s2 s3 s4 s5 s6 s7 s8 s9 s10 im iz rw t0 t1 u0 h0 h1 h2 h3 y0 y1 y2 i0 i1 i2 i3 i4 i5 i6 i7 i8 i9 i10 j0 j1 j2 j3 j4 j5 j6 j7 j8 j9 j10 ra0 ra1 rb0 rb1 rc0 rc1 rd0 rd1 o g1 g2 g3 g4 g15 g17 g20 g22 g23 g24 g28 g29 g31 g32 g33 : Nat) (hC : cX p s m args meth c RL cL_law 4 (some .boolean)) (hX : va_X b 6 xs s s.heap) (hbl : b < s.heap.size) (hbA : ¬ A b) (hE : ∀ (H : Heap) (locs : List Loc) (ls : Array Slot), va_S A s.heap H locs → lv_has ls 4 [(3, .int (nI 0)), (2, .ref o), (1, .ref ox), (0, .ref b)] → W p l e room_1 s m args below meth c H locs 82 14431 Q (F0 m 1479 ls [])) {H : Heap} {locs : List Loc} {ls : Array Slot} (V : gW D T A s (lwW T ox n0 n1 n2 n3 n4 n5 n6 n7 n8 n9 n10 s0 s1 s2 s3 s4 s5 s6 s7 s8 s9 s10 im iz rw t0 t1 u0 h0 h1 h2 h3 y0 y1 y2 i0 i1 i2 i3 i4 i5 i6 i7 i8 i9 i10 j0 j1 j2 j3 j4 j5 j6 j7 j8 j9 j10 ra0 ra1 rb0 rb1 rc0 rc1 rd0 rd1 o g1 g2 g3 g4 g15 g17 g20 g22 g23 g24 g28 g29 g31 g32 g33) H locs) (hl : lv_has ls 4 [(3, .int (nI 0)), (2, .ref o), (1, .ref ox), (0, .ref b)]) : W p l e room_1 s m args below meth c H locs 82 14431 Q (F0 m 1270 ls []) := by
  obtain ⟨hx, hb, hr, hml, hown, hts, hlocks⟩ := id hC
  have V := V.sub (ws' := [(ox, .inr (7, [.ref n0, .ref s0, .ref im, .ref iz, .ref rw, .ref t0, .ref u0, .ref h0, .ref y0, .null])), (rw, .inl (T 5, 4, .inr (.inr (.inr (.inr (va_up (va_up (va_up (va_up (fun _ => none) 0 (some ra0)) 1 (some rb0)) 2 (some rc0)) 3 (some rd0))))))), (ra0, .inr (1, [.int (nI 0), .int (nI 0), .ref ra1, .int (nI 0)])), (ra1, .inl (T 1, 40, .inr (.inl (fun _ => 0)))), (rb0, .inr (1, [.int (nI 0), .int (nI 0), .ref rb1, .int (nI 0)])), (rb1, .inl (T 1, 40, .inr (.inl (fun _ => 0)))), (rc0, .inr (1, [.int (nI 0), .int (nI 0), .ref rc1, .int (nI 0)])), (rc1, .inl (T 1, 40, .inr (.inl (fun _ => 0)))), (rd0, .inr (1, [.int (nI 0), .int (nI 0), .ref rd1, .int (nI 0)])), (rd1, .inl (T 1, 40, .inr (.inl (fun _ => 0)))), (o, .inr (8, [.int (nI 0), .ref g1, .ref g2, .ref g3, .ref g4, .int (nI 0), .int (nI 0), .int (nI 0), .int (nI 0), .int (nI 0), .int (nI 0), .int (nI 0), .int (nI 0), .int (nI 0), .int (-1), .ref g15, .int (nI 0), .ref g17, .int (nI 0), .int (nI 0), .ref g20, .int (nI 0), .ref g22, .ref g23, .ref g24, .int (nI 0), .int (nI 0), .int (nI 0), .ref g28, .ref g29, .int (nI 0), .ref g31, .ref g32, .ref g33])), (g31, .inl (T 0, 4, .inl (upd (upd (upd (upd (fun _ => nI 0) 0 (-1)) 1 (-1)) 2 (-1)) 3 (-1)))), (g32, .inl (T 0, 4, .inl (fun _ => nI 0))), (g33, .inl (T 1, 160, .inr (.inl (fun _ => 0))))]) [0, 25, 58, 59, 60, 61, 62, 63, 64, 65, 66, 79, 80, 81] rfl rfl
  refine lv_aload_n hx hb dL_law_1270 rfl (lv_at hl 2 rfl) ?_
  refine lv_aload_n hx hb dL_law_1271 rfl (lv_at hl 3 rfl) ?_
  refine lv_iload_n hx hb dL_law_1272 rfl (lv_at hl 0 rfl) ?_
  refine lv_iconst (v := (nI 1)) hx hb dL_law_1273 (by decide +kernel) ?_
  refine lv_iadd hx hb dL_law_1274 ?_
  refine g_vi (y := (nI 1)) (by decide +kernel) ?_
  refine va_sld hx hb hX hbl hbA V.2.2.2.1 (vp_in_nI (by decide) (by decide)) dL_law_1275 ?_
  refine g_vi (y := xs 1) (congrArg xs (nI_clamp (by decide))) ?_
  refine lv_aload_n hx hb dL_law_1276 rfl (lv_at hl 3 rfl) ?_
  refine lv_iload_n hx hb dL_law_1277 rfl (lv_at hl 0 rfl) ?_
  refine lv_iconst (v := (nI 2)) hx hb dL_law_1278 (by decide +kernel) ?_
  refine lv_iadd hx hb dL_law_1279 ?_
  refine g_vi (y := (nI 2)) (by decide +kernel) ?_
  refine va_sld hx hb hX hbl hbA V.2.2.2.1 (vp_in_nI (by decide) (by decide)) dL_law_1280 ?_
  refine g_vi (y := xs 2) (congrArg xs (nI_clamp (by decide))) ?_
  refine lv_aload_n hx hb dL_law_1281 rfl (lv_at hl 3 rfl) ?_
  refine lv_iload_n hx hb dL_law_1282 rfl (lv_at hl 0 rfl) ?_
  refine lv_iconst (v := (nI 3)) hx hb dL_law_1283 (by decide +kernel) ?_
  refine lv_iadd hx hb dL_law_1284 ?_
  refine g_vi (y := (nI 3)) (by decide +kernel) ?_
  refine va_sld hx hb hX hbl hbA V.2.2.2.1 (vp_in_nI (by decide) (by decide)) dL_law_1285 ?_
  refine g_vi (y := xs 3) (congrArg xs (nI_clamp (by decide))) ?_
  refine g_callV (wr := [(o, .inr (8, [.int (nI 0), .ref g1, .ref g2, .ref g3, .ref g4, .int (nI 0), .int (nI 0), .int (nI 0), .int (nI 0), .int (nI 0), .int (nI 0), .int (nI 0), .int (nI 0), .int (nI 0), .int (-1), .ref g15, .int (nI 0), .ref g17, .int (nI 0), .int (nI 0), .ref g20, .int (nI 0), .ref g22, .ref g23, .ref g24, .int (nI 0), .int (nI 0), .int (nI 0), .ref g28, .ref g29, .int (nI 0), .ref g31, .ref g32, .ref g33])), (g31, .inl (T 0, 4, .inl (upd (upd (upd (upd (fun _ => nI 0) 0 (-1)) 1 (-1)) 2 (-1)) 3 (-1)))), (g32, .inl (T 0, 4, .inl (fun _ => nI 0))), (g33, .inl (T 1, 160, .inr (.inl (fun _ => 0))))]) (nA := 3) hC V hl.1 (p_X7_numbers l D T ox (xs 1) (xs 2) (xs 3) n0 s0 im iz rw t0 u0 h0 y0 ra0 rb0 rc0 rd0 ra1 rb1 rc1 rd1) w_855 w_856 w_857 w_2 w_858 (by decide +kernel) rfl ⟨(Nat.le_of_ble_eq_true rfl), (Nat.le_of_ble_eq_true rfl)⟩ 0 (ci := 7) rfl rfl [0, 1, 2, 3, 4, 5, 6, 7, 8, 9] [10, 11, 12, 13] rfl rfl rfl rfl (by decide) (Nat.le_of_ble_eq_true rfl) dL_law_1286 ⟨(Nat.le_of_ble_eq_true rfl), (Nat.le_of_ble_eq_true rfl)⟩ rfl (fun r w1 H locs hQ V => ?_)
  obtain ⟨z_1, rfl, rfl, f_2⟩ := hQ
  have V : gW D T A s [(o, .inr (8, [.int (nI 0), .ref g1, .ref g2, .ref g3, .ref g4, .int (nI 0), .int (nI 0), .int (nI 0), .int (nI 0), .int (nI 0), .int (nI 0), .int (nI 0), .int (nI 0), .int (nI 0), .int (-1), .ref g15, .int (nI 0), .ref g17, .int (nI 0), .int (nI 0), .ref g20, .int (nI 0), .ref g22, .ref g23, .ref g24, .int (nI 0), .int (nI 0), .int (nI 0), .ref g28, .ref g29, .int (nI 0), .ref g31, .ref g32, .ref g33])), (g31, .inl (T 0, 4, .inl (upd (upd (upd (upd (fun _ => nI 0) 0 (-1)) 1 (-1)) 2 (-1)) 3 (-1)))), (g32, .inl (T 0, 4, .inl (fun _ => nI 0))), (g33, .inl (T 1, 160, .inr (.inl (fun _ => 0))))] H locs := V
  show W p l e _ s m args below meth c H locs _ _ _ (F0 m 1289 ls [.int z_1])
  refine lv_aload_n hx hb dL_law_1289 rfl (lv_at hl 1 rfl) ?_
  refine lv_aload_n hx hb dL_law_1290 rfl (lv_at hl 3 rfl) ?_
  refine lv_iload_n hx hb dL_law_1291 rfl (lv_at hl 0 rfl) ?_
  refine lv_iconst (v := (nI 1)) hx hb dL_law_1292 (by decide +kernel) ?_
  refine lv_iadd hx hb dL_law_1293 ?_
  refine g_vi (y := (nI 1)) (by decide +kernel) ?_
  refine va_sld hx hb hX hbl hbA V.2.2.2.1 (vp_in_nI (by decide) (by decide)) dL_law_1294 ?_
  refine g_vi (y := xs 1) (congrArg xs (nI_clamp (by decide))) ?_
  refine lv_aload_n hx hb dL_law_1295 rfl (lv_at hl 3 rfl) ?_
  refine lv_iload_n hx hb dL_law_1296 rfl (lv_at hl 0 rfl) ?_
  refine lv_iconst (v := (nI 2)) hx hb dL_law_1297 (by decide +kernel) ?_
  refine lv_iadd hx hb dL_law_1298 ?_
  refine g_vi (y := (nI 2)) (by decide +kernel) ?_
  refine va_sld hx hb hX hbl hbA V.2.2.2.1 (vp_in_nI (by decide) (by decide)) dL_law_1299 ?_
  refine g_vi (y := xs 2) (congrArg xs (nI_clamp (by decide))) ?_
  refine lv_aload_n hx hb dL_law_1300 rfl (lv_at hl 3 rfl) ?_
  refine lv_iload_n hx hb dL_law_1301 rfl (lv_at hl 0 rfl) ?_
  refine lv_iconst (v := (nI 3)) hx hb dL_law_1302 (by decide +kernel) ?_
  refine lv_iadd hx hb dL_law_1303 ?_
  refine g_vi (y := (nI 3)) (by decide +kernel) ?_
  refine va_sld hx hb hX hbl hbA V.2.2.2.1 (vp_in_nI (by decide) (by decide)) dL_law_1304 ?_
  refine g_vi (y := xs 3) (congrArg xs (nI_clamp (by decide))) ?_
  refine g_callV (wr := []) (nA := 3) hC V hl.1 (pm_numbers l D T o (xs 1) (xs 2) (xs 3) g1 g2 g3 g4 g15 g17 g20 g22 g23 g24 g28 g29 g31 g32 g33) w_1372 w_1373 w_1374 w_9 w_1375 (by decide +kernel) rfl ⟨(Nat.le_of_ble_eq_true rfl), (Nat.le_of_ble_eq_true rfl)⟩ 0 (ci := 8) rfl rfl [0, 1, 2, 3] [] rfl rfl rfl rfl (by decide) (Nat.le_of_ble_eq_true rfl) dL_law_1305 ⟨(Nat.le_of_ble_eq_true rfl), (Nat.le_of_ble_eq_true rfl)⟩ rfl (fun r w1 H locs hQ V => ?_)
  obtain ⟨z_3, rfl, rfl, f_4⟩ := hQ
  have V : gW D T A s [] H locs := V
  show W p l e _ s m args below meth c H locs _ _ _ (F0 m 1308 ls [.int z_3, .int z_1])
  refine lv_icmp_eq (tgt := 1479) hx hb dL_law_1308 (by decide) (fun c_5 => ?_) (fun c_5 => ?_)
  · skip
    exact hE _ _ _ V.2.2.2.1 (lv_sub hl [0, 1, 2, 3] rfl)
  · exact (c_5 (f_2.trans f_4.symm)).elim

set_option maxHeartbeats 4000000 in
set_option maxRecDepth 100000 in
theorem lk_37 {p : Program} {e : Env} {s : State} {m : MethodId} {args : Array Value} {below : List Frame} {meth : Method} {c : Code} {Q : State → Prop} (l : Launch) {b : Nat} {xs : Nat → Int32} {D : va_G} {T : Nat → ClassId} {A : Nat → Prop} (ox n0 n1 n2 n3 n4 n5 n6 n7 n8 n9 n10 s0 s1 s2 s3 s4 s5 s6 s7 s8 s9 s10 im iz rw t0 t1 u0 h0 h1 h2 h3 y0 y1 y2 i0 i1 i2 i3 i4 i5 i6 i7 i8 i9 i10 j0 j1 j2 j3 j4 j5 j6 j7 j8 j9 j10 ra0 ra1 rb0 rb1 rc0 rc1 rd0 rd1 o g1 g2 g3 g4 g15 g17 g20 g22 g23 g24 g28 g29 g31 g32 g33 : Nat) (hC : cX p s m args meth c RL cL_law 4 (some .boolean)) (hX : va_X b 6 xs s s.heap) (hbl : b < s.heap.size) (hbA : ¬ A b) (hE : ∀ (H : Heap) (locs : List Loc) (ls : Array Slot), va_S A s.heap H locs → lv_has ls 4 [(3, .int (nI 0)), (2, .ref o), (1, .ref ox), (0, .ref b)] → W p l e room_1 s m args below meth c H locs 82 14431 Q (F0 m 1479 ls [])) {H : Heap} {locs : List Loc} {ls : Array Slot} (V : gW D T A s (lwW T ox n0 n1 n2 n3 n4 n5 n6 n7 n8 n9 n10 s0 s1 s2 s3 s4 s5 s6 s7 s8 s9 s10 im iz rw t0 t1 u0 h0 h1 h2 h3 y0 y1 y2 i0 i1 i2 i3 i4 i5 i6 i7 i8 i9 i10 j0 j1 j2 j3 j4 j5 j6 j7 j8 j9 j10 ra0 ra1 rb0 rb1 rc0 rc1 rd0 rd1 o g1 g2 g3 g4 g15 g17 g20 g22 g23 g24 g28 g29 g31 g32 g33) H locs) (hl : lv_has ls 4 [(3, .int (nI 0)), (2, .ref o), (1, .ref ox), (0, .ref b)]) : W p l e room_1 s m args below meth c H locs 82 14431 Q (F0 m 1313 ls []) := by
  obtain ⟨hx, hb, hr, hml, hown, hts, hlocks⟩ := id hC
  have V := V.sub (ws' := [(ox, .inr (7, [.ref n0, .ref s0, .ref im, .ref iz, .ref rw, .ref t0, .ref u0, .ref h0, .ref y0, .null])), (rw, .inl (T 5, 4, .inr (.inr (.inr (.inr (va_up (va_up (va_up (va_up (fun _ => none) 0 (some ra0)) 1 (some rb0)) 2 (some rc0)) 3 (some rd0))))))), (ra0, .inr (1, [.int (nI 0), .int (nI 0), .ref ra1, .int (nI 0)])), (ra1, .inl (T 1, 40, .inr (.inl (fun _ => 0)))), (rb0, .inr (1, [.int (nI 0), .int (nI 0), .ref rb1, .int (nI 0)])), (rb1, .inl (T 1, 40, .inr (.inl (fun _ => 0)))), (rc0, .inr (1, [.int (nI 0), .int (nI 0), .ref rc1, .int (nI 0)])), (rc1, .inl (T 1, 40, .inr (.inl (fun _ => 0)))), (rd0, .inr (1, [.int (nI 0), .int (nI 0), .ref rd1, .int (nI 0)])), (rd1, .inl (T 1, 40, .inr (.inl (fun _ => 0)))), (o, .inr (8, [.int (nI 0), .ref g1, .ref g2, .ref g3, .ref g4, .int (nI 0), .int (nI 0), .int (nI 0), .int (nI 0), .int (nI 0), .int (nI 0), .int (nI 0), .int (nI 0), .int (nI 0), .int (-1), .ref g15, .int (nI 0), .ref g17, .int (nI 0), .int (nI 0), .ref g20, .int (nI 0), .ref g22, .ref g23, .ref g24, .int (nI 0), .int (nI 0), .int (nI 0), .ref g28, .ref g29, .int (nI 0), .ref g31, .ref g32, .ref g33])), (g31, .inl (T 0, 4, .inl (upd (upd (upd (upd (fun _ => nI 0) 0 (-1)) 1 (-1)) 2 (-1)) 3 (-1))))]) [0, 25, 58, 59, 60, 61, 62, 63, 64, 65, 66, 79] rfl rfl
  refine lv_aload_n hx hb dL_law_1313 rfl (lv_at hl 2 rfl) ?_
  refine lv_aload_n hx hb dL_law_1314 rfl (lv_at hl 3 rfl) ?_
  refine lv_iload_n hx hb dL_law_1315 rfl (lv_at hl 0 rfl) ?_
  refine lv_iconst (v := (nI 1)) hx hb dL_law_1316 (by decide +kernel) ?_
  refine lv_iadd hx hb dL_law_1317 ?_
  refine g_vi (y := (nI 1)) (by decide +kernel) ?_
  refine va_sld hx hb hX hbl hbA V.2.2.2.1 (vp_in_nI (by decide) (by decide)) dL_law_1318 ?_
  refine g_vi (y := xs 1) (congrArg xs (nI_clamp (by decide))) ?_
  refine lv_aload_n hx hb dL_law_1319 rfl (lv_at hl 3 rfl) ?_
  refine lv_iload_n hx hb dL_law_1320 rfl (lv_at hl 0 rfl) ?_
  refine lv_iconst (v := (nI 2)) hx hb dL_law_1321 (by decide +kernel) ?_
  refine lv_iadd hx hb dL_law_1322 ?_
  refine g_vi (y := (nI 2)) (by decide +kernel) ?_
  refine va_sld hx hb hX hbl hbA V.2.2.2.1 (vp_in_nI (by decide) (by decide)) dL_law_1323 ?_
  refine g_vi (y := xs 2) (congrArg xs (nI_clamp (by decide))) ?_
  refine lv_aload_n hx hb dL_law_1324 rfl (lv_at hl 3 rfl) ?_
  refine lv_iload_n hx hb dL_law_1325 rfl (lv_at hl 0 rfl) ?_
  refine lv_iconst (v := (nI 3)) hx hb dL_law_1326 (by decide +kernel) ?_
  refine lv_iadd hx hb dL_law_1327 ?_
  refine g_vi (y := (nI 3)) (by decide +kernel) ?_
  refine va_sld hx hb hX hbl hbA V.2.2.2.1 (vp_in_nI (by decide) (by decide)) dL_law_1328 ?_
  refine g_vi (y := xs 3) (congrArg xs (nI_clamp (by decide))) ?_
  refine lv_i2l (v := (xs 3).toInt64) hx hb dL_law_1329 rfl ?_
  refine lv_bipush (v := (nI 32)) hx hb dL_law_1330 (by decide +kernel) ?_
  refine lv_lshl hx hb dL_law_1332 rfl ?_
  refine lv_aload_n hx hb dL_law_1333 rfl (lv_at hl 3 rfl) ?_
  refine lv_iload_n hx hb dL_law_1334 rfl (lv_at hl 0 rfl) ?_
  refine lv_iconst (v := (nI 4)) hx hb dL_law_1335 (by decide +kernel) ?_
  refine lv_iadd hx hb dL_law_1336 ?_
  refine g_vi (y := (nI 4)) (by decide +kernel) ?_
  refine va_sld hx hb hX hbl hbA V.2.2.2.1 (vp_in_nI (by decide) (by decide)) dL_law_1337 ?_
  refine g_vi (y := xs 4) (congrArg xs (nI_clamp (by decide))) ?_
  refine lv_i2l (v := (xs 4).toInt64) hx hb dL_law_1338 rfl ?_
  refine lv_ldc2 (v := (4294967295)) hx hb hown (hts _ w_1411) dL_law_1339 ?_
  refine lv_land hx hb dL_law_1342 ?_
  refine lv_lor hx hb dL_law_1343 ?_
  refine lv_topl (fun y_1 ey_1 => ?_)
  refine g_callV (wr := [(o, .inr (8, [.int (nI 0), .ref g1, .ref g2, .ref g3, .ref g4, .int (nI 0), .int (nI 0), .int (nI 0), .int (nI 0), .int (nI 0), .int (nI 0), .int (nI 0), .int (nI 0), .int (nI 0), .int (-1), .ref g15, .int (nI 0), .ref g17, .int (nI 0), .int (nI 0), .ref g20, .int (nI 0), .ref g22, .ref g23, .ref g24, .int (nI 0), .int (nI 0), .int (nI 0), .ref g28, .ref g29, .int (nI 0), .ref g31, .ref g32, .ref g33])), (g31, .inl (T 0, 4, .inl (upd (upd (upd (upd (fun _ => nI 0) 0 (-1)) 1 (-1)) 2 (-1)) 3 (-1))))]) (nA := 3) hC V hl.1 (p_X7_write l D T ox (xs 1) (xs 2) y_1 n0 s0 im iz rw t0 u0 h0 y0 ra0 rb0 rc0 rd0 ra1 rb1 rc1 rd1) w_866 w_867 w_868 w_2 w_869 (by decide +kernel) rfl ⟨(Nat.le_of_ble_eq_true rfl), (Nat.le_of_ble_eq_true rfl)⟩ 0 (ci := 7) rfl rfl [0, 1, 2, 3, 4, 5, 6, 7, 8, 9] [10, 11] rfl rfl rfl rfl (by decide) (Nat.le_of_ble_eq_true rfl) dL_law_1344 ⟨(Nat.le_of_ble_eq_true rfl), (Nat.le_of_ble_eq_true rfl)⟩ rfl (fun r w1 H locs hQ V => ?_)
  obtain ⟨z_2, rfl, rfl, f_3⟩ := hQ
  have V : gW D T A s [(o, .inr (8, [.int (nI 0), .ref g1, .ref g2, .ref g3, .ref g4, .int (nI 0), .int (nI 0), .int (nI 0), .int (nI 0), .int (nI 0), .int (nI 0), .int (nI 0), .int (nI 0), .int (nI 0), .int (-1), .ref g15, .int (nI 0), .ref g17, .int (nI 0), .int (nI 0), .ref g20, .int (nI 0), .ref g22, .ref g23, .ref g24, .int (nI 0), .int (nI 0), .int (nI 0), .ref g28, .ref g29, .int (nI 0), .ref g31, .ref g32, .ref g33])), (g31, .inl (T 0, 4, .inl (upd (upd (upd (upd (fun _ => nI 0) 0 (-1)) 1 (-1)) 2 (-1)) 3 (-1))))] H locs := V
  show W p l e _ s m args below meth c H locs _ _ _ (F0 m 1347 ls [.long z_2])
  refine lv_aload_n hx hb dL_law_1347 rfl (lv_at hl 1 rfl) ?_
  refine lv_aload_n hx hb dL_law_1348 rfl (lv_at hl 3 rfl) ?_
  refine lv_iload_n hx hb dL_law_1349 rfl (lv_at hl 0 rfl) ?_
  refine lv_iconst (v := (nI 1)) hx hb dL_law_1350 (by decide +kernel) ?_
  refine lv_iadd hx hb dL_law_1351 ?_
  refine g_vi (y := (nI 1)) (by decide +kernel) ?_
  refine va_sld hx hb hX hbl hbA V.2.2.2.1 (vp_in_nI (by decide) (by decide)) dL_law_1352 ?_
  refine g_vi (y := xs 1) (congrArg xs (nI_clamp (by decide))) ?_
  refine lv_aload_n hx hb dL_law_1353 rfl (lv_at hl 3 rfl) ?_
  refine lv_iload_n hx hb dL_law_1354 rfl (lv_at hl 0 rfl) ?_
  refine lv_iconst (v := (nI 2)) hx hb dL_law_1355 (by decide +kernel) ?_
  refine lv_iadd hx hb dL_law_1356 ?_
  refine g_vi (y := (nI 2)) (by decide +kernel) ?_
  refine va_sld hx hb hX hbl hbA V.2.2.2.1 (vp_in_nI (by decide) (by decide)) dL_law_1357 ?_
  refine g_vi (y := xs 2) (congrArg xs (nI_clamp (by decide))) ?_
  refine lv_aload_n hx hb dL_law_1358 rfl (lv_at hl 3 rfl) ?_
  refine lv_iload_n hx hb dL_law_1359 rfl (lv_at hl 0 rfl) ?_
  refine lv_iconst (v := (nI 3)) hx hb dL_law_1360 (by decide +kernel) ?_
  refine lv_iadd hx hb dL_law_1361 ?_
  refine g_vi (y := (nI 3)) (by decide +kernel) ?_
  refine va_sld hx hb hX hbl hbA V.2.2.2.1 (vp_in_nI (by decide) (by decide)) dL_law_1362 ?_
  refine g_vi (y := xs 3) (congrArg xs (nI_clamp (by decide))) ?_
  refine lv_i2l (v := (xs 3).toInt64) hx hb dL_law_1363 rfl ?_
  refine lv_bipush (v := (nI 32)) hx hb dL_law_1364 (by decide +kernel) ?_
  refine lv_lshl hx hb dL_law_1366 rfl ?_
  refine lv_aload_n hx hb dL_law_1367 rfl (lv_at hl 3 rfl) ?_
  refine lv_iload_n hx hb dL_law_1368 rfl (lv_at hl 0 rfl) ?_
  refine lv_iconst (v := (nI 4)) hx hb dL_law_1369 (by decide +kernel) ?_
  refine lv_iadd hx hb dL_law_1370 ?_
  refine g_vi (y := (nI 4)) (by decide +kernel) ?_
  refine va_sld hx hb hX hbl hbA V.2.2.2.1 (vp_in_nI (by decide) (by decide)) dL_law_1371 ?_
  refine g_vi (y := xs 4) (congrArg xs (nI_clamp (by decide))) ?_
  refine lv_i2l (v := (xs 4).toInt64) hx hb dL_law_1372 rfl ?_
  refine lv_ldc2 (v := (4294967295)) hx hb hown (hts _ w_1411) dL_law_1373 ?_
  refine lv_land hx hb dL_law_1376 ?_
  refine lv_lor hx hb dL_law_1377 ?_
  refine lv_topl (fun y_4 ey_4 => ?_)
  refine g_callV (wr := []) (nA := 3) hC V hl.1 (pm_write l D T o (xs 1) (xs 2) y_4 g1 g2 g3 g4 g15 g17 g20 g22 g23 g24 g28 g29 g31 g32 g33) w_1377 w_1378 w_1379 w_9 w_1380 (by decide +kernel) rfl ⟨(Nat.le_of_ble_eq_true rfl), (Nat.le_of_ble_eq_true rfl)⟩ 0 (ci := 8) rfl rfl [0, 1] [] rfl rfl rfl rfl (by decide) (Nat.le_of_ble_eq_true rfl) dL_law_1378 ⟨(Nat.le_of_ble_eq_true rfl), (Nat.le_of_ble_eq_true rfl)⟩ rfl (fun r w1 H locs hQ V => ?_)
  obtain ⟨z_5, rfl, rfl, f_6⟩ := hQ
  have V : gW D T A s [] H locs := V
  show W p l e _ s m args below meth c H locs _ _ _ (F0 m 1381 ls [.long z_5, .long z_2])
  refine W.lcmp hx hb dL_law_1381 ?_
  refine lv_if_eq (tgt := 1479) hx hb dL_law_1382 (by decide) (fun c_7 => ?_) (fun c_7 => ?_)
  · skip
    exact hE _ _ _ V.2.2.2.1 (lv_sub hl [0, 1, 2, 3] rfl)
  · skip
    exact (c_7 ((lg_cmp_eq _ _).mpr (f_3.trans f_6.symm)) : False).elim

set_option maxHeartbeats 4000000 in
set_option maxRecDepth 100000 in
theorem lk_38 {p : Program} {e : Env} {s : State} {m : MethodId} {args : Array Value} {below : List Frame} {meth : Method} {c : Code} {Q : State → Prop} (l : Launch) {b : Nat} {xs : Nat → Int32} {D : va_G} {T : Nat → ClassId} {A : Nat → Prop} (ox n0 n1 n2 n3 n4 n5 n6 n7 n8 n9 n10 s0 s1 s2 s3 s4 s5 s6 s7 s8 s9 s10 im iz rw t0 t1 u0 h0 h1 h2 h3 y0 y1 y2 i0 i1 i2 i3 i4 i5 i6 i7 i8 i9 i10 j0 j1 j2 j3 j4 j5 j6 j7 j8 j9 j10 ra0 ra1 rb0 rb1 rc0 rc1 rd0 rd1 o g1 g2 g3 g4 g15 g17 g20 g22 g23 g24 g28 g29 g31 g32 g33 : Nat) (hC : cX p s m args meth c RL cL_law 4 (some .boolean)) (hX : va_X b 6 xs s s.heap) (hbl : b < s.heap.size) (hbA : ¬ A b) (hE : ∀ (H : Heap) (locs : List Loc) (ls : Array Slot), va_S A s.heap H locs → lv_has ls 4 [(3, .int (nI 0)), (2, .ref o), (1, .ref ox), (0, .ref b)] → W p l e room_1 s m args below meth c H locs 82 14431 Q (F0 m 1479 ls [])) {H : Heap} {locs : List Loc} {ls : Array Slot} (V : gW D T A s (lwW T ox n0 n1 n2 n3 n4 n5 n6 n7 n8 n9 n10 s0 s1 s2 s3 s4 s5 s6 s7 s8 s9 s10 im iz rw t0 t1 u0 h0 h1 h2 h3 y0 y1 y2 i0 i1 i2 i3 i4 i5 i6 i7 i8 i9 i10 j0 j1 j2 j3 j4 j5 j6 j7 j8 j9 j10 ra0 ra1 rb0 rb1 rc0 rc1 rd0 rd1 o g1 g2 g3 g4 g15 g17 g20 g22 g23 g24 g28 g29 g31 g32 g33) H locs) (hl : lv_has ls 4 [(3, .int (nI 0)), (2, .ref o), (1, .ref ox), (0, .ref b)]) : W p l e room_1 s m args below meth c H locs 82 14431 Q (F0 m 1387 ls []) := by
  obtain ⟨hx, hb, hr, hml, hown, hts, hlocks⟩ := id hC
  have V := V.sub (ws' := [(ox, .inr (7, [.ref n0, .ref s0, .ref im, .ref iz, .ref rw, .ref t0, .ref u0, .ref h0, .ref y0, .null])), (rw, .inl (T 5, 4, .inr (.inr (.inr (.inr (va_up (va_up (va_up (va_up (fun _ => none) 0 (some ra0)) 1 (some rb0)) 2 (some rc0)) 3 (some rd0))))))), (ra0, .inr (1, [.int (nI 0), .int (nI 0), .ref ra1, .int (nI 0)])), (ra1, .inl (T 1, 40, .inr (.inl (fun _ => 0)))), (rb0, .inr (1, [.int (nI 0), .int (nI 0), .ref rb1, .int (nI 0)])), (rb1, .inl (T 1, 40, .inr (.inl (fun _ => 0)))), (rc0, .inr (1, [.int (nI 0), .int (nI 0), .ref rc1, .int (nI 0)])), (rc1, .inl (T 1, 40, .inr (.inl (fun _ => 0)))), (rd0, .inr (1, [.int (nI 0), .int (nI 0), .ref rd1, .int (nI 0)])), (rd1, .inl (T 1, 40, .inr (.inl (fun _ => 0)))), (o, .inr (8, [.int (nI 0), .ref g1, .ref g2, .ref g3, .ref g4, .int (nI 0), .int (nI 0), .int (nI 0), .int (nI 0), .int (nI 0), .int (nI 0), .int (nI 0), .int (nI 0), .int (nI 0), .int (-1), .ref g15, .int (nI 0), .ref g17, .int (nI 0), .int (nI 0), .ref g20, .int (nI 0), .ref g22, .ref g23, .ref g24, .int (nI 0), .int (nI 0), .int (nI 0), .ref g28, .ref g29, .int (nI 0), .ref g31, .ref g32, .ref g33])), (g31, .inl (T 0, 4, .inl (upd (upd (upd (upd (fun _ => nI 0) 0 (-1)) 1 (-1)) 2 (-1)) 3 (-1))))]) [0, 25, 58, 59, 60, 61, 62, 63, 64, 65, 66, 79] rfl rfl
  refine lv_aload_n hx hb dL_law_1387 rfl (lv_at hl 2 rfl) ?_
  refine lv_aload_n hx hb dL_law_1388 rfl (lv_at hl 3 rfl) ?_
  refine lv_iload_n hx hb dL_law_1389 rfl (lv_at hl 0 rfl) ?_
  refine lv_iconst (v := (nI 1)) hx hb dL_law_1390 (by decide +kernel) ?_
  refine lv_iadd hx hb dL_law_1391 ?_
  refine g_vi (y := (nI 1)) (by decide +kernel) ?_
  refine va_sld hx hb hX hbl hbA V.2.2.2.1 (vp_in_nI (by decide) (by decide)) dL_law_1392 ?_
  refine g_vi (y := xs 1) (congrArg xs (nI_clamp (by decide))) ?_
  refine g_callV (wr := [(o, .inr (8, [.int (nI 0), .ref g1, .ref g2, .ref g3, .ref g4, .int (nI 0), .int (nI 0), .int (nI 0), .int (nI 0), .int (nI 0), .int (nI 0), .int (nI 0), .int (nI 0), .int (nI 0), .int (-1), .ref g15, .int (nI 0), .ref g17, .int (nI 0), .int (nI 0), .ref g20, .int (nI 0), .ref g22, .ref g23, .ref g24, .int (nI 0), .int (nI 0), .int (nI 0), .ref g28, .ref g29, .int (nI 0), .ref g31, .ref g32, .ref g33])), (g31, .inl (T 0, 4, .inl (upd (upd (upd (upd (fun _ => nI 0) 0 (-1)) 1 (-1)) 2 (-1)) 3 (-1))))]) (nA := 1) hC V hl.1 (p_X7_copy l D T ox (xs 1) n0 s0 im iz rw t0 u0 h0 y0 ra0 rb0 rc0 rd0 ra1 rb1 rc1 rd1) w_879 w_880 w_881 w_2 w_882 (by decide +kernel) rfl ⟨(Nat.le_of_ble_eq_true rfl), (Nat.le_of_ble_eq_true rfl)⟩ 0 (ci := 7) rfl rfl [0, 1, 2, 3, 4, 5, 6, 7, 8, 9] [10, 11] rfl rfl rfl rfl (by decide) (Nat.le_of_ble_eq_true rfl) dL_law_1393 ⟨(Nat.le_of_ble_eq_true rfl), (Nat.le_of_ble_eq_true rfl)⟩ rfl (fun r w1 H locs hQ V => ?_)
  obtain ⟨z_1, rfl, rfl, f_2⟩ := hQ
  have V : gW D T A s [(o, .inr (8, [.int (nI 0), .ref g1, .ref g2, .ref g3, .ref g4, .int (nI 0), .int (nI 0), .int (nI 0), .int (nI 0), .int (nI 0), .int (nI 0), .int (nI 0), .int (nI 0), .int (nI 0), .int (-1), .ref g15, .int (nI 0), .ref g17, .int (nI 0), .int (nI 0), .ref g20, .int (nI 0), .ref g22, .ref g23, .ref g24, .int (nI 0), .int (nI 0), .int (nI 0), .ref g28, .ref g29, .int (nI 0), .ref g31, .ref g32, .ref g33])), (g31, .inl (T 0, 4, .inl (upd (upd (upd (upd (fun _ => nI 0) 0 (-1)) 1 (-1)) 2 (-1)) 3 (-1))))] H locs := V
  show W p l e _ s m args below meth c H locs _ _ _ (F0 m 1396 ls [.int z_1])
  refine lv_aload_n hx hb dL_law_1396 rfl (lv_at hl 1 rfl) ?_
  refine lv_aload_n hx hb dL_law_1397 rfl (lv_at hl 3 rfl) ?_
  refine lv_iload_n hx hb dL_law_1398 rfl (lv_at hl 0 rfl) ?_
  refine lv_iconst (v := (nI 1)) hx hb dL_law_1399 (by decide +kernel) ?_
  refine lv_iadd hx hb dL_law_1400 ?_
  refine g_vi (y := (nI 1)) (by decide +kernel) ?_
  refine va_sld hx hb hX hbl hbA V.2.2.2.1 (vp_in_nI (by decide) (by decide)) dL_law_1401 ?_
  refine g_vi (y := xs 1) (congrArg xs (nI_clamp (by decide))) ?_
  refine g_callV (wr := []) (nA := 1) hC V hl.1 (pm_copy l D T o (xs 1) g1 g2 g3 g4 g15 g17 g20 g22 g23 g24 g28 g29 g31 g32 g33) w_1387 w_1388 w_1389 w_9 w_1390 (by decide +kernel) rfl ⟨(Nat.le_of_ble_eq_true rfl), (Nat.le_of_ble_eq_true rfl)⟩ 0 (ci := 8) rfl rfl [0, 1] [] rfl rfl rfl rfl (by decide) (Nat.le_of_ble_eq_true rfl) dL_law_1402 ⟨(Nat.le_of_ble_eq_true rfl), (Nat.le_of_ble_eq_true rfl)⟩ rfl (fun r w1 H locs hQ V => ?_)
  obtain ⟨z_3, rfl, rfl, f_4⟩ := hQ
  have V : gW D T A s [] H locs := V
  show W p l e _ s m args below meth c H locs _ _ _ (F0 m 1405 ls [.int z_3, .int z_1])
  refine lv_icmp_eq (tgt := 1479) hx hb dL_law_1405 (by decide) (fun c_5 => ?_) (fun c_5 => ?_)
  · skip
    exact hE _ _ _ V.2.2.2.1 (lv_sub hl [0, 1, 2, 3] rfl)
  · exact (c_5 (f_2.trans f_4.symm)).elim

set_option maxHeartbeats 4000000 in
set_option maxRecDepth 100000 in
theorem lk_39 {p : Program} {e : Env} {s : State} {m : MethodId} {args : Array Value} {below : List Frame} {meth : Method} {c : Code} {Q : State → Prop} (l : Launch) {b : Nat} {xs : Nat → Int32} {D : va_G} {T : Nat → ClassId} {A : Nat → Prop} (ox n0 n1 n2 n3 n4 n5 n6 n7 n8 n9 n10 s0 s1 s2 s3 s4 s5 s6 s7 s8 s9 s10 im iz rw t0 t1 u0 h0 h1 h2 h3 y0 y1 y2 i0 i1 i2 i3 i4 i5 i6 i7 i8 i9 i10 j0 j1 j2 j3 j4 j5 j6 j7 j8 j9 j10 ra0 ra1 rb0 rb1 rc0 rc1 rd0 rd1 o g1 g2 g3 g4 g15 g17 g20 g22 g23 g24 g28 g29 g31 g32 g33 : Nat) (hC : cX p s m args meth c RL cL_law 4 (some .boolean)) (hX : va_X b 6 xs s s.heap) (hbl : b < s.heap.size) (hbA : ¬ A b) (hE : ∀ (H : Heap) (locs : List Loc) (ls : Array Slot), va_S A s.heap H locs → lv_has ls 4 [(3, .int (nI 0)), (2, .ref o), (1, .ref ox), (0, .ref b)] → W p l e room_1 s m args below meth c H locs 82 14431 Q (F0 m 1479 ls [])) {H : Heap} {locs : List Loc} {ls : Array Slot} (V : gW D T A s (lwW T ox n0 n1 n2 n3 n4 n5 n6 n7 n8 n9 n10 s0 s1 s2 s3 s4 s5 s6 s7 s8 s9 s10 im iz rw t0 t1 u0 h0 h1 h2 h3 y0 y1 y2 i0 i1 i2 i3 i4 i5 i6 i7 i8 i9 i10 j0 j1 j2 j3 j4 j5 j6 j7 j8 j9 j10 ra0 ra1 rb0 rb1 rc0 rc1 rd0 rd1 o g1 g2 g3 g4 g15 g17 g20 g22 g23 g24 g28 g29 g31 g32 g33) H locs) (hl : lv_has ls 4 [(3, .int (nI 0)), (2, .ref o), (1, .ref ox), (0, .ref b)]) : W p l e room_1 s m args below meth c H locs 82 14431 Q (F0 m 1410 ls []) := by
  obtain ⟨hx, hb, hr, hml, hown, hts, hlocks⟩ := id hC
  have V := V.sub (ws' := [(ox, .inr (7, [.ref n0, .ref s0, .ref im, .ref iz, .ref rw, .ref t0, .ref u0, .ref h0, .ref y0, .null])), (n0, .inr (5, [.int (nI 0), .int (nI 0), .int (nI 0), .int (nI 20), .int (nI 0), .ref n1, .ref n2, .ref n3, .ref n4, .ref n5, .ref n6, .ref n7, .ref n8, .ref n9, .ref n10])), (im, .inl (T 4, 2, .inr (.inr (.inr (.inr (va_up (va_up (fun _ => none) 0 (some i0)) 1 (some j0))))))), (iz, .inl (T 2, 2, .inl (fun _ => nI 0))), (i0, .inr (5, [.int (nI 0), .int (nI 0), .int (nI 0), .int (nI 20), .int (nI 0), .ref i1, .ref i2, .ref i3, .ref i4, .ref i5, .ref i6, .ref i7, .ref i8, .ref i9, .ref i10])), (j0, .inr (5, [.int (nI 0), .int (nI 0), .int (nI 0), .int (nI 20), .int (nI 0), .ref j1, .ref j2, .ref j3, .ref j4, .ref j5, .ref j6, .ref j7, .ref j8, .ref j9, .ref j10])), (o, .inr (8, [.int (nI 0), .ref g1, .ref g2, .ref g3, .ref g4, .int (nI 0), .int (nI 0), .int (nI 0), .int (nI 0), .int (nI 0), .int (nI 0), .int (nI 0), .int (nI 0), .int (nI 0), .int (-1), .ref g15, .int (nI 0), .ref g17, .int (nI 0), .int (nI 0), .ref g20, .int (nI 0), .ref g22, .ref g23, .ref g24, .int (nI 0), .int (nI 0), .int (nI 0), .ref g28, .ref g29, .int (nI 0), .ref g31, .ref g32, .ref g33])), (g1, .inl (T 0, 282, .inl (upd (fun _ => nI 0) 2 (nI 20)))), (g2, .inl (T 2, 2, .inl (fun _ => nI 0)))]) [0, 1, 23, 24, 36, 47, 66, 67, 68] rfl rfl
  refine lv_aload_n hx hb dL_law_1410 rfl (lv_at hl 2 rfl) ?_
  refine lv_aload_n hx hb dL_law_1411 rfl (lv_at hl 3 rfl) ?_
  refine lv_iload_n hx hb dL_law_1412 rfl (lv_at hl 0 rfl) ?_
  refine lv_iconst (v := (nI 1)) hx hb dL_law_1413 (by decide +kernel) ?_
  refine lv_iadd hx hb dL_law_1414 ?_
  refine g_vi (y := (nI 1)) (by decide +kernel) ?_
  refine va_sld hx hb hX hbl hbA V.2.2.2.1 (vp_in_nI (by decide) (by decide)) dL_law_1415 ?_
  refine g_vi (y := xs 1) (congrArg xs (nI_clamp (by decide))) ?_
  refine g_callV (wr := [(o, .inr (8, [.int (nI 0), .ref g1, .ref g2, .ref g3, .ref g4, .int (nI 0), .int (nI 0), .int (nI 0), .int (nI 0), .int (nI 0), .int (nI 0), .int (nI 0), .int (nI 0), .int (nI 0), .int (-1), .ref g15, .int (nI 0), .ref g17, .int (nI 0), .int (nI 0), .ref g20, .int (nI 0), .ref g22, .ref g23, .ref g24, .int (nI 0), .int (nI 0), .int (nI 0), .ref g28, .ref g29, .int (nI 0), .ref g31, .ref g32, .ref g33])), (g1, .inl (T 0, 282, .inl (upd (fun _ => nI 0) 2 (nI 20)))), (g2, .inl (T 2, 2, .inl (fun _ => nI 0)))]) (nA := 1) hC V hl.1 (p_X7_image l D T ox (xs 1) n0 s0 im iz rw t0 u0 h0 y0 i0 j0 n1 n2 n3 n4 n5 n6 n7 n8 n9 n10 i1 i2 i3 i4 i5 i6 i7 i8 i9 i10 j1 j2 j3 j4 j5 j6 j7 j8 j9 j10) w_883 w_884 w_885 w_2 w_886 (by decide +kernel) rfl ⟨(Nat.le_of_ble_eq_true rfl), (Nat.le_of_ble_eq_true rfl)⟩ 0 (ci := 7) rfl rfl [0, 2, 3, 1, 4, 5] [6, 7, 8] rfl rfl rfl rfl (by decide) (Nat.le_of_ble_eq_true rfl) dL_law_1416 ⟨(Nat.le_of_ble_eq_true rfl), (Nat.le_of_ble_eq_true rfl)⟩ rfl (fun r w1 H locs hQ V => ?_)
  obtain ⟨z_1, rfl, rfl, f_2⟩ := hQ
  have V : gW D T A s [(o, .inr (8, [.int (nI 0), .ref g1, .ref g2, .ref g3, .ref g4, .int (nI 0), .int (nI 0), .int (nI 0), .int (nI 0), .int (nI 0), .int (nI 0), .int (nI 0), .int (nI 0), .int (nI 0), .int (-1), .ref g15, .int (nI 0), .ref g17, .int (nI 0), .int (nI 0), .ref g20, .int (nI 0), .ref g22, .ref g23, .ref g24, .int (nI 0), .int (nI 0), .int (nI 0), .ref g28, .ref g29, .int (nI 0), .ref g31, .ref g32, .ref g33])), (g1, .inl (T 0, 282, .inl (upd (fun _ => nI 0) 2 (nI 20)))), (g2, .inl (T 2, 2, .inl (fun _ => nI 0)))] H locs := V
  show W p l e _ s m args below meth c H locs _ _ _ (F0 m 1419 ls [.int z_1])
  refine lv_aload_n hx hb dL_law_1419 rfl (lv_at hl 1 rfl) ?_
  refine lv_aload_n hx hb dL_law_1420 rfl (lv_at hl 3 rfl) ?_
  refine lv_iload_n hx hb dL_law_1421 rfl (lv_at hl 0 rfl) ?_
  refine lv_iconst (v := (nI 1)) hx hb dL_law_1422 (by decide +kernel) ?_
  refine lv_iadd hx hb dL_law_1423 ?_
  refine g_vi (y := (nI 1)) (by decide +kernel) ?_
  refine va_sld hx hb hX hbl hbA V.2.2.2.1 (vp_in_nI (by decide) (by decide)) dL_law_1424 ?_
  refine g_vi (y := xs 1) (congrArg xs (nI_clamp (by decide))) ?_
  refine g_callV (wr := []) (nA := 1) hC V hl.1 (pm_image l D T o (xs 1) g1 g2 g3 g4 g15 g17 g20 g22 g23 g24 g28 g29 g31 g32 g33) w_1391 w_1392 w_1393 w_9 w_1394 (by decide +kernel) rfl ⟨(Nat.le_of_ble_eq_true rfl), (Nat.le_of_ble_eq_true rfl)⟩ 0 (ci := 8) rfl rfl [0, 1, 2] [] rfl rfl rfl rfl (by decide) (Nat.le_of_ble_eq_true rfl) dL_law_1425 ⟨(Nat.le_of_ble_eq_true rfl), (Nat.le_of_ble_eq_true rfl)⟩ rfl (fun r w1 H locs hQ V => ?_)
  obtain ⟨z_3, rfl, rfl, f_4⟩ := hQ
  have V : gW D T A s [] H locs := V
  show W p l e _ s m args below meth c H locs _ _ _ (F0 m 1428 ls [.int z_3, .int z_1])
  refine lv_icmp_eq (tgt := 1479) hx hb dL_law_1428 (by decide) (fun c_5 => ?_) (fun c_5 => ?_)
  · skip
    exact hE _ _ _ V.2.2.2.1 (lv_sub hl [0, 1, 2, 3] rfl)
  · exact (c_5 (f_2.trans f_4.symm)).elim

set_option maxHeartbeats 4000000 in
set_option maxRecDepth 100000 in
theorem lk_40 {p : Program} {e : Env} {s : State} {m : MethodId} {args : Array Value} {below : List Frame} {meth : Method} {c : Code} {Q : State → Prop} (l : Launch) {b : Nat} {xs : Nat → Int32} {D : va_G} {T : Nat → ClassId} {A : Nat → Prop} (ox n0 n1 n2 n3 n4 n5 n6 n7 n8 n9 n10 s0 s1 s2 s3 s4 s5 s6 s7 s8 s9 s10 im iz rw t0 t1 u0 h0 h1 h2 h3 y0 y1 y2 i0 i1 i2 i3 i4 i5 i6 i7 i8 i9 i10 j0 j1 j2 j3 j4 j5 j6 j7 j8 j9 j10 ra0 ra1 rb0 rb1 rc0 rc1 rd0 rd1 o g1 g2 g3 g4 g15 g17 g20 g22 g23 g24 g28 g29 g31 g32 g33 : Nat) (hC : cX p s m args meth c RL cL_law 4 (some .boolean)) (hX : va_X b 6 xs s s.heap) (hbl : b < s.heap.size) (hbA : ¬ A b) (hE : ∀ (H : Heap) (locs : List Loc) (ls : Array Slot), va_S A s.heap H locs → lv_has ls 4 [(3, .int (nI 0)), (2, .ref o), (1, .ref ox), (0, .ref b)] → W p l e room_1 s m args below meth c H locs 82 14431 Q (F0 m 1479 ls [])) {H : Heap} {locs : List Loc} {ls : Array Slot} (V : gW D T A s (lwW T ox n0 n1 n2 n3 n4 n5 n6 n7 n8 n9 n10 s0 s1 s2 s3 s4 s5 s6 s7 s8 s9 s10 im iz rw t0 t1 u0 h0 h1 h2 h3 y0 y1 y2 i0 i1 i2 i3 i4 i5 i6 i7 i8 i9 i10 j0 j1 j2 j3 j4 j5 j6 j7 j8 j9 j10 ra0 ra1 rb0 rb1 rc0 rc1 rd0 rd1 o g1 g2 g3 g4 g15 g17 g20 g22 g23 g24 g28 g29 g31 g32 g33) H locs) (hl : lv_has ls 4 [(3, .int (nI 0)), (2, .ref o), (1, .ref ox), (0, .ref b)]) : W p l e room_1 s m args below meth c H locs 82 14431 Q (F0 m 1433 ls []) := by
  obtain ⟨hx, hb, hr, hml, hown, hts, hlocks⟩ := id hC
  have V := V.sub (ws' := [(ox, .inr (7, [.ref n0, .ref s0, .ref im, .ref iz, .ref rw, .ref t0, .ref u0, .ref h0, .ref y0, .null])), (im, .inl (T 4, 2, .inr (.inr (.inr (.inr (va_up (va_up (fun _ => none) 0 (some i0)) 1 (some j0))))))), (iz, .inl (T 2, 2, .inl (fun _ => nI 0))), (o, .inr (8, [.int (nI 0), .ref g1, .ref g2, .ref g3, .ref g4, .int (nI 0), .int (nI 0), .int (nI 0), .int (nI 0), .int (nI 0), .int (nI 0), .int (nI 0), .int (nI 0), .int (nI 0), .int (-1), .ref g15, .int (nI 0), .ref g17, .int (nI 0), .int (nI 0), .ref g20, .int (nI 0), .ref g22, .ref g23, .ref g24, .int (nI 0), .int (nI 0), .int (nI 0), .ref g28, .ref g29, .int (nI 0), .ref g31, .ref g32, .ref g33])), (g2, .inl (T 2, 2, .inl (fun _ => nI 0)))]) [0, 23, 24, 66, 68] rfl rfl
  refine lv_aload_n hx hb dL_law_1433 rfl (lv_at hl 2 rfl) ?_
  refine lv_aload_n hx hb dL_law_1434 rfl (lv_at hl 3 rfl) ?_
  refine lv_iload_n hx hb dL_law_1435 rfl (lv_at hl 0 rfl) ?_
  refine lv_iconst (v := (nI 1)) hx hb dL_law_1436 (by decide +kernel) ?_
  refine lv_iadd hx hb dL_law_1437 ?_
  refine g_vi (y := (nI 1)) (by decide +kernel) ?_
  refine va_sld hx hb hX hbl hbA V.2.2.2.1 (vp_in_nI (by decide) (by decide)) dL_law_1438 ?_
  refine g_vi (y := xs 1) (congrArg xs (nI_clamp (by decide))) ?_
  refine g_callV (wr := [(o, .inr (8, [.int (nI 0), .ref g1, .ref g2, .ref g3, .ref g4, .int (nI 0), .int (nI 0), .int (nI 0), .int (nI 0), .int (nI 0), .int (nI 0), .int (nI 0), .int (nI 0), .int (nI 0), .int (-1), .ref g15, .int (nI 0), .ref g17, .int (nI 0), .int (nI 0), .ref g20, .int (nI 0), .ref g22, .ref g23, .ref g24, .int (nI 0), .int (nI 0), .int (nI 0), .ref g28, .ref g29, .int (nI 0), .ref g31, .ref g32, .ref g33])), (g2, .inl (T 2, 2, .inl (fun _ => nI 0)))]) (nA := 1) hC V hl.1 (p_X7_restore l D T ox (xs 1) n0 s0 im iz rw t0 u0 h0 y0 i0 j0) w_890 w_891 w_892 w_2 w_893 (by decide +kernel) rfl ⟨(Nat.le_of_ble_eq_true rfl), (Nat.le_of_ble_eq_true rfl)⟩ 0 (ci := 7) rfl rfl [0, 1, 2] [3, 4] rfl rfl rfl rfl (by decide) (Nat.le_of_ble_eq_true rfl) dL_law_1439 ⟨(Nat.le_of_ble_eq_true rfl), (Nat.le_of_ble_eq_true rfl)⟩ rfl (fun r w1 H locs hQ V => ?_)
  obtain ⟨z_1, rfl, rfl, f_2⟩ := hQ
  have V : gW D T A s [(o, .inr (8, [.int (nI 0), .ref g1, .ref g2, .ref g3, .ref g4, .int (nI 0), .int (nI 0), .int (nI 0), .int (nI 0), .int (nI 0), .int (nI 0), .int (nI 0), .int (nI 0), .int (nI 0), .int (-1), .ref g15, .int (nI 0), .ref g17, .int (nI 0), .int (nI 0), .ref g20, .int (nI 0), .ref g22, .ref g23, .ref g24, .int (nI 0), .int (nI 0), .int (nI 0), .ref g28, .ref g29, .int (nI 0), .ref g31, .ref g32, .ref g33])), (g2, .inl (T 2, 2, .inl (fun _ => nI 0)))] H locs := V
  show W p l e _ s m args below meth c H locs _ _ _ (F0 m 1442 ls [.int z_1])
  refine lv_aload_n hx hb dL_law_1442 rfl (lv_at hl 1 rfl) ?_
  refine lv_aload_n hx hb dL_law_1443 rfl (lv_at hl 3 rfl) ?_
  refine lv_iload_n hx hb dL_law_1444 rfl (lv_at hl 0 rfl) ?_
  refine lv_iconst (v := (nI 1)) hx hb dL_law_1445 (by decide +kernel) ?_
  refine lv_iadd hx hb dL_law_1446 ?_
  refine g_vi (y := (nI 1)) (by decide +kernel) ?_
  refine va_sld hx hb hX hbl hbA V.2.2.2.1 (vp_in_nI (by decide) (by decide)) dL_law_1447 ?_
  refine g_vi (y := xs 1) (congrArg xs (nI_clamp (by decide))) ?_
  refine g_callV (wr := []) (nA := 1) hC V hl.1 (pm_restore l D T o (xs 1) g1 g2 g3 g4 g15 g17 g20 g22 g23 g24 g28 g29 g31 g32 g33) w_1395 w_1396 w_1397 w_9 w_1398 (by decide +kernel) rfl ⟨(Nat.le_of_ble_eq_true rfl), (Nat.le_of_ble_eq_true rfl)⟩ 0 (ci := 8) rfl rfl [0, 1] [] rfl rfl rfl rfl (by decide) (Nat.le_of_ble_eq_true rfl) dL_law_1448 ⟨(Nat.le_of_ble_eq_true rfl), (Nat.le_of_ble_eq_true rfl)⟩ rfl (fun r w1 H locs hQ V => ?_)
  obtain ⟨z_3, rfl, rfl, f_4⟩ := hQ
  have V : gW D T A s [] H locs := V
  show W p l e _ s m args below meth c H locs _ _ _ (F0 m 1451 ls [.int z_3, .int z_1])
  refine lv_icmp_eq (tgt := 1479) hx hb dL_law_1451 (by decide) (fun c_5 => ?_) (fun c_5 => ?_)
  · skip
    exact hE _ _ _ V.2.2.2.1 (lv_sub hl [0, 1, 2, 3] rfl)
  · exact (c_5 (f_2.trans f_4.symm)).elim

set_option maxHeartbeats 4000000 in
set_option maxRecDepth 100000 in
theorem lk_41 {p : Program} {e : Env} {s : State} {m : MethodId} {args : Array Value} {below : List Frame} {meth : Method} {c : Code} {Q : State → Prop} (l : Launch) {b : Nat} {xs : Nat → Int32} {D : va_G} {T : Nat → ClassId} {A : Nat → Prop} (ox n0 n1 n2 n3 n4 n5 n6 n7 n8 n9 n10 s0 s1 s2 s3 s4 s5 s6 s7 s8 s9 s10 im iz rw t0 t1 u0 h0 h1 h2 h3 y0 y1 y2 i0 i1 i2 i3 i4 i5 i6 i7 i8 i9 i10 j0 j1 j2 j3 j4 j5 j6 j7 j8 j9 j10 ra0 ra1 rb0 rb1 rc0 rc1 rd0 rd1 o g1 g2 g3 g4 g15 g17 g20 g22 g23 g24 g28 g29 g31 g32 g33 : Nat) (hC : cX p s m args meth c RL cL_law 4 (some .boolean)) (hX : va_X b 6 xs s s.heap) (hbl : b < s.heap.size) (hbA : ¬ A b) (hE : ∀ (H : Heap) (locs : List Loc) (ls : Array Slot), va_S A s.heap H locs → lv_has ls 4 [(3, .int (nI 0)), (2, .ref o), (1, .ref ox), (0, .ref b)] → W p l e room_1 s m args below meth c H locs 82 14431 Q (F0 m 1479 ls [])) {H : Heap} {locs : List Loc} {ls : Array Slot} (V : gW D T A s (lwW T ox n0 n1 n2 n3 n4 n5 n6 n7 n8 n9 n10 s0 s1 s2 s3 s4 s5 s6 s7 s8 s9 s10 im iz rw t0 t1 u0 h0 h1 h2 h3 y0 y1 y2 i0 i1 i2 i3 i4 i5 i6 i7 i8 i9 i10 j0 j1 j2 j3 j4 j5 j6 j7 j8 j9 j10 ra0 ra1 rb0 rb1 rc0 rc1 rd0 rd1 o g1 g2 g3 g4 g15 g17 g20 g22 g23 g24 g28 g29 g31 g32 g33) H locs) (hl : lv_has ls 4 [(3, .int (nI 0)), (2, .ref o), (1, .ref ox), (0, .ref b)]) : W p l e room_1 s m args below meth c H locs 82 14431 Q (F0 m 1456 ls []) := by
  obtain ⟨hx, hb, hr, hml, hown, hts, hlocks⟩ := id hC
  have V := V.sub (ws' := [(ox, .inr (7, [.ref n0, .ref s0, .ref im, .ref iz, .ref rw, .ref t0, .ref u0, .ref h0, .ref y0, .null])), (n0, .inr (5, [.int (nI 0), .int (nI 0), .int (nI 0), .int (nI 20), .int (nI 0), .ref n1, .ref n2, .ref n3, .ref n4, .ref n5, .ref n6, .ref n7, .ref n8, .ref n9, .ref n10])), (t0, .inr (2, [.int (nI 0), .int (nI 0), .int (-1), .ref t1, .int (nI 0), .int (nI 0), .int (nI 0), .int (nI 0)])), (o, .inr (8, [.int (nI 0), .ref g1, .ref g2, .ref g3, .ref g4, .int (nI 0), .int (nI 0), .int (nI 0), .int (nI 0), .int (nI 0), .int (nI 0), .int (nI 0), .int (nI 0), .int (nI 0), .int (-1), .ref g15, .int (nI 0), .ref g17, .int (nI 0), .int (nI 0), .ref g20, .int (nI 0), .ref g22, .ref g23, .ref g24, .int (nI 0), .int (nI 0), .int (nI 0), .ref g28, .ref g29, .int (nI 0), .ref g31, .ref g32, .ref g33])), (g1, .inl (T 0, 282, .inl (upd (fun _ => nI 0) 2 (nI 20))))]) [0, 1, 26, 66, 67] rfl rfl
  refine lv_aload_n hx hb dL_law_1456 rfl (lv_at hl 2 rfl) ?_
  refine lv_aload_n hx hb dL_law_1457 rfl (lv_at hl 3 rfl) ?_
  refine lv_iload_n hx hb dL_law_1458 rfl (lv_at hl 0 rfl) ?_
  refine lv_iconst (v := (nI 1)) hx hb dL_law_1459 (by decide +kernel) ?_
  refine lv_iadd hx hb dL_law_1460 ?_
  refine g_vi (y := (nI 1)) (by decide +kernel) ?_
  refine va_sld hx hb hX hbl hbA V.2.2.2.1 (vp_in_nI (by decide) (by decide)) dL_law_1461 ?_
  refine g_vi (y := xs 1) (congrArg xs (nI_clamp (by decide))) ?_
  refine g_callV (wr := [(o, .inr (8, [.int (nI 0), .ref g1, .ref g2, .ref g3, .ref g4, .int (nI 0), .int (nI 0), .int (nI 0), .int (nI 0), .int (nI 0), .int (nI 0), .int (nI 0), .int (nI 0), .int (nI 0), .int (-1), .ref g15, .int (nI 0), .ref g17, .int (nI 0), .int (nI 0), .ref g20, .int (nI 0), .ref g22, .ref g23, .ref g24, .int (nI 0), .int (nI 0), .int (nI 0), .ref g28, .ref g29, .int (nI 0), .ref g31, .ref g32, .ref g33])), (g1, .inl (T 0, 282, .inl (upd (fun _ => nI 0) 2 (nI 20))))]) (nA := 1) hC V hl.1 (p_X7_count l D T ox (xs 1) n0 s0 im iz rw t0 u0 h0 y0 n1 n2 n3 n4 n5 n6 n7 n8 n9 n10 t1) w_894 w_895 w_896 w_2 w_897 (by decide +kernel) rfl ⟨(Nat.le_of_ble_eq_true rfl), (Nat.le_of_ble_eq_true rfl)⟩ 0 (ci := 7) rfl rfl [0, 1, 2] [3, 4] rfl rfl rfl rfl (by decide) (Nat.le_of_ble_eq_true rfl) dL_law_1462 ⟨(Nat.le_of_ble_eq_true rfl), (Nat.le_of_ble_eq_true rfl)⟩ rfl (fun r w1 H locs hQ V => ?_)
  obtain ⟨z_1, rfl, rfl, f_2⟩ := hQ
  have V : gW D T A s [(o, .inr (8, [.int (nI 0), .ref g1, .ref g2, .ref g3, .ref g4, .int (nI 0), .int (nI 0), .int (nI 0), .int (nI 0), .int (nI 0), .int (nI 0), .int (nI 0), .int (nI 0), .int (nI 0), .int (-1), .ref g15, .int (nI 0), .ref g17, .int (nI 0), .int (nI 0), .ref g20, .int (nI 0), .ref g22, .ref g23, .ref g24, .int (nI 0), .int (nI 0), .int (nI 0), .ref g28, .ref g29, .int (nI 0), .ref g31, .ref g32, .ref g33])), (g1, .inl (T 0, 282, .inl (upd (fun _ => nI 0) 2 (nI 20))))] H locs := V
  show W p l e _ s m args below meth c H locs _ _ _ (F0 m 1465 ls [.int z_1])
  refine lv_aload_n hx hb dL_law_1465 rfl (lv_at hl 1 rfl) ?_
  refine lv_aload_n hx hb dL_law_1466 rfl (lv_at hl 3 rfl) ?_
  refine lv_iload_n hx hb dL_law_1467 rfl (lv_at hl 0 rfl) ?_
  refine lv_iconst (v := (nI 1)) hx hb dL_law_1468 (by decide +kernel) ?_
  refine lv_iadd hx hb dL_law_1469 ?_
  refine g_vi (y := (nI 1)) (by decide +kernel) ?_
  refine va_sld hx hb hX hbl hbA V.2.2.2.1 (vp_in_nI (by decide) (by decide)) dL_law_1470 ?_
  refine g_vi (y := xs 1) (congrArg xs (nI_clamp (by decide))) ?_
  refine g_callV (wr := []) (nA := 1) hC V hl.1 (pm_count l D T o (xs 1) g1 g2 g3 g4 g15 g17 g20 g22 g23 g24 g28 g29 g31 g32 g33) w_1399 w_1400 w_1401 w_9 w_1402 (by decide +kernel) rfl ⟨(Nat.le_of_ble_eq_true rfl), (Nat.le_of_ble_eq_true rfl)⟩ 0 (ci := 8) rfl rfl [0, 1] [] rfl rfl rfl rfl (by decide) (Nat.le_of_ble_eq_true rfl) dL_law_1471 ⟨(Nat.le_of_ble_eq_true rfl), (Nat.le_of_ble_eq_true rfl)⟩ rfl (fun r w1 H locs hQ V => ?_)
  obtain ⟨z_3, rfl, rfl, f_4⟩ := hQ
  have V : gW D T A s [] H locs := V
  show W p l e _ s m args below meth c H locs _ _ _ (F0 m 1474 ls [.int z_3, .int z_1])
  refine lv_icmp_eq (tgt := 1479) hx hb dL_law_1474 (by decide) (fun c_5 => ?_) (fun c_5 => ?_)
  · skip
    exact hE _ _ _ V.2.2.2.1 (lv_sub hl [0, 1, 2, 3] rfl)
  · exact (c_5 (f_2.trans f_4.symm)).elim
