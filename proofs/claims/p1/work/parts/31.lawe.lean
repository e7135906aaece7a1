set_option maxHeartbeats 4000000 in
set_option maxRecDepth 100000 in
theorem lk_28 {p : Program} {e : Env} {s : State} {m : MethodId} {args : Array Value} {below : List Frame} {meth : Method} {c : Code} {Q : State → Prop} (l : Launch) {b : Nat} {xs : Nat → Int32} {D : va_G} {T : Nat → ClassId} {A : Nat → Prop} (ox n0 n1 n2 n3 n4 n5 n6 n7 n8 n9 n10 s0 s1 s2 s3 s4 s5 s6 s7 s8 s9 s10 im iz rw t0 t1 u0 h0 h1 h2 h3 y0 y1 y2 i0 i1 i2 i3 i4 i5 i6 i7 i8 i9 i10 j0 j1 j2 j3 j4 j5 j6 j7 j8 j9 j10 ra0 ra1 rb0 rb1 rc0 rc1 rd0 rd1 o g1 g2 g3 g4 g15 g17 g20 g22 g23 g24 g28 g29 g31 g32 g33 : Nat) (hC : cX p s m args meth c RL cL_law 4 (some .boolean)) (hX : va_X b 6 xs s s.heap) (hbl : b < s.heap.size) (hbA : ¬ A b) (hE : ∀ (H : Heap) (locs : List Loc) (ls : Array Slot), va_S A s.heap H locs → lv_has ls 4 [(3, .int (nI 0)), (2, .ref o), (1, .ref ox), (0, .ref b)] → W p l e room_1 s m args below meth c H locs 82 14431 Q (F0 m 1479 ls [])) {H : Heap} {locs : List Loc} {ls : Array Slot} (V : gW D T A s (lwW T ox n0 n1 n2 n3 n4 n5 n6 n7 n8 n9 n10 s0 s1 s2 s3 s4 s5 s6 s7 s8 s9 s10 im iz rw t0 t1 u0 h0 h1 h2 h3 y0 y1 y2 i0 i1 i2 i3 i4 i5 i6 i7 i8 i9 i10 j0 j1 j2 j3 j4 j5 j6 j7 j8 j9 j10 ra0 ra1 rb0 rb1 rc0 rc1 rd0 rd1 o g1 g2 g3 g4 g15 g17 g20 g22 g23 g24 g28 g29 g31 g32 g33) H locs) (hl : lv_has ls 4 [(3, .int (nI 0)), (2, .ref o), (1, .ref ox), (0, .ref b)]) : W p l e room_1 s m args below meth c H locs 82 14431 Q (F0 m 1026 ls []) := by
  obtain ⟨hx, hb, hr, hml, hown, hts, hlocks⟩ := id hC
  have V := V.sub (ws' := [(ox, .inr (7, [.ref n0, .ref s0, .ref im, .ref iz, .ref rw, .ref t0, .ref u0, .ref h0, .ref y0, .null])), (n0, .inr (5, [.int (nI 0), .int (nI 0), .int (nI 0), .int (nI 20), .int (nI 0), .ref n1, .ref n2, .ref n3, .ref n4, .ref n5, .ref n6, .ref n7, .ref n8, .ref n9, .ref n10])), (o, .inr (8, [.int (nI 0), .ref g1, .ref g2, .ref g3, .ref g4, .int (nI 0), .int (nI 0), .int (nI 0), .int (nI 0), .int (nI 0), .int (nI 0), .int (nI 0), .int (nI 0), .int (nI 0), .int (-1), .ref g15, .int (nI 0), .ref g17, .int (nI 0), .int (nI 0), .ref g20, .int (nI 0), .ref g22, .ref g23, .ref g24, .int (nI 0), .int (nI 0), .int (nI 0), .ref g28, .ref g29, .int (nI 0), .ref g31, .ref g32, .ref g33])), (g1, .inl (T 0, 282, .inl (upd (fun _ => nI 0) 2 (nI 20))))]) [0, 1, 66, 67] rfl rfl
  refine lv_aload_n hx hb dL_law_1026 rfl (lv_at hl 2 rfl) ?_
  refine lv_aload_n hx hb dL_law_1027 rfl (lv_at hl 3 rfl) ?_
  refine lv_iload_n hx hb dL_law_1028 rfl (lv_at hl 0 rfl) ?_
  refine lv_iconst (v := (nI 1)) hx hb dL_law_1029 (by decide +kernel) ?_
  refine lv_iadd hx hb dL_law_1030 ?_
  refine g_vi (y := (nI 1)) (by decide +kernel) ?_
  refine va_sld hx hb hX hbl hbA V.2.2.2.1 (vp_in_nI (by decide) (by decide)) dL_law_1031 ?_
  refine g_vi (y := xs 1) (congrArg xs (nI_clamp (by decide))) ?_
  refine g_callV (wr := [(o, .inr (8, [.int (nI 0), .ref g1, .ref g2, .ref g3, .ref g4, .int (nI 0), .int (nI 0), .int (nI 0), .int (nI 0), .int (nI 0), .int (nI 0), .int (nI 0), .int (nI 0), .int (nI 0), .int (-1), .ref g15, .int (nI 0), .ref g17, .int (nI 0), .int (nI 0), .ref g20, .int (nI 0), .ref g22, .ref g23, .ref g24, .int (nI 0), .int (nI 0), .int (nI 0), .ref g28, .ref g29, .int (nI 0), .ref g31, .ref g32, .ref g33])), (g1, .inl (T 0, 282, .inl (upd (fun _ => nI 0) 2 (nI 20))))]) (nA := 1) hC V hl.1 (p_X7_ropes l D T ox (xs 1) n0 s0 im iz rw t0 u0 h0 y0 n1 n2 n3 n4 n5 n6 n7 n8 n9 n10) w_795 w_796 w_797 w_2 w_798 (by decide +kernel) rfl ⟨(Nat.le_of_ble_eq_true rfl), (Nat.le_of_ble_eq_true rfl)⟩ 0 (ci := 7) rfl rfl [0, 1] [2, 3] rfl rfl rfl rfl (by decide) (Nat.le_of_ble_eq_true rfl) dL_law_1032 ⟨(Nat.le_of_ble_eq_true rfl), (Nat.le_of_ble_eq_true rfl)⟩ rfl (fun r w1 H locs hQ V => ?_)
  obtain ⟨z_1, rfl, rfl, f_2⟩ := hQ
  have V : gW D T A s [(o, .inr (8, [.int (nI 0), .ref g1, .ref g2, .ref g3, .ref g4, .int (nI 0), .int (nI 0), .int (nI 0), .int (nI 0), .int (nI 0), .int (nI 0), .int (nI 0), .int (nI 0), .int (nI 0), .int (-1), .ref g15, .int (nI 0), .ref g17, .int (nI 0), .int (nI 0), .ref g20, .int (nI 0), .ref g22, .ref g23, .ref g24, .int (nI 0), .int (nI 0), .int (nI 0), .ref g28, .ref g29, .int (nI 0), .ref g31, .ref g32, .ref g33])), (g1, .inl (T 0, 282, .inl (upd (fun _ => nI 0) 2 (nI 20))))] H locs := V
  show W p l e _ s m args below meth c H locs _ _ _ (F0 m 1035 ls [.int z_1])
  refine lv_aload_n hx hb dL_law_1035 rfl (lv_at hl 1 rfl) ?_
  refine lv_aload_n hx hb dL_law_1036 rfl (lv_at hl 3 rfl) ?_
  refine lv_iload_n hx hb dL_law_1037 rfl (lv_at hl 0 rfl) ?_
  refine lv_iconst (v := (nI 1)) hx hb dL_law_1038 (by decide +kernel) ?_
  refine lv_iadd hx hb dL_law_1039 ?_
  refine g_vi (y := (nI 1)) (by decide +kernel) ?_
  refine va_sld hx hb hX hbl hbA V.2.2.2.1 (vp_in_nI (by decide) (by decide)) dL_law_1040 ?_
  refine g_vi (y := xs 1) (congrArg xs (nI_clamp (by decide))) ?_
  refine g_callV (wr := []) (nA := 1) hC V hl.1 (pm_ropes l D T o (xs 1) g1 g2 g3 g4 g15 g17 g20 g22 g23 g24 g28 g29 g31 g32 g33) w_1316 w_1317 w_1318 w_9 w_1319 (by decide +kernel) rfl ⟨(Nat.le_of_ble_eq_true rfl), (Nat.le_of_ble_eq_true rfl)⟩ 0 (ci := 8) rfl rfl [0, 1] [] rfl rfl rfl rfl (by decide) (Nat.le_of_ble_eq_true rfl) dL_law_1041 ⟨(Nat.le_of_ble_eq_true rfl), (Nat.le_of_ble_eq_true rfl)⟩ rfl (fun r w1 H locs hQ V => ?_)
  obtain ⟨z_3, rfl, rfl, f_4⟩ := hQ
  have V : gW D T A s [] H locs := V
  show W p l e _ s m args below meth c H locs _ _ _ (F0 m 1044 ls [.int z_3, .int z_1])
  refine lv_icmp_eq (tgt := 1479) hx hb dL_law_1044 (by decide) (fun c_5 => ?_) (fun c_5 => ?_)
  · skip
    exact hE _ _ _ V.2.2.2.1 (lv_sub hl [0, 1, 2, 3] rfl)
  · exact (c_5 (f_2.trans f_4.symm)).elim

set_option maxHeartbeats 4000000 in
set_option maxRecDepth 100000 in
theorem lk_29 {p : Program} {e : Env} {s : State} {m : MethodId} {args : Array Value} {below : List Frame} {meth : Method} {c : Code} {Q : State → Prop} (l : Launch) {b : Nat} {xs : Nat → Int32} {D : va_G} {T : Nat → ClassId} {A : Nat → Prop} (ox n0 n1 n2 n3 n4 n5 n6 n7 n8 n9 n10 s0 s1 s2 s3 s4 s5 s6 s7 s8 s9 s10 im iz rw t0 t1 u0 h0 h1 h2 h3 y0 y1 y2 i0 i1 i2 i3 i4 i5 i6 i7 i8 i9 i10 j0 j1 j2 j3 j4 j5 j6 j7 j8 j9 j10 ra0 ra1 rb0 rb1 rc0 rc1 rd0 rd1 o g1 g2 g3 g4 g15 g17 g20 g22 g23 g24 g28 g29 g31 g32 g33 : Nat) (hC : cX p s m args meth c RL cL_law 4 (some .boolean)) (hX : va_X b 6 xs s s.heap) (hbl : b < s.heap.size) (hbA : ¬ A b) (hE : ∀ (H : Heap) (locs : List Loc) (ls : Array Slot), va_S A s.heap H locs → lv_has ls 4 [(3, .int (nI 0)), (2, .ref o), (1, .ref ox), (0, .ref b)] → W p l e room_1 s m args below meth c H locs 82 14431 Q (F0 m 1479 ls [])) {H : Heap} {locs : List Loc} {ls : Array Slot} (V : gW D T A s (lwW T ox n0 n1 n2 n3 n4 n5 n6 n7 n8 n9 n10 s0 s1 s2 s3 s4 s5 s6 s7 s8 s9 s10 im iz rw t0 t1 u0 h0 h1 h2 h3 y0 y1 y2 i0 i1 i2 i3 i4 i5 i6 i7 i8 i9 i10 j0 j1 j2 j3 j4 j5 j6 j7 j8 j9 j10 ra0 ra1 rb0 rb1 rc0 rc1 rd0 rd1 o g1 g2 g3 g4 g15 g17 g20 g22 g23 g24 g28 g29 g31 g32 g33) H locs) (hl : lv_has ls 4 [(3, .int (nI 0)), (2, .ref o), (1, .ref ox), (0, .ref b)]) : W p l e room_1 s m args below meth c H locs 82 14431 Q (F0 m 1049 ls []) := by
  obtain ⟨hx, hb, hr, hml, hown, hts, hlocks⟩ := id hC
  have V := V.sub (ws' := [(ox, .inr (7, [.ref n0, .ref s0, .ref im, .ref iz, .ref rw, .ref t0, .ref u0, .ref h0, .ref y0, .null])), (n0, .inr (5, [.int (nI 0), .int (nI 0), .int (nI 0), .int (nI 20), .int (nI 0), .ref n1, .ref n2, .ref n3, .ref n4, .ref n5, .ref n6, .ref n7, .ref n8, .ref n9, .ref n10])), (n1, .inl (T 0, 10, .inl (fun _ => nI 0))), (n2, .inl (T 0, 10, .inl (fun _ => nI 0))), (n3, .inl (T 0, 10, .inl (fun _ => nI 0))), (n4, .inl (T 0, 10, .inl (fun _ => nI 0))), (n5, .inl (T 0, 10, .inl (fun _ => nI 0))), (n6, .inl (T 0, 10, .inl (fun _ => nI 0))), (n7, .inl (T 0, 10, .inl (fun _ => nI 0))), (n8, .inl (T 0, 10, .inl (fun _ => nI 0))), (n9, .inl (T 0, 10, .inl (fun _ => nI 0))), (n10, .inl (T 0, 10, .inl (fun _ => nI 0))), (o, .inr (8, [.int (nI 0), .ref g1, .ref g2, .ref g3, .ref g4, .int (nI 0), .int (nI 0), .int (nI 0), .int (nI 0), .int (nI 0), .int (nI 0), .int (nI 0), .int (nI 0), .int (nI 0), .int (-1), .ref g15, .int (nI 0), .ref g17, .int (nI 0), .int (nI 0), .ref g20, .int (nI 0), .ref g22, .ref g23, .ref g24, .int (nI 0), .int (nI 0), .int (nI 0), .ref g28, .ref g29, .int (nI 0), .ref g31, .ref g32, .ref g33])), (g1, .inl (T 0, 282, .inl (upd (fun _ => nI 0) 2 (nI 20))))]) [0, 1, 2, 3, 4, 5, 6, 7, 8, 9, 10, 11, 66, 67] rfl rfl
  refine lv_aload_n hx hb dL_law_1049 rfl (lv_at hl 2 rfl) ?_
  refine lv_aload_n hx hb dL_law_1050 rfl (lv_at hl 3 rfl) ?_
  refine lv_iload_n hx hb dL_law_1051 rfl (lv_at hl 0 rfl) ?_
  refine lv_iconst (v := (nI 1)) hx hb dL_law_1052 (by decide +kernel) ?_
  refine lv_iadd hx hb dL_law_1053 ?_
  refine g_vi (y := (nI 1)) (by decide +kernel) ?_
  refine va_sld hx hb hX hbl hbA V.2.2.2.1 (vp_in_nI (by decide) (by decide)) dL_law_1054 ?_
  refine g_vi (y := xs 1) (congrArg xs (nI_clamp (by decide))) ?_
  refine lv_aload_n hx hb dL_law_1055 rfl (lv_at hl 3 rfl) ?_
  refine lv_iload_n hx hb dL_law_1056 rfl (lv_at hl 0 rfl) ?_
  refine lv_iconst (v := (nI 2)) hx hb dL_law_1057 (by decide +kernel) ?_
  refine lv_iadd hx hb dL_law_1058 ?_
  refine g_vi (y := (nI 2)) (by decide +kernel) ?_
  refine va_sld hx hb hX hbl hbA V.2.2.2.1 (vp_in_nI (by decide) (by decide)) dL_law_1059 ?_
  refine g_vi (y := xs 2) (congrArg xs (nI_clamp (by decide))) ?_
  refine g_callV (wr := [(o, .inr (8, [.int (nI 0), .ref g1, .ref g2, .ref g3, .ref g4, .int (nI 0), .int (nI 0), .int (nI 0), .int (nI 0), .int (nI 0), .int (nI 0), .int (nI 0), .int (nI 0), .int (nI 0), .int (-1), .ref g15, .int (nI 0), .ref g17, .int (nI 0), .int (nI 0), .ref g20, .int (nI 0), .ref g22, .ref g23, .ref g24, .int (nI 0), .int (nI 0), .int (nI 0), .ref g28, .ref g29, .int (nI 0), .ref g31, .ref g32, .ref g33])), (g1, .inl (T 0, 282, .inl (upd (fun _ => nI 0) 2 (nI 20))))]) (nA := 2) hC V hl.1 (p_X7_lazy l D T ox (xs 1) (xs 2) n0 s0 im iz rw t0 u0 h0 y0 n1 n2 n3 n4 n5 n6 n7 n8 n9 n10) w_817 w_818 w_819 w_2 w_820 (by decide +kernel) rfl ⟨(Nat.le_of_ble_eq_true rfl), (Nat.le_of_ble_eq_true rfl)⟩ 0 (ci := 7) rfl rfl [0, 1, 2, 3, 4, 5, 6, 7, 8, 9, 10, 11] [12, 13] rfl rfl rfl rfl (by decide) (Nat.le_of_ble_eq_true rfl) dL_law_1060 ⟨(Nat.le_of_ble_eq_true rfl), (Nat.le_of_ble_eq_true rfl)⟩ rfl (fun r w1 H locs hQ V => ?_)
  obtain ⟨z_1, rfl, rfl, f_2⟩ := hQ
  have V : gW D T A s [(o, .inr (8, [.int (nI 0), .ref g1, .ref g2, .ref g3, .ref g4, .int (nI 0), .int (nI 0), .int (nI 0), .int (nI 0), .int (nI 0), .int (nI 0), .int (nI 0), .int (nI 0), .int (nI 0), .int (-1), .ref g15, .int (nI 0), .ref g17, .int (nI 0), .int (nI 0), .ref g20, .int (nI 0), .ref g22, .ref g23, .ref g24, .int (nI 0), .int (nI 0), .int (nI 0), .ref g28, .ref g29, .int (nI 0), .ref g31, .ref g32, .ref g33])), (g1, .inl (T 0, 282, .inl (upd (fun _ => nI 0) 2 (nI 20))))] H locs := V
  show W p l e _ s m args below meth c H locs _ _ _ (F0 m 1063 ls [.int z_1])
  refine lv_aload_n hx hb dL_law_1063 rfl (lv_at hl 1 rfl) ?_
  refine lv_aload_n hx hb dL_law_1064 rfl (lv_at hl 3 rfl) ?_
  refine lv_iload_n hx hb dL_law_1065 rfl (lv_at hl 0 rfl) ?_
  refine lv_iconst (v := (nI 1)) hx hb dL_law_1066 (by decide +kernel) ?_
  refine lv_iadd hx hb dL_law_1067 ?_
  refine g_vi (y := (nI 1)) (by decide +kernel) ?_
  refine va_sld hx hb hX hbl hbA V.2.2.2.1 (vp_in_nI (by decide) (by decide)) dL_law_1068 ?_
  refine g_vi (y := xs 1) (congrArg xs (nI_clamp (by decide))) ?_
  refine lv_aload_n hx hb dL_law_1069 rfl (lv_at hl 3 rfl) ?_
  refine lv_iload_n hx hb dL_law_1070 rfl (lv_at hl 0 rfl) ?_
  refine lv_iconst (v := (nI 2)) hx hb dL_law_1071 (by decide +kernel) ?_
  refine lv_iadd hx hb dL_law_1072 ?_
  refine g_vi (y := (nI 2)) (by decide +kernel) ?_
  refine va_sld hx hb hX hbl hbA V.2.2.2.1 (vp_in_nI (by decide) (by decide)) dL_law_1073 ?_
  refine g_vi (y := xs 2) (congrArg xs (nI_clamp (by decide))) ?_
  refine g_callV (wr := []) (nA := 2) hC V hl.1 (pm_lazy l D T o (xs 1) (xs 2) g1 g2 g3 g4 g15 g17 g20 g22 g23 g24 g28 g29 g31 g32 g33) w_1332 w_1333 w_1334 w_9 w_1335 (by decide +kernel) rfl ⟨(Nat.le_of_ble_eq_true rfl), (Nat.le_of_ble_eq_true rfl)⟩ 0 (ci := 8) rfl rfl [0, 1] [] rfl rfl rfl rfl (by decide) (Nat.le_of_ble_eq_true rfl) dL_law_1074 ⟨(Nat.le_of_ble_eq_true rfl), (Nat.le_of_ble_eq_true rfl)⟩ rfl (fun r w1 H locs hQ V => ?_)
  obtain ⟨z_3, rfl, rfl, f_4⟩ := hQ
  have V : gW D T A s [] H locs := V
  show W p l e _ s m args below meth c H locs _ _ _ (F0 m 1077 ls [.int z_3, .int z_1])
  refine lv_icmp_eq (tgt := 1479) hx hb dL_law_1077 (by decide) (fun c_5 => ?_) (fun c_5 => ?_)
  · skip
    exact hE _ _ _ V.2.2.2.1 (lv_sub hl [0, 1, 2, 3] rfl)
  · exact (c_5 (f_2.trans f_4.symm)).elim

set_option maxHeartbeats 4000000 in
set_option maxRecDepth 100000 in
theorem lk_30 {p : Program} {e : Env} {s : State} {m : MethodId} {args : Array Value} {below : List Frame} {meth : Method} {c : Code} {Q : State → Prop} (l : Launch) {b : Nat} {xs : Nat → Int32} {D : va_G} {T : Nat → ClassId} {A : Nat → Prop} (ox n0 n1 n2 n3 n4 n5 n6 n7 n8 n9 n10 s0 s1 s2 s3 s4 s5 s6 s7 s8 s9 s10 im iz rw t0 t1 u0 h0 h1 h2 h3 y0 y1 y2 i0 i1 i2 i3 i4 i5 i6 i7 i8 i9 i10 j0 j1 j2 j3 j4 j5 j6 j7 j8 j9 j10 ra0 ra1 rb0 rb1 rc0 rc1 rd0 rd1 o g1 g2 g3 g4 g15 g17 g20 g22 g23 g24 g28 g29 g31 g32 g33 : Nat) (hC : cX p s m args meth c RL cL_law 4 (some .boolean)) (hX : va_X b 6 xs s s.heap) (hbl : b < s.heap.size) (hbA : ¬ A b) (hE : ∀ (H : Heap) (locs : List Loc) (ls : Array Slot), va_S A s.heap H locs → lv_has ls 4 [(3, .int (nI 0)), (2, .ref o), (1, .ref ox), (0, .ref b)] → W p l e room_1 s m args below meth c H locs 82 14431 Q (F0 m 1479 ls [])) {H : Heap} {locs : List Loc} {ls : Array Slot} (V : gW D T A s (lwW T ox n0 n1 n2 n3 n4 n5 n6 n7 n8 n9 n10 s0 s1 s2 s3 s4 s5 s6 s7 s8 s9 s10 im iz rw t0 t1 u0 h0 h1 h2 h3 y0 y1 y2 i0 i1 i2 i3 i4 i5 i6 i7 i8 i9 i10 j0 j1 j2 j3 j4 j5 j6 j7 j8 j9 j10 ra0 ra1 rb0 rb1 rc0 rc1 rd0 rd1 o g1 g2 g3 g4 g15 g17 g20 g22 g23 g24 g28 g29 g31 g32 g33) H locs) (hl : lv_has ls 4 [(3, .int (nI 0)), (2, .ref o), (1, .ref ox), (0, .ref b)]) : W p l e room_1 s m args below meth c H locs 82 14431 Q (F0 m 1082 ls []) := by
  obtain ⟨hx, hb, hr, hml, hown, hts, hlocks⟩ := id hC
  have V := V.sub (ws' := [(ox, .inr (7, [.ref n0, .ref s0, .ref im, .ref iz, .ref rw, .ref t0, .ref u0, .ref h0, .ref y0, .null])), (n0, .inr (5, [.int (nI 0), .int (nI 0), .int (nI 0), .int (nI 20), .int (nI 0), .ref n1, .ref n2, .ref n3, .ref n4, .ref n5, .ref n6, .ref n7, .ref n8, .ref n9, .ref n10])), (n1, .inl (T 0, 10, .inl (fun _ => nI 0))), (n2, .inl (T 0, 10, .inl (fun _ => nI 0))), (n3, .inl (T 0, 10, .inl (fun _ => nI 0))), (n4, .inl (T 0, 10, .inl (fun _ => nI 0))), (n5, .inl (T 0, 10, .inl (fun _ => nI 0))), (n6, .inl (T 0, 10, .inl (fun _ => nI 0))), (n7, .inl (T 0, 10, .inl (fun _ => nI 0))), (n8, .inl (T 0, 10, .inl (fun _ => nI 0))), (n9, .inl (T 0, 10, .inl (fun _ => nI 0))), (n10, .inl (T 0, 10, .inl (fun _ => nI 0))), (o, .inr (8, [.int (nI 0), .ref g1, .ref g2, .ref g3, .ref g4, .int (nI 0), .int (nI 0), .int (nI 0), .int (nI 0), .int (nI 0), .int (nI 0), .int (nI 0), .int (nI 0), .int (nI 0), .int (-1), .ref g15, .int (nI 0), .ref g17, .int (nI 0), .int (nI 0), .ref g20, .int (nI 0), .ref g22, .ref g23, .ref g24, .int (nI 0), .int (nI 0), .int (nI 0), .ref g28, .ref g29, .int (nI 0), .ref g31, .ref g32, .ref g33])), (g1, .inl (T 0, 282, .inl (upd (fun _ => nI 0) 2 (nI 20))))]) [0, 1, 2, 3, 4, 5, 6, 7, 8, 9, 10, 11, 66, 67] rfl rfl
  refine lv_aload_n hx hb dL_law_1082 rfl (lv_at hl 2 rfl) ?_
  refine lv_aload_n hx hb dL_law_1083 rfl (lv_at hl 3 rfl) ?_
  refine lv_iload_n hx hb dL_law_1084 rfl (lv_at hl 0 rfl) ?_
  refine lv_iconst (v := (nI 1)) hx hb dL_law_1085 (by decide +kernel) ?_
  refine lv_iadd hx hb dL_law_1086 ?_
  refine g_vi (y := (nI 1)) (by decide +kernel) ?_
  refine va_sld hx hb hX hbl hbA V.2.2.2.1 (vp_in_nI (by decide) (by decide)) dL_law_1087 ?_
  refine g_vi (y := xs 1) (congrArg xs (nI_clamp (by decide))) ?_
  refine lv_aload_n hx hb dL_law_1088 rfl (lv_at hl 3 rfl) ?_
  refine lv_iload_n hx hb dL_law_1089 rfl (lv_at hl 0 rfl) ?_
  refine lv_iconst (v := (nI 2)) hx hb dL_law_1090 (by decide +kernel) ?_
  refine lv_iadd hx hb dL_law_1091 ?_
  refine g_vi (y := (nI 2)) (by decide +kernel) ?_
  refine va_sld hx hb hX hbl hbA V.2.2.2.1 (vp_in_nI (by decide) (by decide)) dL_law_1092 ?_
  refine g_vi (y := xs 2) (congrArg xs (nI_clamp (by decide))) ?_
  refine lv_aload_n hx hb dL_law_1093 rfl (lv_at hl 3 rfl) ?_
  refine lv_iload_n hx hb dL_law_1094 rfl (lv_at hl 0 rfl) ?_
  refine lv_iconst (v := (nI 3)) hx hb dL_law_1095 (by decide +kernel) ?_
  refine lv_iadd hx hb dL_law_1096 ?_
  refine g_vi (y := (nI 3)) (by decide +kernel) ?_
  refine va_sld hx hb hX hbl hbA V.2.2.2.1 (vp_in_nI (by decide) (by decide)) dL_law_1097 ?_
  refine g_vi (y := xs 3) (congrArg xs (nI_clamp (by decide))) ?_
  refine g_callV (wr := [(o, .inr (8, [.int (nI 0), .ref g1, .ref g2, .ref g3, .ref g4, .int (nI 0), .int (nI 0), .int (nI 0), .int (nI 0), .int (nI 0), .int (nI 0), .int (nI 0), .int (nI 0), .int (nI 0), .int (-1), .ref g15, .int (nI 0), .ref g17, .int (nI 0), .int (nI 0), .ref g20, .int (nI 0), .ref g22, .ref g23, .ref g24, .int (nI 0), .int (nI 0), .int (nI 0), .ref g28, .ref g29, .int (nI 0), .ref g31, .ref g32, .ref g33])), (g1, .inl (T 0, 282, .inl (upd (fun _ => nI 0) 2 (nI 20))))]) (nA := 3) hC V hl.1 (p_X7_stranger l D T ox (xs 1) (xs 2) (xs 3) n0 s0 im iz rw t0 u0 h0 y0 n1 n2 n3 n4 n5 n6 n7 n8 n9 n10) w_821 w_822 w_823 w_2 w_824 (by decide +kernel) rfl ⟨(Nat.le_of_ble_eq_true rfl), (Nat.le_of_ble_eq_true rfl)⟩ 0 (ci := 7) rfl rfl [0, 1, 2, 3, 4, 5, 6, 7, 8, 9, 10, 11] [12, 13] rfl rfl rfl rfl (by decide) (Nat.le_of_ble_eq_true rfl) dL_law_1098 ⟨(Nat.le_of_ble_eq_true rfl), (Nat.le_of_ble_eq_true rfl)⟩ rfl (fun r w1 H locs hQ V => ?_)
  obtain ⟨z_1, rfl, rfl, f_2⟩ := hQ
  have V : gW D T A s [(o, .inr (8, [.int (nI 0), .ref g1, .ref g2, .ref g3, .ref g4, .int (nI 0), .int (nI 0), .int (nI 0), .int (nI 0), .int (nI 0), .int (nI 0), .int (nI 0), .int (nI 0), .int (nI 0), .int (-1), .ref g15, .int (nI 0), .ref g17, .int (nI 0), .int (nI 0), .ref g20, .int (nI 0), .ref g22, .ref g23, .ref g24, .int (nI 0), .int (nI 0), .int (nI 0), .ref g28, .ref g29, .int (nI 0), .ref g31, .ref g32, .ref g33])), (g1, .inl (T 0, 282, .inl (upd (fun _ => nI 0) 2 (nI 20))))] H locs := V
  show W p l e _ s m args below meth c H locs _ _ _ (F0 m 1101 ls [.int z_1])
  refine lv_aload_n hx hb dL_law_1101 rfl (lv_at hl 1 rfl) ?_
  refine lv_aload_n hx hb dL_law_1102 rfl (lv_at hl 3 rfl) ?_
  refine lv_iload_n hx hb dL_law_1103 rfl (lv_at hl 0 rfl) ?_
  refine lv_iconst (v := (nI 1)) hx hb dL_law_1104 (by decide +kernel) ?_
  refine lv_iadd hx hb dL_law_1105 ?_
  refine g_vi (y := (nI 1)) (by decide +kernel) ?_
  refine va_sld hx hb hX hbl hbA V.2.2.2.1 (vp_in_nI (by decide) (by decide)) dL_law_1106 ?_
  refine g_vi (y := xs 1) (congrArg xs (nI_clamp (by decide))) ?_
  refine lv_aload_n hx hb dL_law_1107 rfl (lv_at hl 3 rfl) ?_
  refine lv_iload_n hx hb dL_law_1108 rfl (lv_at hl 0 rfl) ?_
  refine lv_iconst (v := (nI 2)) hx hb dL_law_1109 (by decide +kernel) ?_
  refine lv_iadd hx hb dL_law_1110 ?_
  refine g_vi (y := (nI 2)) (by decide +kernel) ?_
  refine va_sld hx hb hX hbl hbA V.2.2.2.1 (vp_in_nI (by decide) (by decide)) dL_law_1111 ?_
  refine g_vi (y := xs 2) (congrArg xs (nI_clamp (by decide))) ?_
  refine lv_aload_n hx hb dL_law_1112 rfl (lv_at hl 3 rfl) ?_
  refine lv_iload_n hx hb dL_law_1113 rfl (lv_at hl 0 rfl) ?_
  refine lv_iconst (v := (nI 3)) hx hb dL_law_1114 (by decide +kernel) ?_
  refine lv_iadd hx hb dL_law_1115 ?_
  refine g_vi (y := (nI 3)) (by decide +kernel) ?_
  refine va_sld hx hb hX hbl hbA V.2.2.2.1 (vp_in_nI (by decide) (by decide)) dL_law_1116 ?_
  refine g_vi (y := xs 3) (congrArg xs (nI_clamp (by decide))) ?_
  refine g_callV (wr := []) (nA := 3) hC V hl.1 (pm_stranger l D T o (xs 1) (xs 2) (xs 3) g1 g2 g3 g4 g15 g17 g20 g22 g23 g24 g28 g29 g31 g32 g33) w_1336 w_1337 w_1338 w_9 w_1339 (by decide +kernel) rfl ⟨(Nat.le_of_ble_eq_true rfl), (Nat.le_of_ble_eq_true rfl)⟩ 0 (ci := 8) rfl rfl [0, 1] [] rfl rfl rfl rfl (by decide) (Nat.le_of_ble_eq_true rfl) dL_law_1117 ⟨(Nat.le_of_ble_eq_true rfl), (Nat.le_of_ble_eq_true rfl)⟩ rfl (fun r w1 H locs hQ V => ?_)
  obtain ⟨z_3, rfl, rfl, f_4⟩ := hQ
  have V : gW D T A s [] H locs := V
  show W p l e _ s m args below meth c H locs _ _ _ (F0 m 1120 ls [.int z_3, .int z_1])
  refine lv_icmp_eq (tgt := 1479) hx hb dL_law_1120 (by decide) (fun c_5 => ?_) (fun c_5 => ?_)
  · skip
    exact hE _ _ _ V.2.2.2.1 (lv_sub hl [0, 1, 2, 3] rfl)
  · exact (c_5 (f_2.trans f_4.symm)).elim

set_option maxHeartbeats 4000000 in
set_option maxRecDepth 100000 in
theorem lk_31 {p : Program} {e : Env} {s : State} {m : MethodId} {args : Array Value} {below : List Frame} {meth : Method} {c : Code} {Q : State → Prop} (l : Launch) {b : Nat} {xs : Nat → Int32} {D : va_G} {T : Nat → ClassId} {A : Nat → Prop} (ox n0 n1 n2 n3 n4 n5 n6 n7 n8 n9 n10 s0 s1 s2 s3 s4 s5 s6 s7 s8 s9 s10 im iz rw t0 t1 u0 h0 h1 h2 h3 y0 y1 y2 i0 i1 i2 i3 i4 i5 i6 i7 i8 i9 i10 j0 j1 j2 j3 j4 j5 j6 j7 j8 j9 j10 ra0 ra1 rb0 rb1 rc0 rc1 rd0 rd1 o g1 g2 g3 g4 g15 g17 g20 g22 g23 g24 g28 g29 g31 g32 g33 : Nat) (hC : cX p s m args meth c RL cL_law 4 (some .boolean)) (hX : va_X b 6 xs s s.heap) (hbl : b < s.heap.size) (hbA : ¬ A b) (hE : ∀ (H : Heap) (locs : List Loc) (ls : Array Slot), va_S A s.heap H locs → lv_has ls 4 [(3, .int (nI 0)), (2, .ref o), (1, .ref ox), (0, .ref b)] → W p l e room_1 s m args below meth c H locs 82 14431 Q (F0 m 1479 ls [])) {H : Heap} {locs : List Loc} {ls : Array Slot} (V : gW D T A s (lwW T ox n0 n1 n2 n3 n4 n5 n6 n7 n8 n9 n10 s0 s1 s2 s3 s4 s5 s6 s7 s8 s9 s10 im iz rw t0 t1 u0 h0 h1 h2 h3 y0 y1 y2 i0 i1 i2 i3 i4 i5 i6 i7 i8 i9 i10 j0 j1 j2 j3 j4 j5 j6 j7 j8 j9 j10 ra0 ra1 rb0 rb1 rc0 rc1 rd0 rd1 o g1 g2 g3 g4 g15 g17 g20 g22 g23 g24 g28 g29 g31 g32 g33) H locs) (hl : lv_has ls 4 [(3, .int (nI 0)), (2, .ref o), (1, .ref ox), (0, .ref b)]) : W p l e room_1 s m args below meth c H locs 82 14431 Q (F0 m 1125 ls []) := by
  obtain ⟨hx, hb, hr, hml, hown, hts, hlocks⟩ := id hC
  have V := V.sub (ws' := [(ox, .inr (7, [.ref n0, .ref s0, .ref im, .ref iz, .ref rw, .ref t0, .ref u0, .ref h0, .ref y0, .null])), (n0, .inr (5, [.int (nI 0), .int (nI 0), .int (nI 0), .int (nI 20), .int (nI 0), .ref n1, .ref n2, .ref n3, .ref n4, .ref n5, .ref n6, .ref n7, .ref n8, .ref n9, .ref n10])), (o, .inr (8, [.int (nI 0), .ref g1, .ref g2, .ref g3, .ref g4, .int (nI 0), .int (nI 0), .int (nI 0), .int (nI 0), .int (nI 0), .int (nI 0), .int (nI 0), .int (nI 0), .int (nI 0), .int (-1), .ref g15, .int (nI 0), .ref g17, .int (nI 0), .int (nI 0), .ref g20, .int (nI 0), .ref g22, .ref g23, .ref g24, .int (nI 0), .int (nI 0), .int (nI 0), .ref g28, .ref g29, .int (nI 0), .ref g31, .ref g32, .ref g33])), (g1, .inl (T 0, 282, .inl (upd (fun _ => nI 0) 2 (nI 20))))]) [0, 1, 66, 67] rfl rfl
  refine lv_aload_n hx hb dL_law_1125 rfl (lv_at hl 2 rfl) ?_
  refine lv_aload_n hx hb dL_law_1126 rfl (lv_at hl 3 rfl) ?_
  refine lv_iload_n hx hb dL_law_1127 rfl (lv_at hl 0 rfl) ?_
  refine lv_iconst (v := (nI 1)) hx hb dL_law_1128 (by decide +kernel) ?_
  refine lv_iadd hx hb dL_law_1129 ?_
  refine g_vi (y := (nI 1)) (by decide +kernel) ?_
  refine va_sld hx hb hX hbl hbA V.2.2.2.1 (vp_in_nI (by decide) (by decide)) dL_law_1130 ?_
  refine g_vi (y := xs 1) (congrArg xs (nI_clamp (by decide))) ?_
  refine lv_aload_n hx hb dL_law_1131 rfl (lv_at hl 3 rfl) ?_
  refine lv_iload_n hx hb dL_law_1132 rfl (lv_at hl 0 rfl) ?_
  refine lv_iconst (v := (nI 2)) hx hb dL_law_1133 (by decide +kernel) ?_
  refine lv_iadd hx hb dL_law_1134 ?_
  refine g_vi (y := (nI 2)) (by decide +kernel) ?_
  refine va_sld hx hb hX hbl hbA V.2.2.2.1 (vp_in_nI (by decide) (by decide)) dL_law_1135 ?_
  refine g_vi (y := xs 2) (congrArg xs (nI_clamp (by decide))) ?_
  refine g_callV (wr := [(o, .inr (8, [.int (nI 0), .ref g1, .ref g2, .ref g3, .ref g4, .int (nI 0), .int (nI 0), .int (nI 0), .int (nI 0), .int (nI 0), .int (nI 0), .int (nI 0), .int (nI 0), .int (nI 0), .int (-1), .ref g15, .int (nI 0), .ref g17, .int (nI 0), .int (nI 0), .ref g20, .int (nI 0), .ref g22, .ref g23, .ref g24, .int (nI 0), .int (nI 0), .int (nI 0), .ref g28, .ref g29, .int (nI 0), .ref g31, .ref g32, .ref g33])), (g1, .inl (T 0, 282, .inl (upd (fun _ => nI 0) 2 (nI 20))))]) (nA := 2) hC V hl.1 (p_X7_bestPlace l D T ox (xs 1) (xs 2) n0 s0 im iz rw t0 u0 h0 y0 n1 n2 n3 n4 n5 n6 n7 n8 n9 n10) w_829 w_830 w_831 w_2 w_832 (by decide +kernel) rfl ⟨(Nat.le_of_ble_eq_true rfl), (Nat.le_of_ble_eq_true rfl)⟩ 0 (ci := 7) rfl rfl [0, 1] [2, 3] rfl rfl rfl rfl (by decide) (Nat.le_of_ble_eq_true rfl) dL_law_1136 ⟨(Nat.le_of_ble_eq_true rfl), (Nat.le_of_ble_eq_true rfl)⟩ rfl (fun r w1 H locs hQ V => ?_)
  obtain ⟨z_1, rfl, rfl, f_2⟩ := hQ
  have V : gW D T A s [(o, .inr (8, [.int (nI 0), .ref g1, .ref g2, .ref g3, .ref g4, .int (nI 0), .int (nI 0), .int (nI 0), .int (nI 0), .int (nI 0), .int (nI 0), .int (nI 0), .int (nI 0), .int (nI 0), .int (-1), .ref g15, .int (nI 0), .ref g17, .int (nI 0), .int (nI 0), .ref g20, .int (nI 0), .ref g22, .ref g23, .ref g24, .int (nI 0), .int (nI 0), .int (nI 0), .ref g28, .ref g29, .int (nI 0), .ref g31, .ref g32, .ref g33])), (g1, .inl (T 0, 282, .inl (upd (fun _ => nI 0) 2 (nI 20))))] H locs := V
  show W p l e _ s m args below meth c H locs _ _ _ (F0 m 1139 ls [.int z_1])
  refine lv_aload_n hx hb dL_law_1139 rfl (lv_at hl 1 rfl) ?_
  refine lv_aload_n hx hb dL_law_1140 rfl (lv_at hl 3 rfl) ?_
  refine lv_iload_n hx hb dL_law_1141 rfl (lv_at hl 0 rfl) ?_
  refine lv_iconst (v := (nI 1)) hx hb dL_law_1142 (by decide +kernel) ?_
  refine lv_iadd hx hb dL_law_1143 ?_
  refine g_vi (y := (nI 1)) (by decide +kernel) ?_
  refine va_sld hx hb hX hbl hbA V.2.2.2.1 (vp_in_nI (by decide) (by decide)) dL_law_1144 ?_
  refine g_vi (y := xs 1) (congrArg xs (nI_clamp (by decide))) ?_
  refine lv_aload_n hx hb dL_law_1145 rfl (lv_at hl 3 rfl) ?_
  refine lv_iload_n hx hb dL_law_1146 rfl (lv_at hl 0 rfl) ?_
  refine lv_iconst (v := (nI 2)) hx hb dL_law_1147 (by decide +kernel) ?_
  refine lv_iadd hx hb dL_law_1148 ?_
  refine g_vi (y := (nI 2)) (by decide +kernel) ?_
  refine va_sld hx hb hX hbl hbA V.2.2.2.1 (vp_in_nI (by decide) (by decide)) dL_law_1149 ?_
  refine g_vi (y := xs 2) (congrArg xs (nI_clamp (by decide))) ?_
  refine g_callV (wr := []) (nA := 2) hC V hl.1 (pm_bestPlace l D T o (xs 1) (xs 2) g1 g2 g3 g4 g15 g17 g20 g22 g23 g24 g28 g29 g31 g32 g33) w_1348 w_1349 w_1350 w_9 w_1351 (by decide +kernel) rfl ⟨(Nat.le_of_ble_eq_true rfl), (Nat.le_of_ble_eq_true rfl)⟩ 0 (ci := 8) rfl rfl [0, 1] [] rfl rfl rfl rfl (by decide) (Nat.le_of_ble_eq_true rfl) dL_law_1150 ⟨(Nat.le_of_ble_eq_true rfl), (Nat.le_of_ble_eq_true rfl)⟩ rfl (fun r w1 H locs hQ V => ?_)
  obtain ⟨z_3, rfl, rfl, f_4⟩ := hQ
  have V : gW D T A s [] H locs := V
  show W p l e _ s m args below meth c H locs _ _ _ (F0 m 1153 ls [.int z_3, .int z_1])
  refine lv_icmp_eq (tgt := 1479) hx hb dL_law_1153 (by decide) (fun c_5 => ?_) (fun c_5 => ?_)
  · skip
    exact hE _ _ _ V.2.2.2.1 (lv_sub hl [0, 1, 2, 3] rfl)
  · exact (c_5 (f_2.trans f_4.symm)).elim

set_option maxHeartbeats 4000000 in
set_option maxRecDepth 100000 in
theorem lk_32 {p : Program} {e : Env} {s : State} {m : MethodId} {args : Array Value} {below : List Frame} {meth : Method} {c : Code} {Q : State → Prop} (l : Launch) {b : Nat} {xs : Nat → Int32} {D : va_G} {T : Nat → ClassId} {A : Nat → Prop} (ox n0 n1 n2 n3 n4 n5 n6 n7 n8 n9 n10 s0 s1 s2 s3 s4 s5 s6 s7 s8 s9 s10 im iz rw t0 t1 u0 h0 h1 h2 h3 y0 y1 y2 i0 i1 i2 i3 i4 i5 i6 i7 i8 i9 i10 j0 j1 j2 j3 j4 j5 j6 j7 j8 j9 j10 ra0 ra1 rb0 rb1 rc0 rc1 rd0 rd1 o g1 g2 g3 g4 g15 g17 g20 g22 g23 g24 g28 g29 g31 g32 g33 : Nat) (hC : cX p s m args meth c RL cL_law 4 (some .boolean)) (hX : va_X b 6 xs s s.heap) (hbl : b < s.heap.size) (hbA : ¬ A b) (hE : ∀ (H : Heap) (locs : List Loc) (ls : Array Slot), va_S A s.heap H locs → lv_has ls 4 [(3, .int (nI 0)), (2, .ref o), (1, .ref ox), (0, .ref b)] → W p l e room_1 s m args below meth c H locs 82 14431 Q (F0 m 1479 ls [])) {H : Heap} {locs : List Loc} {ls : Array Slot} (V : gW D T A s (lwW T ox n0 n1 n2 n3 n4 n5 n6 n7 n8 n9 n10 s0 s1 s2 s3 s4 s5 s6 s7 s8 s9 s10 im iz rw t0 t1 u0 h0 h1 h2 h3 y0 y1 y2 i0 i1 i2 i3 i4 i5 i6 i7 i8 i9 i10 j0 j1 j2 j3 j4 j5 j6 j7 j8 j9 j10 ra0 ra1 rb0 rb1 rc0 rc1 rd0 rd1 o g1 g2 g3 g4 g15 g17 g20 g22 g23 g24 g28 g29 g31 g32 g33) H locs) (hl : lv_has ls 4 [(3, .int (nI 0)), (2, .ref o), (1, .ref ox), (0, .ref b)]) : W p l e room_1 s m args below meth c H locs 82 14431 Q (F0 m 1158 ls []) := by
  obtain ⟨hx, hb, hr, hml, hown, hts, hlocks⟩ := id hC
  have V := V.sub (ws' := [(ox, .inr (7, [.ref n0, .ref s0, .ref im, .ref iz, .ref rw, .ref t0, .ref u0, .ref h0, .ref y0, .null])), (n0, .inr (5, [.int (nI 0), .int (nI 0), .int (nI 0), .int (nI 20), .int (nI 0), .ref n1, .ref n2, .ref n3, .ref n4, .ref n5, .ref n6, .ref n7, .ref n8, .ref n9, .ref n10])), (n1, .inl (T 0, 10, .inl (fun _ => nI 0))), (n2, .inl (T 0, 10, .inl (fun _ => nI 0))), (n3, .inl (T 0, 10, .inl (fun _ => nI 0))), (n4, .inl (T 0, 10, .inl (fun _ => nI 0))), (n5, .inl (T 0, 10, .inl (fun _ => nI 0))), (n6, .inl (T 0, 10, .inl (fun _ => nI 0))), (n7, .inl (T 0, 10, .inl (fun _ => nI 0))), (n8, .inl (T 0, 10, .inl (fun _ => nI 0))), (n9, .inl (T 0, 10, .inl (fun _ => nI 0))), (n10, .inl (T 0, 10, .inl (fun _ => nI 0))), (s0, .inr (5, [.int (nI 0), .int (nI 0), .int (nI 0), .int (nI 20), .int (nI 0), .ref s1, .ref s2, .ref s3, .ref s4, .ref s5, .ref s6, .ref s7, .ref s8, .ref s9, .ref s10])), (s1, .inl (T 0, 10, .inl (fun _ => nI 0))), (s2, .inl (T 0, 10, .inl (fun _ => nI 0))), (s3, .inl (T 0, 10, .inl (fun _ => nI 0))), (s4, .inl (T 0, 10, .inl (fun _ => nI 0))), (s5, .inl (T 0, 10, .inl (fun _ => nI 0))), (s6, .inl (T 0, 10, .inl (fun _ => nI 0))), (s7, .inl (T 0, 10, .inl (fun _ => nI 0))), (s8, .inl (T 0, 10, .inl (fun _ => nI 0))), (s9, .inl (T 0, 10, .inl (fun _ => nI 0))), (s10, .inl (T 0, 10, .inl (fun _ => nI 0))), (o, .inr (8, [.int (nI 0), .ref g1, .ref g2, .ref g3, .ref g4, .int (nI 0), .int (nI 0), .int (nI 0), .int (nI 0), .int (nI 0), .int (nI 0), .int (nI 0), .int (nI 0), .int (nI 0), .int (-1), .ref g15, .int (nI 0), .ref g17, .int (nI 0), .int (nI 0), .ref g20, .int (nI 0), .ref g22, .ref g23, .ref g24, .int (nI 0), .int (nI 0), .int (nI 0), .ref g28, .ref g29, .int (nI 0), .ref g31, .ref g32, .ref g33])), (g1, .inl (T 0, 282, .inl (upd (fun _ => nI 0) 2 (nI 20)))), (g17, .inl (T 0, 94, .inl (fun _ => nI 0)))]) [0, 1, 2, 3, 4, 5, 6, 7, 8, 9, 10, 11, 12, 13, 14, 15, 16, 17, 18, 19, 20, 21, 22, 66, 67, 72] rfl rfl
  refine lv_aload_n hx hb dL_law_1158 rfl (lv_at hl 2 rfl) ?_
  refine lv_aload_n hx hb dL_law_1159 rfl (lv_at hl 3 rfl) ?_
  refine lv_iload_n hx hb dL_law_1160 rfl (lv_at hl 0 rfl) ?_
  refine lv_iconst (v := (nI 1)) hx hb dL_law_1161 (by decide +kernel) ?_
  refine lv_iadd hx hb dL_law_1162 ?_
  refine g_vi (y := (nI 1)) (by decide +kernel) ?_
  refine va_sld hx hb hX hbl hbA V.2.2.2.1 (vp_in_nI (by decide) (by decide)) dL_law_1163 ?_
  refine g_vi (y := xs 1) (congrArg xs (nI_clamp (by decide))) ?_
  refine lv_aload_n hx hb dL_law_1164 rfl (lv_at hl 3 rfl) ?_
  refine lv_iload_n hx hb dL_law_1165 rfl (lv_at hl 0 rfl) ?_
  refine lv_iconst (v := (nI 2)) hx hb dL_law_1166 (by decide +kernel) ?_
  refine lv_iadd hx hb dL_law_1167 ?_
  refine g_vi (y := (nI 2)) (by decide +kernel) ?_
  refine va_sld hx hb hX hbl hbA V.2.2.2.1 (vp_in_nI (by decide) (by decide)) dL_law_1168 ?_
  refine g_vi (y := xs 2) (congrArg xs (nI_clamp (by decide))) ?_
  refine g_callV (wr := [(o, .inr (8, [.int (nI 0), .ref g1, .ref g2, .ref g3, .ref g4, .int (nI 0), .int (nI 0), .int (nI 0), .int (nI 0), .int (nI 0), .int (nI 0), .int (nI 0), .int (nI 0), .int (nI 0), .int (-1), .ref g15, .int (nI 0), .ref g17, .int (nI 0), .int (nI 0), .ref g20, .int (nI 0), .ref g22, .ref g23, .ref g24, .int (nI 0), .int (nI 0), .int (nI 0), .ref g28, .ref g29, .int (nI 0), .ref g31, .ref g32, .ref g33])), (g1, .inl (T 0, 282, .inl (upd (fun _ => nI 0) 2 (nI 20)))), (g17, .inl (T 0, 94, .inl (fun _ => nI 0)))]) (nA := 2) hC V hl.1 (p_X7_swapped l D T ox (xs 1) (xs 2) n0 s0 im iz rw t0 u0 h0 y0 n1 n2 n3 n4 n5 n6 n7 n8 n9 n10 s1 s2 s3 s4 s5 s6 s7 s8 s9 s10) w_833 w_834 w_835 w_2 w_836 (by decide +kernel) rfl ⟨(Nat.le_of_ble_eq_true rfl), (Nat.le_of_ble_eq_true rfl)⟩ 0 (ci := 7) rfl rfl [0, 1, 2, 3, 4, 5, 6, 7, 8, 9, 10, 11, 12, 13, 14, 15, 16, 17, 18, 19, 20, 21, 22] [23, 24, 25] rfl rfl rfl rfl (by decide) (Nat.le_of_ble_eq_true rfl) dL_law_1169 ⟨(Nat.le_of_ble_eq_true rfl), (Nat.le_of_ble_eq_true rfl)⟩ rfl (fun r w1 H locs hQ V => ?_)
  obtain ⟨z_1, rfl, rfl, f_2⟩ := hQ
  have V : gW D T A s [(o, .inr (8, [.int (nI 0), .ref g1, .ref g2, .ref g3, .ref g4, .int (nI 0), .int (nI 0), .int (nI 0), .int (nI 0), .int (nI 0), .int (nI 0), .int (nI 0), .int (nI 0), .int (nI 0), .int (-1), .ref g15, .int (nI 0), .ref g17, .int (nI 0), .int (nI 0), .ref g20, .int (nI 0), .ref g22, .ref g23, .ref g24, .int (nI 0), .int (nI 0), .int (nI 0), .ref g28, .ref g29, .int (nI 0), .ref g31, .ref g32, .ref g33])), (g1, .inl (T 0, 282, .inl (upd (fun _ => nI 0) 2 (nI 20)))), (g17, .inl (T 0, 94, .inl (fun _ => nI 0)))] H locs := V
  show W p l e _ s m args below meth c H locs _ _ _ (F0 m 1172 ls [.int z_1])
  refine lv_aload_n hx hb dL_law_1172 rfl (lv_at hl 1 rfl) ?_
  refine lv_aload_n hx hb dL_law_1173 rfl (lv_at hl 3 rfl) ?_
  refine lv_iload_n hx hb dL_law_1174 rfl (lv_at hl 0 rfl) ?_
  refine lv_iconst (v := (nI 1)) hx hb dL_law_1175 (by decide +kernel) ?_
  refine lv_iadd hx hb dL_law_1176 ?_
  refine g_vi (y := (nI 1)) (by decide +kernel) ?_
  refine va_sld hx hb hX hbl hbA V.2.2.2.1 (vp_in_nI (by decide) (by decide)) dL_law_1177 ?_
  refine g_vi (y := xs 1) (congrArg xs (nI_clamp (by decide))) ?_
  refine lv_aload_n hx hb dL_law_1178 rfl (lv_at hl 3 rfl) ?_
  refine lv_iload_n hx hb dL_law_1179 rfl (lv_at hl 0 rfl) ?_
  refine lv_iconst (v := (nI 2)) hx hb dL_law_1180 (by decide +kernel) ?_
  refine lv_iadd hx hb dL_law_1181 ?_
  refine g_vi (y := (nI 2)) (by decide +kernel) ?_
  refine va_sld hx hb hX hbl hbA V.2.2.2.1 (vp_in_nI (by decide) (by decide)) dL_law_1182 ?_
  refine g_vi (y := xs 2) (congrArg xs (nI_clamp (by decide))) ?_
  refine g_callV (wr := []) (nA := 2) hC V hl.1 (pm_swapped l D T o (xs 1) (xs 2) g1 g2 g3 g4 g15 g17 g20 g22 g23 g24 g28 g29 g31 g32 g33) w_1352 w_1353 w_1354 w_9 w_1355 (by decide +kernel) rfl ⟨(Nat.le_of_ble_eq_true rfl), (Nat.le_of_ble_eq_true rfl)⟩ 0 (ci := 8) rfl rfl [0, 1, 2] [] rfl rfl rfl rfl (by decide) (Nat.le_of_ble_eq_true rfl) dL_law_1183 ⟨(Nat.le_of_ble_eq_true rfl), (Nat.le_of_ble_eq_true rfl)⟩ rfl (fun r w1 H locs hQ V => ?_)
  obtain ⟨z_3, rfl, rfl, f_4⟩ := hQ
  have V : gW D T A s [] H locs := V
  show W p l e _ s m args below meth c H locs _ _ _ (F0 m 1186 ls [.int z_3, .int z_1])
  refine lv_icmp_eq (tgt := 1479) hx hb dL_law_1186 (by decide) (fun c_5 => ?_) (fun c_5 => ?_)
  · skip
    exact hE _ _ _ V.2.2.2.1 (lv_sub hl [0, 1, 2, 3] rfl)
  · exact (c_5 (f_2.trans f_4.symm)).elim

set_option maxHeartbeats 4000000 in
set_option maxRecDepth 100000 in
theorem lk_33 {p : Program} {e : Env} {s : State} {m : MethodId} {args : Array Value} {below : List Frame} {meth : Method} {c : Code} {Q : State → Prop} (l : Launch) {b : Nat} {xs : Nat → Int32} {D : va_G} {T : Nat → ClassId} {A : Nat → Prop} (ox n0 n1 n2 n3 n4 n5 n6 n7 n8 n9 n10 s0 s1 s2 s3 s4 s5 s6 s7 s8 s9 s10 im iz rw t0 t1 u0 h0 h1 h2 h3 y0 y1 y2 i0 i1 i2 i3 i4 i5 i6 i7 i8 i9 i10 j0 j1 j2 j3 j4 j5 j6 j7 j8 j9 j10 ra0 ra1 rb0 rb1 rc0 rc1 rd0 rd1 o g1 g2 g3 g4 g15 g17 g20 g22 g23 g24 g28 g29 g31 g32 g33 : Nat) (hC : cX p s m args meth c RL cL_law 4 (some .boolean)) (hX : va_X b 6 xs s s.heap) (hbl : b < s.heap.size) (hbA : ¬ A b) (hE : ∀ (H : Heap) (locs : List Loc) (ls : Array Slot), va_S A s.heap H locs → lv_has ls 4 [(3, .int (nI 0)), (2, .ref o), (1, .ref ox), (0, .ref b)] → W p l e room_1 s m args below meth c H locs 82 14431 Q (F0 m 1479 ls [])) {H : Heap} {locs : List Loc} {ls : Array Slot} (V : gW D T A s (lwW T ox n0 n1 n2 n3 n4 n5 n6 n7 n8 n9 n10 s0 s1 s2 s3 s4 s5 s6 s7 s8 s9 s10 im iz rw t0 t1 u0 h0 h1 h2 h3 y0 y1 y2 i0 i1 i2 i3 i4 i5 i6 i7 i8 i9 i10 j0 j1 j2 j3 j4 j5 j6 j7 j8 j9 j10 ra0 ra1 rb0 rb1 rc0 rc1 rd0 rd1 o g1 g2 g3 g4 g15 g17 g20 g22 g23 g24 g28 g29 g31 g32 g33) H locs) (hl : lv_has ls 4 [(3, .int (nI 0)), (2, .ref o), (1, .ref ox), (0, .ref b)]) : W p l e room_1 s m args below meth c H locs 82 14431 Q (F0 m 1191 ls []) := by
  obtain ⟨hx, hb, hr, hml, hown, hts, hlocks⟩ := id hC
  have V := V.sub (ws' := [(ox, .inr (7, [.ref n0, .ref s0, .ref im, .ref iz, .ref rw, .ref t0, .ref u0, .ref h0, .ref y0, .null])), (n0, .inr (5, [.int (nI 0), .int (nI 0), .int (nI 0), .int (nI 20), .int (nI 0), .ref n1, .ref n2, .ref n3, .ref n4, .ref n5, .ref n6, .ref n7, .ref n8, .ref n9, .ref n10])), (n1, .inl (T 0, 10, .inl (fun _ => nI 0))), (n2, .inl (T 0, 10, .inl (fun _ => nI 0))), (n3, .inl (T 0, 10, .inl (fun _ => nI 0))), (n4, .inl (T 0, 10, .inl (fun _ => nI 0))), (n5, .inl (T 0, 10, .inl (fun _ => nI 0))), (n6, .inl (T 0, 10, .inl (fun _ => nI 0))), (n7, .inl (T 0, 10, .inl (fun _ => nI 0))), (n8, .inl (T 0, 10, .inl (fun _ => nI 0))), (n9, .inl (T 0, 10, .inl (fun _ => nI 0))), (n10, .inl (T 0, 10, .inl (fun _ => nI 0))), (o, .inr (8, [.int (nI 0), .ref g1, .ref g2, .ref g3, .ref g4, .int (nI 0), .int (nI 0), .int (nI 0), .int (nI 0), .int (nI 0), .int (nI 0), .int (nI 0), .int (nI 0), .int (nI 0), .int (-1), .ref g15, .int (nI 0), .ref g17, .int (nI 0), .int (nI 0), .ref g20, .int (nI 0), .ref g22, .ref g23, .ref g24, .int (nI 0), .int (nI 0), .int (nI 0), .ref g28, .ref g29, .int (nI 0), .ref g31, .ref g32, .ref g33])), (g1, .inl (T 0, 282, .inl (upd (fun _ => nI 0) 2 (nI 20))))]) [0, 1, 2, 3, 4, 5, 6, 7, 8, 9, 10, 11, 66, 67] rfl rfl
  refine lv_aload_n hx hb dL_law_1191 rfl (lv_at hl 2 rfl) ?_
  refine lv_aload_n hx hb dL_law_1192 rfl (lv_at hl 3 rfl) ?_
  refine lv_iload_n hx hb dL_law_1193 rfl (lv_at hl 0 rfl) ?_
  refine lv_iconst (v := (nI 1)) hx hb dL_law_1194 (by decide +kernel) ?_
  refine lv_iadd hx hb dL_law_1195 ?_
  refine g_vi (y := (nI 1)) (by decide +kernel) ?_
  refine va_sld hx hb hX hbl hbA V.2.2.2.1 (vp_in_nI (by decide) (by decide)) dL_law_1196 ?_
  refine g_vi (y := xs 1) (congrArg xs (nI_clamp (by decide))) ?_
  refine g_callV (wr := [(o, .inr (8, [.int (nI 0), .ref g1, .ref g2, .ref g3, .ref g4, .int (nI 0), .int (nI 0), .int (nI 0), .int (nI 0), .int (nI 0), .int (nI 0), .int (nI 0), .int (nI 0), .int (nI 0), .int (-1), .ref g15, .int (nI 0), .ref g17, .int (nI 0), .int (nI 0), .ref g20, .int (nI 0), .ref g22, .ref g23, .ref g24, .int (nI 0), .int (nI 0), .int (nI 0), .ref g28, .ref g29, .int (nI 0), .ref g31, .ref g32, .ref g33])), (g1, .inl (T 0, 282, .inl (upd (fun _ => nI 0) 2 (nI 20))))]) (nA := 1) hC V hl.1 (p_X7_when l D T ox (xs 1) n0 s0 im iz rw t0 u0 h0 y0 n1 n2 n3 n4 n5 n6 n7 n8 n9 n10) w_841 w_842 w_843 w_2 w_844 (by decide +kernel) rfl ⟨(Nat.le_of_ble_eq_true rfl), (Nat.le_of_ble_eq_true rfl)⟩ 0 (ci := 7) rfl rfl [0, 1, 2, 3, 4, 5, 6, 7, 8, 9, 10, 11] [12, 13] rfl rfl rfl rfl (by decide) (Nat.le_of_ble_eq_true rfl) dL_law_1197 ⟨(Nat.le_of_ble_eq_true rfl), (Nat.le_of_ble_eq_true rfl)⟩ rfl (fun r w1 H locs hQ V => ?_)
  obtain ⟨z_1, rfl, rfl, f_2⟩ := hQ
  have V : gW D T A s [(o, .inr (8, [.int (nI 0), .ref g1, .ref g2, .ref g3, .ref g4, .int (nI 0), .int (nI 0), .int (nI 0), .int (nI 0), .int (nI 0), .int (nI 0), .int (nI 0), .int (nI 0), .int (nI 0), .int (-1), .ref g15, .int (nI 0), .ref g17, .int (nI 0), .int (nI 0), .ref g20, .int (nI 0), .ref g22, .ref g23, .ref g24, .int (nI 0), .int (nI 0), .int (nI 0), .ref g28, .ref g29, .int (nI 0), .ref g31, .ref g32, .ref g33])), (g1, .inl (T 0, 282, .inl (upd (fun _ => nI 0) 2 (nI 20))))] H locs := V
  show W p l e _ s m args below meth c H locs _ _ _ (F0 m 1200 ls [.int z_1])
  refine lv_aload_n hx hb dL_law_1200 rfl (lv_at hl 1 rfl) ?_
  refine lv_aload_n hx hb dL_law_1201 rfl (lv_at hl 3 rfl) ?_
  refine lv_iload_n hx hb dL_law_1202 rfl (lv_at hl 0 rfl) ?_
  refine lv_iconst (v := (nI 1)) hx hb dL_law_1203 (by decide +kernel) ?_
  refine lv_iadd hx hb dL_law_1204 ?_
  refine g_vi (y := (nI 1)) (by decide +kernel) ?_
  refine va_sld hx hb hX hbl hbA V.2.2.2.1 (vp_in_nI (by decide) (by decide)) dL_law_1205 ?_
  refine g_vi (y := xs 1) (congrArg xs (nI_clamp (by decide))) ?_
  refine g_callV (wr := []) (nA := 1) hC V hl.1 (pm_when l D T o (xs 1) g1 g2 g3 g4 g15 g17 g20 g22 g23 g24 g28 g29 g31 g32 g33) w_1360 w_1361 w_1362 w_9 w_1363 (by decide +kernel) rfl ⟨(Nat.le_of_ble_eq_true rfl), (Nat.le_of_ble_eq_true rfl)⟩ 0 (ci := 8) rfl rfl [0, 1] [] rfl rfl rfl rfl (by decide) (Nat.le_of_ble_eq_true rfl) dL_law_1206 ⟨(Nat.le_of_ble_eq_true rfl), (Nat.le_of_ble_eq_true rfl)⟩ rfl (fun r w1 H locs hQ V => ?_)
  obtain ⟨z_3, rfl, rfl, f_4⟩ := hQ
  have V : gW D T A s [] H locs := V
  show W p l e _ s m args below meth c H locs _ _ _ (F0 m 1209 ls [.int z_3, .int z_1])
  refine lv_icmp_eq (tgt := 1479) hx hb dL_law_1209 (by decide) (fun c_5 => ?_) (fun c_5 => ?_)
  · skip
    exact hE _ _ _ V.2.2.2.1 (lv_sub hl [0, 1, 2, 3] rfl)
  · exact (c_5 (f_2.trans f_4.symm)).elim

set_option maxHeartbeats 4000000 in
set_option maxRecDepth 100000 in
theorem lk_34 {p : Program} {e : Env} {s : State} {m : MethodId} {args : Array Value} {below : List Frame} {meth : Method} {c : Code} {Q : State → Prop} (l : Launch) {b : Nat} {xs : Nat → Int32} {D : va_G} {T : Nat → ClassId} {A : Nat → Prop} (ox n0 n1 n2 n3 n4 n5 n6 n7 n8 n9 n10 s0 s1 s2 s3 s4 s5 s6 s7 s8 s9 s10 im iz rw t0 t1 u0 h0 h1 h2 h3 y0 y1 y2 i0 i1 i2 i3 i4 i5 i6 i7 i8 i9 i10 j0 j1 j2 j3 j4 j5 j6 j7 j8 j9 j10 ra0 ra1 rb0 rb1 rc0 rc1 rd0 rd1 o g1 g2 g3 g4 g15 g17 g20 g22 g23 g24 g28 g29 g31 g32 g33 : Nat) (hC : cX p s m args meth c RL cL_law 4 (some .boolean)) (hX : va_X b 6 xs s s.heap) (hbl : b < s.heap.size) (hbA : ¬ A b) (hE : ∀ (H : Heap) (locs : List Loc) (ls : Array Slot), va_S A s.heap H locs → lv_has ls 4 [(3, .int (nI 0)), (2, .ref o), (1, .ref ox), (0, .ref b)] → W p l e room_1 s m args below meth c H locs 82 14431 Q (F0 m 1479 ls [])) {H : Heap} {locs : List Loc} {ls : Array Slot} (V : gW D T A s (lwW T ox n0 n1 n2 n3 n4 n5 n6 n7 n8 n9 n10 s0 s1 s2 s3 s4 s5 s6 s7 s8 s9 s10 im iz rw t0 t1 u0 h0 h1 h2 h3 y0 y1 y2 i0 i1 i2 i3 i4 i5 i6 i7 i8 i9 i10 j0 j1 j2 j3 j4 j5 j6 j7 j8 j9 j10 ra0 ra1 rb0 rb1 rc0 rc1 rd0 rd1 o g1 g2 g3 g4 g15 g17 g20 g22 g23 g24 g28 g29 g31 g32 g33) H locs) (hl : lv_has ls 4 [(3, .int (nI 0)), (2, .ref o), (1, .ref ox), (0, .ref b)]) : W p l e room_1 s m args below meth c H locs 82 14431 Q (F0 m 1214 ls []) := by
  obtain ⟨hx, hb, hr, hml, hown, hts, hlocks⟩ := id hC
  have V := V.sub (ws' := [(ox, .inr (7, [.ref n0, .ref s0, .ref im, .ref iz, .ref rw, .ref t0, .ref u0, .ref h0, .ref y0, .null])), (n0, .inr (5, [.int (nI 0), .int (nI 0), .int (nI 0), .int (nI 20), .int (nI 0), .ref n1, .ref n2, .ref n3, .ref n4, .ref n5, .ref n6, .ref n7, .ref n8, .ref n9, .ref n10])), (n1, .inl (T 0, 10, .inl (fun _ => nI 0))), (n2, .inl (T 0, 10, .inl (fun _ => nI 0))), (n3, .inl (T 0, 10, .inl (fun _ => nI 0))), (n4, .inl (T 0, 10, .inl (fun _ => nI 0))), (n5, .inl (T 0, 10, .inl (fun _ => nI 0))), (n6, .inl (T 0, 10, .inl (fun _ => nI 0))), (n7, .inl (T 0, 10, .inl (fun _ => nI 0))), (n8, .inl (T 0, 10, .inl (fun _ => nI 0))), (n9, .inl (T 0, 10, .inl (fun _ => nI 0))), (n10, .inl (T 0, 10, .inl (fun _ => nI 0))), (o, .inr (8, [.int (nI 0), .ref g1, .ref g2, .ref g3, .ref g4, .int (nI 0), .int (nI 0), .int (nI 0), .int (nI 0), .int (nI 0), .int (nI 0), .int (nI 0), .int (nI 0), .int (nI 0), .int (-1), .ref g15, .int (nI 0), .ref g17, .int (nI 0), .int (nI 0), .ref g20, .int (nI 0), .ref g22, .ref g23, .ref g24, .int (nI 0), .int (nI 0), .int (nI 0), .ref g28, .ref g29, .int (nI 0), .ref g31, .ref g32, .ref g33])), (g1, .inl (T 0, 282, .inl (upd (fun _ => nI 0) 2 (nI 20))))]) [0, 1, 2, 3, 4, 5, 6, 7, 8, 9, 10, 11, 66, 67] rfl rfl
  refine lv_aload_n hx hb dL_law_1214 rfl (lv_at hl 2 rfl) ?_
  refine lv_aload_n hx hb dL_law_1215 rfl (lv_at hl 3 rfl) ?_
  refine lv_iload_n hx hb dL_law_1216 rfl (lv_at hl 0 rfl) ?_
  refine lv_iconst (v := (nI 1)) hx hb dL_law_1217 (by decide +kernel) ?_
  refine lv_iadd hx hb dL_law_1218 ?_
  refine g_vi (y := (nI 1)) (by decide +kernel) ?_
  refine va_sld hx hb hX hbl hbA V.2.2.2.1 (vp_in_nI (by decide) (by decide)) dL_law_1219 ?_
  refine g_vi (y := xs 1) (congrArg xs (nI_clamp (by decide))) ?_
  refine lv_aload_n hx hb dL_law_1220 rfl (lv_at hl 3 rfl) ?_
  refine lv_iload_n hx hb dL_law_1221 rfl (lv_at hl 0 rfl) ?_
  refine lv_iconst (v := (nI 2)) hx hb dL_law_1222 (by decide +kernel) ?_
  refine lv_iadd hx hb dL_law_1223 ?_
  refine g_vi (y := (nI 2)) (by decide +kernel) ?_
  refine va_sld hx hb hX hbl hbA V.2.2.2.1 (vp_in_nI (by decide) (by decide)) dL_law_1224 ?_
  refine g_vi (y := xs 2) (congrArg xs (nI_clamp (by decide))) ?_
  refine g_callV (wr := [(o, .inr (8, [.int (nI 0), .ref g1, .ref g2, .ref g3, .ref g4, .int (nI 0), .int (nI 0), .int (nI 0), .int (nI 0), .int (nI 0), .int (nI 0), .int (nI 0), .int (nI 0), .int (nI 0), .int (-1), .ref g15, .int (nI 0), .ref g17, .int (nI 0), .int (nI 0), .ref g20, .int (nI 0), .ref g22, .ref g23, .ref g24, .int (nI 0), .int (nI 0), .int (nI 0), .ref g28, .ref g29, .int (nI 0), .ref g31, .ref g32, .ref g33])), (g1, .inl (T 0, 282, .inl (upd (fun _ => nI 0) 2 (nI 20))))]) (nA := 2) hC V hl.1 (p_X7_warm l D T ox (xs 1) (xs 2) n0 s0 im iz rw t0 u0 h0 y0 n1 n2 n3 n4 n5 n6 n7 n8 n9 n10) w_846 w_847 w_848 w_2 w_849 (by decide +kernel) rfl ⟨(Nat.le_of_ble_eq_true rfl), (Nat.le_of_ble_eq_true rfl)⟩ 0 (ci := 7) rfl rfl [0, 1, 2, 3, 4, 5, 6, 7, 8, 9, 10, 11] [12, 13] rfl rfl rfl rfl (by decide) (Nat.le_of_ble_eq_true rfl) dL_law_1225 ⟨(Nat.le_of_ble_eq_true rfl), (Nat.le_of_ble_eq_true rfl)⟩ rfl (fun r w1 H locs hQ V => ?_)
  obtain ⟨z_1, rfl, rfl, f_2⟩ := hQ
  have V : gW D T A s [(o, .inr (8, [.int (nI 0), .ref g1, .ref g2, .ref g3, .ref g4, .int (nI 0), .int (nI 0), .int (nI 0), .int (nI 0), .int (nI 0), .int (nI 0), .int (nI 0), .int (nI 0), .int (nI 0), .int (-1), .ref g15, .int (nI 0), .ref g17, .int (nI 0), .int (nI 0), .ref g20, .int (nI 0), .ref g22, .ref g23, .ref g24, .int (nI 0), .int (nI 0), .int (nI 0), .ref g28, .ref g29, .int (nI 0), .ref g31, .ref g32, .ref g33])), (g1, .inl (T 0, 282, .inl (upd (fun _ => nI 0) 2 (nI 20))))] H locs := V
  show W p l e _ s m args below meth c H locs _ _ _ (F0 m 1228 ls [.int z_1])
  refine lv_aload_n hx hb dL_law_1228 rfl (lv_at hl 1 rfl) ?_
  refine lv_aload_n hx hb dL_law_1229 rfl (lv_at hl 3 rfl) ?_
  refine lv_iload_n hx hb dL_law_1230 rfl (lv_at hl 0 rfl) ?_
  refine lv_iconst (v := (nI 1)) hx hb dL_law_1231 (by decide +kernel) ?_
  refine lv_iadd hx hb dL_law_1232 ?_
  refine g_vi (y := (nI 1)) (by decide +kernel) ?_
  refine va_sld hx hb hX hbl hbA V.2.2.2.1 (vp_in_nI (by decide) (by decide)) dL_law_1233 ?_
  refine g_vi (y := xs 1) (congrArg xs (nI_clamp (by decide))) ?_
  refine lv_aload_n hx hb dL_law_1234 rfl (lv_at hl 3 rfl) ?_
  refine lv_iload_n hx hb dL_law_1235 rfl (lv_at hl 0 rfl) ?_
  refine lv_iconst (v := (nI 2)) hx hb dL_law_1236 (by decide +kernel) ?_
  refine lv_iadd hx hb dL_law_1237 ?_
  refine g_vi (y := (nI 2)) (by decide +kernel) ?_
  refine va_sld hx hb hX hbl hbA V.2.2.2.1 (vp_in_nI (by decide) (by decide)) dL_law_1238 ?_
  refine g_vi (y := xs 2) (congrArg xs (nI_clamp (by decide))) ?_
  refine g_callV (wr := []) (nA := 2) hC V hl.1 (pm_warm l D T o (xs 1) (xs 2) g1 g2 g3 g4 g15 g17 g20 g22 g23 g24 g28 g29 g31 g32 g33) w_1364 w_1365 w_1366 w_9 w_1367 (by decide +kernel) rfl ⟨(Nat.le_of_ble_eq_true rfl), (Nat.le_of_ble_eq_true rfl)⟩ 0 (ci := 8) rfl rfl [0, 1] [] rfl rfl rfl rfl (by decide) (Nat.le_of_ble_eq_true rfl) dL_law_1239 ⟨(Nat.le_of_ble_eq_true rfl), (Nat.le_of_ble_eq_true rfl)⟩ rfl (fun r w1 H locs hQ V => ?_)
  obtain ⟨z_3, rfl, rfl, f_4⟩ := hQ
  have V : gW D T A s [] H locs := V
  show W p l e _ s m args below meth c H locs _ _ _ (F0 m 1242 ls [.int z_3, .int z_1])
  refine lv_icmp_eq (tgt := 1479) hx hb dL_law_1242 (by decide) (fun c_5 => ?_) (fun c_5 => ?_)
  · skip
    exact hE _ _ _ V.2.2.2.1 (lv_sub hl [0, 1, 2, 3] rfl)
  · exact (c_5 (f_2.trans f_4.symm)).elim
