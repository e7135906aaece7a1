set_option maxHeartbeats 4000000 in
set_option maxRecDepth 100000 in
theorem lk_21 {p : Program} {e : Env} {s : State} {m : MethodId} {args : Array Value} {below : List Frame} {meth : Method} {c : Code} {Q : State → Prop} (l : Launch) {b : Nat} {xs : Nat → Int32} {D : va_G} {T : Nat → ClassId} {A : Nat → Prop} (ox n0 n1 n2 n3 n4 n5 n6 n7 n8 n9 n10 s0 s1 s2 s3 s4 s5 s6 s7 s8 s9 s10 im iz rw t0 t1 u0 h0 h1 h2 h3 y0 y1 y2 i0 i1 i2 i3 i4 i5 i6 i7 i8 i9 i10 j0 j1 j2 j3 j4 j5 j6 j7 j8 j9 j10 ra0 ra1 rb0 rb1 rc0 rc1 rd0 rd1 o g1 g2 g3 g4 g15 g17 g20 g22 g23 g24 g28 g29 g31 g32 g33 : Nat) (hC : cX p s m args meth c RL cL_law 4 (some .boolean)) (hX : va_X b 6 xs s s.heap) (hbl : b < s.heap.size) (hbA : ¬ A b) (hE : ∀ (H : Heap) (locs : List Loc) (ls : Array Slot), va_S A s.heap H locs → lv_has ls 4 [(3, .int (nI 0)), (2, .ref o), (1, .ref ox), (0, .ref b)] → W p l e room_1 s m args below meth c H locs 82 14431 Q (F0 m 1479 ls [])) {H : Heap} {locs : List Loc} {ls : Array Slot} (V : gW D T A s (lwW T ox n0 n1 n2 n3 n4 n5 n6 n7 n8 n9 n10 s0 s1 s2 s3 s4 s5 s6 s7 s8 s9 s10 im iz rw t0 t1 u0 h0 h1 h2 h3 y0 y1 y2 i0 i1 i2 i3 i4 i5 i6 i7 i8 i9 i10 j0 j1 j2 j3 j4 j5 j6 j7 j8 j9 j10 ra0 ra1 rb0 rb1 rc0 rc1 rd0 rd1 o g1 g2 g3 g4 g15 g17 g20 g22 g23 g24 g28 g29 g31 g32 g33) H locs) (hl : lv_has ls 4 [(3, .int (nI 0)), (2, .ref o), (1, .ref ox), (0, .ref b)]) : W p l e room_1 s m args below meth c H locs 82 14431 Q (F0 m 839 ls []) := by
  obtain ⟨hx, hb, hr, hml, hown, hts, hlocks⟩ := id hC
  have V := V.sub (ws' := [(ox, .inr (7, [.ref n0, .ref s0, .ref im, .ref iz, .ref rw, .ref t0, .ref u0, .ref h0, .ref y0, .null])), (n0, .inr (5, [.int (nI 0), .int (nI 0), .int (nI 0), .int (nI 20), .int (nI 0), .ref n1, .ref n2, .ref n3, .ref n4, .ref n5, .ref n6, .ref n7, .ref n8, .ref n9, .ref n10])), (h0, .inr (3, [.ref h1, .int (nI 0), .int (nI 0), .int (nI 0), .ref h2, .ref h3])), (h2, .inl (T 0, 10, .inl (fun _ => nI 0))), (o, .inr (8, [.int (nI 0), .ref g1, .ref g2, .ref g3, .ref g4, .int (nI 0), .int (nI 0), .int (nI 0), .int (nI 0), .int (nI 0), .int (nI 0), .int (nI 0), .int (nI 0), .int (nI 0), .int (-1), .ref g15, .int (nI 0), .ref g17, .int (nI 0), .int (nI 0), .ref g20, .int (nI 0), .ref g22, .ref g23, .ref g24, .int (nI 0), .int (nI 0), .int (nI 0), .ref g28, .ref g29, .int (nI 0), .ref g31, .ref g32, .ref g33])), (g1, .inl (T 0, 282, .inl (upd (fun _ => nI 0) 2 (nI 20)))), (g17, .inl (T 0, 94, .inl (fun _ => nI 0)))]) [0, 1, 29, 31, 66, 67, 72] rfl rfl
  refine lv_aload_n hx hb dL_law_839 rfl (lv_at hl 2 rfl) ?_
  refine lv_aload_n hx hb dL_law_840 rfl (lv_at hl 3 rfl) ?_
  refine lv_iload_n hx hb dL_law_841 rfl (lv_at hl 0 rfl) ?_
  refine lv_iconst (v := (nI 1)) hx hb dL_law_842 (by decide +kernel) ?_
  refine lv_iadd hx hb dL_law_843 ?_
  refine g_vi (y := (nI 1)) (by decide +kernel) ?_
  refine va_sld hx hb hX hbl hbA V.2.2.2.1 (vp_in_nI (by decide) (by decide)) dL_law_844 ?_
  refine g_vi (y := xs 1) (congrArg xs (nI_clamp (by decide))) ?_
  refine g_callV (wr := [(o, .inr (8, [.int (nI 0), .ref g1, .ref g2, .ref g3, .ref g4, .int (nI 0), .int (nI 0), .int (nI 0), .int (nI 0), .int (nI 0), .int (nI 0), .int (nI 0), .int (nI 0), .int (nI 0), .int (-1), .ref g15, .int (nI 0), .ref g17, .int (nI 0), .int (nI 0), .ref g20, .int (nI 0), .ref g22, .ref g23, .ref g24, .int (nI 0), .int (nI 0), .int (nI 0), .ref g28, .ref g29, .int (nI 0), .ref g31, .ref g32, .ref g33])), (g1, .inl (T 0, 282, .inl (upd (fun _ => nI 0) 2 (nI 20)))), (g17, .inl (T 0, 94, .inl (fun _ => nI 0)))]) (nA := 1) hC V hl.1 (p_X7_bestWave l D T ox (xs 1) n0 s0 im iz rw t0 u0 h0 y0 n1 n2 n3 n4 n5 n6 n7 n8 n9 n10 h1 h2 h3) w_648 w_649 w_650 w_2 w_651 (by decide +kernel) rfl ⟨(Nat.le_of_ble_eq_true rfl), (Nat.le_of_ble_eq_true rfl)⟩ 0 (ci := 7) rfl rfl [0, 1, 2, 3] [4, 5, 6] rfl rfl rfl rfl (by decide) (Nat.le_of_ble_eq_true rfl) dL_law_845 ⟨(Nat.le_of_ble_eq_true rfl), (Nat.le_of_ble_eq_true rfl)⟩ rfl (fun r w1 H locs hQ V => ?_)
  obtain ⟨z_1, rfl, rfl, f_2⟩ := hQ
  have V : gW D T A s [(o, .inr (8, [.int (nI 0), .ref g1, .ref g2, .ref g3, .ref g4, .int (nI 0), .int (nI 0), .int (nI 0), .int (nI 0), .int (nI 0), .int (nI 0), .int (nI 0), .int (nI 0), .int (nI 0), .int (-1), .ref g15, .int (nI 0), .ref g17, .int (nI 0), .int (nI 0), .ref g20, .int (nI 0), .ref g22, .ref g23, .ref g24, .int (nI 0), .int (nI 0), .int (nI 0), .ref g28, .ref g29, .int (nI 0), .ref g31, .ref g32, .ref g33])), (g1, .inl (T 0, 282, .inl (upd (fun _ => nI 0) 2 (nI 20)))), (g17, .inl (T 0, 94, .inl (fun _ => nI 0)))] H locs := V
  show W p l e _ s m args below meth c H locs _ _ _ (F0 m 848 ls [.int z_1])
  refine lv_aload_n hx hb dL_law_848 rfl (lv_at hl 1 rfl) ?_
  refine lv_aload_n hx hb dL_law_849 rfl (lv_at hl 3 rfl) ?_
  refine lv_iload_n hx hb dL_law_850 rfl (lv_at hl 0 rfl) ?_
  refine lv_iconst (v := (nI 1)) hx hb dL_law_851 (by decide +kernel) ?_
  refine lv_iadd hx hb dL_law_852 ?_
  refine g_vi (y := (nI 1)) (by decide +kernel) ?_
  refine va_sld hx hb hX hbl hbA V.2.2.2.1 (vp_in_nI (by decide) (by decide)) dL_law_853 ?_
  refine g_vi (y := xs 1) (congrArg xs (nI_clamp (by decide))) ?_
  refine g_callV (wr := []) (nA := 1) hC V hl.1 (pm_bestWave l D T o (xs 1) g1 g2 g3 g4 g15 g17 g20 g22 g23 g24 g28 g29 g31 g32 g33) w_1249 w_1250 w_1251 w_9 w_1252 (by decide +kernel) rfl ⟨(Nat.le_of_ble_eq_true rfl), (Nat.le_of_ble_eq_true rfl)⟩ 0 (ci := 8) rfl rfl [0, 1, 2] [] rfl rfl rfl rfl (by decide) (Nat.le_of_ble_eq_true rfl) dL_law_854 ⟨(Nat.le_of_ble_eq_true rfl), (Nat.le_of_ble_eq_true rfl)⟩ rfl (fun r w1 H locs hQ V => ?_)
  obtain ⟨z_3, rfl, rfl, f_4⟩ := hQ
  have V : gW D T A s [] H locs := V
  show W p l e _ s m args below meth c H locs _ _ _ (F0 m 857 ls [.int z_3, .int z_1])
  refine lv_icmp_eq (tgt := 1479) hx hb dL_law_857 (by decide) (fun c_5 => ?_) (fun c_5 => ?_)
  · skip
    exact hE _ _ _ V.2.2.2.1 (lv_sub hl [0, 1, 2, 3] rfl)
  · exact (c_5 (f_2.trans f_4.symm)).elim

set_option maxHeartbeats 4000000 in
set_option maxRecDepth 100000 in
theorem lk_22 {p : Program} {e : Env} {s : State} {m : MethodId} {args : Array Value} {below : List Frame} {meth : Method} {c : Code} {Q : State → Prop} (l : Launch) {b : Nat} {xs : Nat → Int32} {D : va_G} {T : Nat → ClassId} {A : Nat → Prop} (ox n0 n1 n2 n3 n4 n5 n6 n7 n8 n9 n10 s0 s1 s2 s3 s4 s5 s6 s7 s8 s9 s10 im iz rw t0 t1 u0 h0 h1 h2 h3 y0 y1 y2 i0 i1 i2 i3 i4 i5 i6 i7 i8 i9 i10 j0 j1 j2 j3 j4 j5 j6 j7 j8 j9 j10 ra0 ra1 rb0 rb1 rc0 rc1 rd0 rd1 o g1 g2 g3 g4 g15 g17 g20 g22 g23 g24 g28 g29 g31 g32 g33 : Nat) (hC : cX p s m args meth c RL cL_law 4 (some .boolean)) (hX : va_X b 6 xs s s.heap) (hbl : b < s.heap.size) (hbA : ¬ A b) (hE : ∀ (H : Heap) (locs : List Loc) (ls : Array Slot), va_S A s.heap H locs → lv_has ls 4 [(3, .int (nI 0)), (2, .ref o), (1, .ref ox), (0, .ref b)] → W p l e room_1 s m args below meth c H locs 82 14431 Q (F0 m 1479 ls [])) {H : Heap} {locs : List Loc} {ls : Array Slot} (V : gW D T A s (lwW T ox n0 n1 n2 n3 n4 n5 n6 n7 n8 n9 n10 s0 s1 s2 s3 s4 s5 s6 s7 s8 s9 s10 im iz rw t0 t1 u0 h0 h1 h2 h3 y0 y1 y2 i0 i1 i2 i3 i4 i5 i6 i7 i8 i9 i10 j0 j1 j2 j3 j4 j5 j6 j7 j8 j9 j10 ra0 ra1 rb0 rb1 rc0 rc1 rd0 rd1 o g1 g2 g3 g4 g15 g17 g20 g22 g23 g24 g28 g29 g31 g32 g33) H locs) (hl : lv_has ls 4 [(3, .int (nI 0)), (2, .ref o), (1, .ref ox), (0, .ref b)]) : W p l e room_1 s m args below meth c H locs 82 14431 Q (F0 m 862 ls []) := by
  obtain ⟨hx, hb, hr, hml, hown, hts, hlocks⟩ := id hC
  have V := V.sub (ws' := [(ox, .inr (7, [.ref n0, .ref s0, .ref im, .ref iz, .ref rw, .ref t0, .ref u0, .ref h0, .ref y0, .null])), (n0, .inr (5, [.int (nI 0), .int (nI 0), .int (nI 0), .int (nI 20), .int (nI 0), .ref n1, .ref n2, .ref n3, .ref n4, .ref n5, .ref n6, .ref n7, .ref n8, .ref n9, .ref n10])), (h0, .inr (3, [.ref h1, .int (nI 0), .int (nI 0), .int (nI 0), .ref h2, .ref h3])), (h1, .inl (T 0, 10, .inl (fun _ => nI 0))), (h2, .inl (T 0, 10, .inl (fun _ => nI 0))), (o, .inr (8, [.int (nI 0), .ref g1, .ref g2, .ref g3, .ref g4, .int (nI 0), .int (nI 0), .int (nI 0), .int (nI 0), .int (nI 0), .int (nI 0), .int (nI 0), .int (nI 0), .int (nI 0), .int (-1), .ref g15, .int (nI 0), .ref g17, .int (nI 0), .int (nI 0), .ref g20, .int (nI 0), .ref g22, .ref g23, .ref g24, .int (nI 0), .int (nI 0), .int (nI 0), .ref g28, .ref g29, .int (nI 0), .ref g31, .ref g32, .ref g33])), (g1, .inl (T 0, 282, .inl (upd (fun _ => nI 0) 2 (nI 20)))), (g17, .inl (T 0, 94, .inl (fun _ => nI 0)))]) [0, 1, 29, 30, 31, 66, 67, 72] rfl rfl
  refine lv_aload_n hx hb dL_law_862 rfl (lv_at hl 2 rfl) ?_
  refine lv_aload_n hx hb dL_law_863 rfl (lv_at hl 3 rfl) ?_
  refine lv_iload_n hx hb dL_law_864 rfl (lv_at hl 0 rfl) ?_
  refine lv_iconst (v := (nI 1)) hx hb dL_law_865 (by decide +kernel) ?_
  refine lv_iadd hx hb dL_law_866 ?_
  refine g_vi (y := (nI 1)) (by decide +kernel) ?_
  refine va_sld hx hb hX hbl hbA V.2.2.2.1 (vp_in_nI (by decide) (by decide)) dL_law_867 ?_
  refine g_vi (y := xs 1) (congrArg xs (nI_clamp (by decide))) ?_
  refine lv_aload_n hx hb dL_law_868 rfl (lv_at hl 3 rfl) ?_
  refine lv_iload_n hx hb dL_law_869 rfl (lv_at hl 0 rfl) ?_
  refine lv_iconst (v := (nI 2)) hx hb dL_law_870 (by decide +kernel) ?_
  refine lv_iadd hx hb dL_law_871 ?_
  refine g_vi (y := (nI 2)) (by decide +kernel) ?_
  refine va_sld hx hb hX hbl hbA V.2.2.2.1 (vp_in_nI (by decide) (by decide)) dL_law_872 ?_
  refine g_vi (y := xs 2) (congrArg xs (nI_clamp (by decide))) ?_
  refine g_callV (wr := [(o, .inr (8, [.int (nI 0), .ref g1, .ref g2, .ref g3, .ref g4, .int (nI 0), .int (nI 0), .int (nI 0), .int (nI 0), .int (nI 0), .int (nI 0), .int (nI 0), .int (nI 0), .int (nI 0), .int (-1), .ref g15, .int (nI 0), .ref g17, .int (nI 0), .int (nI 0), .ref g20, .int (nI 0), .ref g22, .ref g23, .ref g24, .int (nI 0), .int (nI 0), .int (nI 0), .ref g28, .ref g29, .int (nI 0), .ref g31, .ref g32, .ref g33])), (g1, .inl (T 0, 282, .inl (upd (fun _ => nI 0) 2 (nI 20)))), (g17, .inl (T 0, 94, .inl (fun _ => nI 0)))]) (nA := 2) hC V hl.1 (p_X7_bestRound l D T ox (xs 1) (xs 2) n0 s0 im iz rw t0 u0 h0 y0 n1 n2 n3 n4 n5 n6 n7 n8 n9 n10 h1 h2 h3) w_652 w_653 w_654 w_2 w_655 (by decide +kernel) rfl ⟨(Nat.le_of_ble_eq_true rfl), (Nat.le_of_ble_eq_true rfl)⟩ 0 (ci := 7) rfl rfl [0, 1, 2, 3, 4] [5, 6, 7] rfl rfl rfl rfl (by decide) (Nat.le_of_ble_eq_true rfl) dL_law_873 ⟨(Nat.le_of_ble_eq_true rfl), (Nat.le_of_ble_eq_true rfl)⟩ rfl (fun r w1 H locs hQ V => ?_)
  obtain ⟨z_1, rfl, rfl, f_2⟩ := hQ
  have V : gW D T A s [(o, .inr (8, [.int (nI 0), .ref g1, .ref g2, .ref g3, .ref g4, .int (nI 0), .int (nI 0), .int (nI 0), .int (nI 0), .int (nI 0), .int (nI 0), .int (nI 0), .int (nI 0), .int (nI 0), .int (-1), .ref g15, .int (nI 0), .ref g17, .int (nI 0), .int (nI 0), .ref g20, .int (nI 0), .ref g22, .ref g23, .ref g24, .int (nI 0), .int (nI 0), .int (nI 0), .ref g28, .ref g29, .int (nI 0), .ref g31, .ref g32, .ref g33])), (g1, .inl (T 0, 282, .inl (upd (fun _ => nI 0) 2 (nI 20)))), (g17, .inl (T 0, 94, .inl (fun _ => nI 0)))] H locs := V
  show W p l e _ s m args below meth c H locs _ _ _ (F0 m 876 ls [.int z_1])
  refine lv_aload_n hx hb dL_law_876 rfl (lv_at hl 1 rfl) ?_
  refine lv_aload_n hx hb dL_law_877 rfl (lv_at hl 3 rfl) ?_
  refine lv_iload_n hx hb dL_law_878 rfl (lv_at hl 0 rfl) ?_
  refine lv_iconst (v := (nI 1)) hx hb dL_law_879 (by decide +kernel) ?_
  refine lv_iadd hx hb dL_law_880 ?_
  refine g_vi (y := (nI 1)) (by decide +kernel) ?_
  refine va_sld hx hb hX hbl hbA V.2.2.2.1 (vp_in_nI (by decide) (by decide)) dL_law_881 ?_
  refine g_vi (y := xs 1) (congrArg xs (nI_clamp (by decide))) ?_
  refine lv_aload_n hx hb dL_law_882 rfl (lv_at hl 3 rfl) ?_
  refine lv_iload_n hx hb dL_law_883 rfl (lv_at hl 0 rfl) ?_
  refine lv_iconst (v := (nI 2)) hx hb dL_law_884 (by decide +kernel) ?_
  refine lv_iadd hx hb dL_law_885 ?_
  refine g_vi (y := (nI 2)) (by decide +kernel) ?_
  refine va_sld hx hb hX hbl hbA V.2.2.2.1 (vp_in_nI (by decide) (by decide)) dL_law_886 ?_
  refine g_vi (y := xs 2) (congrArg xs (nI_clamp (by decide))) ?_
  refine g_callV (wr := []) (nA := 2) hC V hl.1 (pm_bestRound l D T o (xs 1) (xs 2) g1 g2 g3 g4 g15 g17 g20 g22 g23 g24 g28 g29 g31 g32 g33) w_1253 w_1254 w_1255 w_9 w_1256 (by decide +kernel) rfl ⟨(Nat.le_of_ble_eq_true rfl), (Nat.le_of_ble_eq_true rfl)⟩ 0 (ci := 8) rfl rfl [0, 1, 2] [] rfl rfl rfl rfl (by decide) (Nat.le_of_ble_eq_true rfl) dL_law_887 ⟨(Nat.le_of_ble_eq_true rfl), (Nat.le_of_ble_eq_true rfl)⟩ rfl (fun r w1 H locs hQ V => ?_)
  obtain ⟨z_3, rfl, rfl, f_4⟩ := hQ
  have V : gW D T A s [] H locs := V
  show W p l e _ s m args below meth c H locs _ _ _ (F0 m 890 ls [.int z_3, .int z_1])
  refine lv_icmp_eq (tgt := 1479) hx hb dL_law_890 (by decide) (fun c_5 => ?_) (fun c_5 => ?_)
  · skip
    exact hE _ _ _ V.2.2.2.1 (lv_sub hl [0, 1, 2, 3] rfl)
  · exact (c_5 (f_2.trans f_4.symm)).elim

set_option maxHeartbeats 4000000 in
set_option maxRecDepth 100000 in
theorem lk_23 {p : Program} {e : Env} {s : State} {m : MethodId} {args : Array Value} {below : List Frame} {meth : Method} {c : Code} {Q : State → Prop} (l : Launch) {b : Nat} {xs : Nat → Int32} {D : va_G} {T : Nat → ClassId} {A : Nat → Prop} (ox n0 n1 n2 n3 n4 n5 n6 n7 n8 n9 n10 s0 s1 s2 s3 s4 s5 s6 s7 s8 s9 s10 im iz rw t0 t1 u0 h0 h1 h2 h3 y0 y1 y2 i0 i1 i2 i3 i4 i5 i6 i7 i8 i9 i10 j0 j1 j2 j3 j4 j5 j6 j7 j8 j9 j10 ra0 ra1 rb0 rb1 rc0 rc1 rd0 rd1 o g1 g2 g3 g4 g15 g17 g20 g22 g23 g24 g28 g29 g31 g32 g33 : Nat) (hC : cX p s m args meth c RL cL_law 4 (some .boolean)) (hX : va_X b 6 xs s s.heap) (hbl : b < s.heap.size) (hbA : ¬ A b) (hE : ∀ (H : Heap) (locs : List Loc) (ls : Array Slot), va_S A s.heap H locs → lv_has ls 4 [(3, .int (nI 0)), (2, .ref o), (1, .ref ox), (0, .ref b)] → W p l e room_1 s m args below meth c H locs 82 14431 Q (F0 m 1479 ls [])) {H : Heap} {locs : List Loc} {ls : Array Slot} (V : gW D T A s (lwW T ox n0 n1 n2 n3 n4 n5 n6 n7 n8 n9 n10 s0 s1 s2 s3 s4 s5 s6 s7 s8 s9 s10 im iz rw t0 t1 u0 h0 h1 h2 h3 y0 y1 y2 i0 i1 i2 i3 i4 i5 i6 i7 i8 i9 i10 j0 j1 j2 j3 j4 j5 j6 j7 j8 j9 j10 ra0 ra1 rb0 rb1 rc0 rc1 rd0 rd1 o g1 g2 g3 g4 g15 g17 g20 g22 g23 g24 g28 g29 g31 g32 g33) H locs) (hl : lv_has ls 4 [(3, .int (nI 0)), (2, .ref o), (1, .ref ox), (0, .ref b)]) : W p l e room_1 s m args below meth c H locs 82 14431 Q (F0 m 895 ls []) := by
  obtain ⟨hx, hb, hr, hml, hown, hts, hlocks⟩ := id hC
  have V := V.sub (ws' := [(ox, .inr (7, [.ref n0, .ref s0, .ref im, .ref iz, .ref rw, .ref t0, .ref u0, .ref h0, .ref y0, .null])), (n0, .inr (5, [.int (nI 0), .int (nI 0), .int (nI 0), .int (nI 20), .int (nI 0), .ref n1, .ref n2, .ref n3, .ref n4, .ref n5, .ref n6, .ref n7, .ref n8, .ref n9, .ref n10])), (o, .inr (8, [.int (nI 0), .ref g1, .ref g2, .ref g3, .ref g4, .int (nI 0), .int (nI 0), .int (nI 0), .int (nI 0), .int (nI 0), .int (nI 0), .int (nI 0), .int (nI 0), .int (nI 0), .int (-1), .ref g15, .int (nI 0), .ref g17, .int (nI 0), .int (nI 0), .ref g20, .int (nI 0), .ref g22, .ref g23, .ref g24, .int (nI 0), .int (nI 0), .int (nI 0), .ref g28, .ref g29, .int (nI 0), .ref g31, .ref g32, .ref g33])), (g1, .inl (T 0, 282, .inl (upd (fun _ => nI 0) 2 (nI 20))))]) [0, 1, 66, 67] rfl rfl
  refine lv_aload_n hx hb dL_law_895 rfl (lv_at hl 2 rfl) ?_
  refine lv_aload_n hx hb dL_law_896 rfl (lv_at hl 3 rfl) ?_
  refine lv_iload_n hx hb dL_law_897 rfl (lv_at hl 0 rfl) ?_
  refine lv_iconst (v := (nI 1)) hx hb dL_law_898 (by decide +kernel) ?_
  refine lv_iadd hx hb dL_law_899 ?_
  refine g_vi (y := (nI 1)) (by decide +kernel) ?_
  refine va_sld hx hb hX hbl hbA V.2.2.2.1 (vp_in_nI (by decide) (by decide)) dL_law_900 ?_
  refine g_vi (y := xs 1) (congrArg xs (nI_clamp (by decide))) ?_
  refine g_callV (wr := [(o, .inr (8, [.int (nI 0), .ref g1, .ref g2, .ref g3, .ref g4, .int (nI 0), .int (nI 0), .int (nI 0), .int (nI 0), .int (nI 0), .int (nI 0), .int (nI 0), .int (nI 0), .int (nI 0), .int (-1), .ref g15, .int (nI 0), .ref g17, .int (nI 0), .int (nI 0), .ref g20, .int (nI 0), .ref g22, .ref g23, .ref g24, .int (nI 0), .int (nI 0), .int (nI 0), .ref g28, .ref g29, .int (nI 0), .ref g31, .ref g32, .ref g33])), (g1, .inl (T 0, 282, .inl (upd (fun _ => nI 0) 2 (nI 20))))]) (nA := 1) hC V hl.1 (p_X7_peace l D T ox (xs 1) n0 s0 im iz rw t0 u0 h0 y0 n1 n2 n3 n4 n5 n6 n7 n8 n9 n10) w_673 w_674 w_675 w_2 w_676 (by decide +kernel) rfl ⟨(Nat.le_of_ble_eq_true rfl), (Nat.le_of_ble_eq_true rfl)⟩ 0 (ci := 7) rfl rfl [0, 1] [2, 3] rfl rfl rfl rfl (by decide) (Nat.le_of_ble_eq_true rfl) dL_law_901 ⟨(Nat.le_of_ble_eq_true rfl), (Nat.le_of_ble_eq_true rfl)⟩ rfl (fun r w1 H locs hQ V => ?_)
  obtain ⟨z_1, rfl, rfl, f_2⟩ := hQ
  have V : gW D T A s [(o, .inr (8, [.int (nI 0), .ref g1, .ref g2, .ref g3, .ref g4, .int (nI 0), .int (nI 0), .int (nI 0), .int (nI 0), .int (nI 0), .int (nI 0), .int (nI 0), .int (nI 0), .int (nI 0), .int (-1), .ref g15, .int (nI 0), .ref g17, .int (nI 0), .int (nI 0), .ref g20, .int (nI 0), .ref g22, .ref g23, .ref g24, .int (nI 0), .int (nI 0), .int (nI 0), .ref g28, .ref g29, .int (nI 0), .ref g31, .ref g32, .ref g33])), (g1, .inl (T 0, 282, .inl (upd (fun _ => nI 0) 2 (nI 20))))] H locs := V
  show W p l e _ s m args below meth c H locs _ _ _ (F0 m 904 ls [.int z_1])
  refine lv_aload_n hx hb dL_law_904 rfl (lv_at hl 1 rfl) ?_
  refine lv_aload_n hx hb dL_law_905 rfl (lv_at hl 3 rfl) ?_
  refine lv_iload_n hx hb dL_law_906 rfl (lv_at hl 0 rfl) ?_
  refine lv_iconst (v := (nI 1)) hx hb dL_law_907 (by decide +kernel) ?_
  refine lv_iadd hx hb dL_law_908 ?_
  refine g_vi (y := (nI 1)) (by decide +kernel) ?_
  refine va_sld hx hb hX hbl hbA V.2.2.2.1 (vp_in_nI (by decide) (by decide)) dL_law_909 ?_
  refine g_vi (y := xs 1) (congrArg xs (nI_clamp (by decide))) ?_
  refine g_callV (wr := []) (nA := 1) hC V hl.1 (pm_peace l D T o (xs 1) g1 g2 g3 g4 g15 g17 g20 g22 g23 g24 g28 g29 g31 g32 g33) w_1261 w_1262 w_1263 w_9 w_1264 (by decide +kernel) rfl ⟨(Nat.le_of_ble_eq_true rfl), (Nat.le_of_ble_eq_true rfl)⟩ 0 (ci := 8) rfl rfl [0, 1] [] rfl rfl rfl rfl (by decide) (Nat.le_of_ble_eq_true rfl) dL_law_910 ⟨(Nat.le_of_ble_eq_true rfl), (Nat.le_of_ble_eq_true rfl)⟩ rfl (fun r w1 H locs hQ V => ?_)
  obtain ⟨z_3, rfl, rfl, f_4⟩ := hQ
  have V : gW D T A s [] H locs := V
  show W p l e _ s m args below meth c H locs _ _ _ (F0 m 913 ls [.int z_3, .int z_1])
  refine lv_icmp_eq (tgt := 1479) hx hb dL_law_913 (by decide) (fun c_5 => ?_) (fun c_5 => ?_)
  · skip
    exact hE _ _ _ V.2.2.2.1 (lv_sub hl [0, 1, 2, 3] rfl)
  · exact (c_5 (f_2.trans f_4.symm)).elim

set_option maxHeartbeats 4000000 in
set_option maxRecDepth 100000 in
theorem lk_24 {p : Program} {e : Env} {s : State} {m : MethodId} {args : Array Value} {below : List Frame} {meth : Method} {c : Code} {Q : State → Prop} (l : Launch) {b : Nat} {xs : Nat → Int32} {D : va_G} {T : Nat → ClassId} {A : Nat → Prop} (ox n0 n1 n2 n3 n4 n5 n6 n7 n8 n9 n10 s0 s1 s2 s3 s4 s5 s6 s7 s8 s9 s10 im iz rw t0 t1 u0 h0 h1 h2 h3 y0 y1 y2 i0 i1 i2 i3 i4 i5 i6 i7 i8 i9 i10 j0 j1 j2 j3 j4 j5 j6 j7 j8 j9 j10 ra0 ra1 rb0 rb1 rc0 rc1 rd0 rd1 o g1 g2 g3 g4 g15 g17 g20 g22 g23 g24 g28 g29 g31 g32 g33 : Nat) (hC : cX p s m args meth c RL cL_law 4 (some .boolean)) (hX : va_X b 6 xs s s.heap) (hbl : b < s.heap.size) (hbA : ¬ A b) (hE : ∀ (H : Heap) (locs : List Loc) (ls : Array Slot), va_S A s.heap H locs → lv_has ls 4 [(3, .int (nI 0)), (2, .ref o), (1, .ref ox), (0, .ref b)] → W p l e room_1 s m args below meth c H locs 82 14431 Q (F0 m 1479 ls [])) {H : Heap} {locs : List Loc} {ls : Array Slot} (V : gW D T A s (lwW T ox n0 n1 n2 n3 n4 n5 n6 n7 n8 n9 n10 s0 s1 s2 s3 s4 s5 s6 s7 s8 s9 s10 im iz rw t0 t1 u0 h0 h1 h2 h3 y0 y1 y2 i0 i1 i2 i3 i4 i5 i6 i7 i8 i9 i10 j0 j1 j2 j3 j4 j5 j6 j7 j8 j9 j10 ra0 ra1 rb0 rb1 rc0 rc1 rd0 rd1 o g1 g2 g3 g4 g15 g17 g20 g22 g23 g24 g28 g29 g31 g32 g33) H locs) (hl : lv_has ls 4 [(3, .int (nI 0)), (2, .ref o), (1, .ref ox), (0, .ref b)]) : W p l e room_1 s m args below meth c H locs 82 14431 Q (F0 m 918 ls []) := by
  obtain ⟨hx, hb, hr, hml, hown, hts, hlocks⟩ := id hC
  have V := V.sub (ws' := [(ox, .inr (7, [.ref n0, .ref s0, .ref im, .ref iz, .ref rw, .ref t0, .ref u0, .ref h0, .ref y0, .null])), (n0, .inr (5, [.int (nI 0), .int (nI 0), .int (nI 0), .int (nI 20), .int (nI 0), .ref n1, .ref n2, .ref n3, .ref n4, .ref n5, .ref n6, .ref n7, .ref n8, .ref n9, .ref n10])), (o, .inr (8, [.int (nI 0), .ref g1, .ref g2, .ref g3, .ref g4, .int (nI 0), .int (nI 0), .int (nI 0), .int (nI 0), .int (nI 0), .int (nI 0), .int (nI 0), .int (nI 0), .int (nI 0), .int (-1), .ref g15, .int (nI 0), .ref g17, .int (nI 0), .int (nI 0), .ref g20, .int (nI 0), .ref g22, .ref g23, .ref g24, .int (nI 0), .int (nI 0), .int (nI 0), .ref g28, .ref g29, .int (nI 0), .ref g31, .ref g32, .ref g33])), (g1, .inl (T 0, 282, .inl (upd (fun _ => nI 0) 2 (nI 20))))]) [0, 1, 66, 67] rfl rfl
  refine lv_aload_n hx hb dL_law_918 rfl (lv_at hl 2 rfl) ?_
  refine lv_aload_n hx hb dL_law_919 rfl (lv_at hl 3 rfl) ?_
  refine lv_iload_n hx hb dL_law_920 rfl (lv_at hl 0 rfl) ?_
  refine lv_iconst (v := (nI 1)) hx hb dL_law_921 (by decide +kernel) ?_
  refine lv_iadd hx hb dL_law_922 ?_
  refine g_vi (y := (nI 1)) (by decide +kernel) ?_
  refine va_sld hx hb hX hbl hbA V.2.2.2.1 (vp_in_nI (by decide) (by decide)) dL_law_923 ?_
  refine g_vi (y := xs 1) (congrArg xs (nI_clamp (by decide))) ?_
  refine g_callV (wr := [(o, .inr (8, [.int (nI 0), .ref g1, .ref g2, .ref g3, .ref g4, .int (nI 0), .int (nI 0), .int (nI 0), .int (nI 0), .int (nI 0), .int (nI 0), .int (nI 0), .int (nI 0), .int (nI 0), .int (-1), .ref g15, .int (nI 0), .ref g17, .int (nI 0), .int (nI 0), .ref g20, .int (nI 0), .ref g22, .ref g23, .ref g24, .int (nI 0), .int (nI 0), .int (nI 0), .ref g28, .ref g29, .int (nI 0), .ref g31, .ref g32, .ref g33])), (g1, .inl (T 0, 282, .inl (upd (fun _ => nI 0) 2 (nI 20))))]) (nA := 1) hC V hl.1 (p_X7_selfish l D T ox (xs 1) n0 s0 im iz rw t0 u0 h0 y0 n1 n2 n3 n4 n5 n6 n7 n8 n9 n10) w_683 w_684 w_685 w_2 w_686 (by decide +kernel) rfl ⟨(Nat.le_of_ble_eq_true rfl), (Nat.le_of_ble_eq_true rfl)⟩ 0 (ci := 7) rfl rfl [0, 1] [2, 3] rfl rfl rfl rfl (by decide) (Nat.le_of_ble_eq_true rfl) dL_law_924 ⟨(Nat.le_of_ble_eq_true rfl), (Nat.le_of_ble_eq_true rfl)⟩ rfl (fun r w1 H locs hQ V => ?_)
  obtain ⟨z_1, rfl, rfl, f_2⟩ := hQ
  have V : gW D T A s [(o, .inr (8, [.int (nI 0), .ref g1, .ref g2, .ref g3, .ref g4, .int (nI 0), .int (nI 0), .int (nI 0), .int (nI 0), .int (nI 0), .int (nI 0), .int (nI 0), .int (nI 0), .int (nI 0), .int (-1), .ref g15, .int (nI 0), .ref g17, .int (nI 0), .int (nI 0), .ref g20, .int (nI 0), .ref g22, .ref g23, .ref g24, .int (nI 0), .int (nI 0), .int (nI 0), .ref g28, .ref g29, .int (nI 0), .ref g31, .ref g32, .ref g33])), (g1, .inl (T 0, 282, .inl (upd (fun _ => nI 0) 2 (nI 20))))] H locs := V
  show W p l e _ s m args below meth c H locs _ _ _ (F0 m 927 ls [.int z_1])
  refine lv_aload_n hx hb dL_law_927 rfl (lv_at hl 1 rfl) ?_
  refine lv_aload_n hx hb dL_law_928 rfl (lv_at hl 3 rfl) ?_
  refine lv_iload_n hx hb dL_law_929 rfl (lv_at hl 0 rfl) ?_
  refine lv_iconst (v := (nI 1)) hx hb dL_law_930 (by decide +kernel) ?_
  refine lv_iadd hx hb dL_law_931 ?_
  refine g_vi (y := (nI 1)) (by decide +kernel) ?_
  refine va_sld hx hb hX hbl hbA V.2.2.2.1 (vp_in_nI (by decide) (by decide)) dL_law_932 ?_
  refine g_vi (y := xs 1) (congrArg xs (nI_clamp (by decide))) ?_
  refine g_callV (wr := []) (nA := 1) hC V hl.1 (pm_selfish l D T o (xs 1) g1 g2 g3 g4 g15 g17 g20 g22 g23 g24 g28 g29 g31 g32 g33) w_1273 w_1274 w_1275 w_9 w_1276 (by decide +kernel) rfl ⟨(Nat.le_of_ble_eq_true rfl), (Nat.le_of_ble_eq_true rfl)⟩ 0 (ci := 8) rfl rfl [0, 1] [] rfl rfl rfl rfl (by decide) (Nat.le_of_ble_eq_true rfl) dL_law_933 ⟨(Nat.le_of_ble_eq_true rfl), (Nat.le_of_ble_eq_true rfl)⟩ rfl (fun r w1 H locs hQ V => ?_)
  obtain ⟨z_3, rfl, rfl, f_4⟩ := hQ
  have V : gW D T A s [] H locs := V
  show W p l e _ s m args below meth c H locs _ _ _ (F0 m 936 ls [.int z_3, .int z_1])
  refine lv_icmp_eq (tgt := 1479) hx hb dL_law_936 (by decide) (fun c_5 => ?_) (fun c_5 => ?_)
  · skip
    exact hE _ _ _ V.2.2.2.1 (lv_sub hl [0, 1, 2, 3] rfl)
  · exact (c_5 (f_2.trans f_4.symm)).elim

set_option maxHeartbeats 4000000 in
set_option maxRecDepth 100000 in
theorem lk_25 {p : Program} {e : Env} {s : State} {m : MethodId} {args : Array Value} {below : List Frame} {meth : Method} {c : Code} {Q : State → Prop} (l : Launch) {b : Nat} {xs : Nat → Int32} {D : va_G} {T : Nat → ClassId} {A : Nat → Prop} (ox n0 n1 n2 n3 n4 n5 n6 n7 n8 n9 n10 s0 s1 s2 s3 s4 s5 s6 s7 s8 s9 s10 im iz rw t0 t1 u0 h0 h1 h2 h3 y0 y1 y2 i0 i1 i2 i3 i4 i5 i6 i7 i8 i9 i10 j0 j1 j2 j3 j4 j5 j6 j7 j8 j9 j10 ra0 ra1 rb0 rb1 rc0 rc1 rd0 rd1 o g1 g2 g3 g4 g15 g17 g20 g22 g23 g24 g28 g29 g31 g32 g33 : Nat) (hC : cX p s m args meth c RL cL_law 4 (some .boolean)) (hX : va_X b 6 xs s s.heap) (hbl : b < s.heap.size) (hbA : ¬ A b) (hE : ∀ (H : Heap) (locs : List Loc) (ls : Array Slot), va_S A s.heap H locs → lv_has ls 4 [(3, .int (nI 0)), (2, .ref o), (1, .ref ox), (0, .ref b)] → W p l e room_1 s m args below meth c H locs 82 14431 Q (F0 m 1479 ls [])) {H : Heap} {locs : List Loc} {ls : Array Slot} (V : gW D T A s (lwW T ox n0 n1 n2 n3 n4 n5 n6 n7 n8 n9 n10 s0 s1 s2 s3 s4 s5 s6 s7 s8 s9 s10 im iz rw t0 t1 u0 h0 h1 h2 h3 y0 y1 y2 i0 i1 i2 i3 i4 i5 i6 i7 i8 i9 i10 j0 j1 j2 j3 j4 j5 j6 j7 j8 j9 j10 ra0 ra1 rb0 rb1 rc0 rc1 rd0 rd1 o g1 g2 g3 g4 g15 g17 g20 g22 g23 g24 g28 g29 g31 g32 g33) H locs) (hl : lv_has ls 4 [(3, .int (nI 0)), (2, .ref o), (1, .ref ox), (0, .ref b)]) : W p l e room_1 s m args below meth c H locs 82 14431 Q (F0 m 941 ls []) := by
  obtain ⟨hx, hb, hr, hml, hown, hts, hlocks⟩ := id hC
  have V := V.sub (ws' := [(ox, .inr (7, [.ref n0, .ref s0, .ref im, .ref iz, .ref rw, .ref t0, .ref u0, .ref h0, .ref y0, .null])), (n0, .inr (5, [.int (nI 0), .int (nI 0), .int (nI 0), .int (nI 20), .int (nI 0), .ref n1, .ref n2, .ref n3, .ref n4, .ref n5, .ref n6, .ref n7, .ref n8, .ref n9, .ref n10])), (o, .inr (8, [.int (nI 0), .ref g1, .ref g2, .ref g3, .ref g4, .int (nI 0), .int (nI 0), .int (nI 0), .int (nI 0), .int (nI 0), .int (nI 0), .int (nI 0), .int (nI 0), .int (nI 0), .int (-1), .ref g15, .int (nI 0), .ref g17, .int (nI 0), .int (nI 0), .ref g20, .int (nI 0), .ref g22, .ref g23, .ref g24, .int (nI 0), .int (nI 0), .int (nI 0), .ref g28, .ref g29, .int (nI 0), .ref g31, .ref g32, .ref g33])), (g1, .inl (T 0, 282, .inl (upd (fun _ => nI 0) 2 (nI 20))))]) [0, 1, 66, 67] rfl rfl
  refine lv_aload_n hx hb dL_law_941 rfl (lv_at hl 2 rfl) ?_
  refine g_callV (wr := [(o, .inr (8, [.int (nI 0), .ref g1, .ref g2, .ref g3, .ref g4, .int (nI 0), .int (nI 0), .int (nI 0), .int (nI 0), .int (nI 0), .int (nI 0), .int (nI 0), .int (nI 0), .int (nI 0), .int (-1), .ref g15, .int (nI 0), .ref g17, .int (nI 0), .int (nI 0), .ref g20, .int (nI 0), .ref g22, .ref g23, .ref g24, .int (nI 0), .int (nI 0), .int (nI 0), .ref g28, .ref g29, .int (nI 0), .ref g31, .ref g32, .ref g33])), (g1, .inl (T 0, 282, .inl (upd (fun _ => nI 0) 2 (nI 20))))]) (nA := 0) hC V hl.1 (p_X7_soonest l D T ox n0 s0 im iz rw t0 u0 h0 y0 n1 n2 n3 n4 n5 n6 n7 n8 n9 n10) w_703 w_704 w_705 w_2 w_706 (by decide +kernel) rfl ⟨(Nat.le_of_ble_eq_true rfl), (Nat.le_of_ble_eq_true rfl)⟩ 0 (ci := 7) rfl rfl [0, 1] [2, 3] rfl rfl rfl rfl (by decide) (Nat.le_of_ble_eq_true rfl) dL_law_942 ⟨(Nat.le_of_ble_eq_true rfl), (Nat.le_of_ble_eq_true rfl)⟩ rfl (fun r w1 H locs hQ V => ?_)
  obtain ⟨z_1, rfl, rfl, f_2⟩ := hQ
  have V : gW D T A s [(o, .inr (8, [.int (nI 0), .ref g1, .ref g2, .ref g3, .ref g4, .int (nI 0), .int (nI 0), .int (nI 0), .int (nI 0), .int (nI 0), .int (nI 0), .int (nI 0), .int (nI 0), .int (nI 0), .int (-1), .ref g15, .int (nI 0), .ref g17, .int (nI 0), .int (nI 0), .ref g20, .int (nI 0), .ref g22, .ref g23, .ref g24, .int (nI 0), .int (nI 0), .int (nI 0), .ref g28, .ref g29, .int (nI 0), .ref g31, .ref g32, .ref g33])), (g1, .inl (T 0, 282, .inl (upd (fun _ => nI 0) 2 (nI 20))))] H locs := V
  show W p l e _ s m args below meth c H locs _ _ _ (F0 m 945 ls [.int z_1])
  refine lv_aload_n hx hb dL_law_945 rfl (lv_at hl 1 rfl) ?_
  refine g_callV (wr := []) (nA := 0) hC V hl.1 (pm_soonest l D T o g1 g2 g3 g4 g15 g17 g20 g22 g23 g24 g28 g29 g31 g32 g33) w_1277 w_1278 w_1279 w_9 w_1280 (by decide +kernel) rfl ⟨(Nat.le_of_ble_eq_true rfl), (Nat.le_of_ble_eq_true rfl)⟩ 0 (ci := 8) rfl rfl [0, 1] [] rfl rfl rfl rfl (by decide) (Nat.le_of_ble_eq_true rfl) dL_law_946 ⟨(Nat.le_of_ble_eq_true rfl), (Nat.le_of_ble_eq_true rfl)⟩ rfl (fun r w1 H locs hQ V => ?_)
  obtain ⟨z_3, rfl, rfl, f_4⟩ := hQ
  have V : gW D T A s [] H locs := V
  show W p l e _ s m args below meth c H locs _ _ _ (F0 m 949 ls [.int z_3, .int z_1])
  refine lv_icmp_eq (tgt := 1479) hx hb dL_law_949 (by decide) (fun c_5 => ?_) (fun c_5 => ?_)
  · skip
    exact hE _ _ _ V.2.2.2.1 (lv_sub hl [0, 1, 2, 3] rfl)
  · exact (c_5 (f_2.trans f_4.symm)).elim

set_option maxHeartbeats 4000000 in
set_option maxRecDepth 100000 in
theorem lk_26 {p : Program} {e : Env} {s : State} {m : MethodId} {args : Array Value} {below : List Frame} {meth : Method} {c : Code} {Q : State → Prop} (l : Launch) {b : Nat} {xs : Nat → Int32} {D : va_G} {T : Nat → ClassId} {A : Nat → Prop} (ox n0 n1 n2 n3 n4 n5 n6 n7 n8 n9 n10 s0 s1 s2 s3 s4 s5 s6 s7 s8 s9 s10 im iz rw t0 t1 u0 h0 h1 h2 h3 y0 y1 y2 i0 i1 i2 i3 i4 i5 i6 i7 i8 i9 i10 j0 j1 j2 j3 j4 j5 j6 j7 j8 j9 j10 ra0 ra1 rb0 rb1 rc0 rc1 rd0 rd1 o g1 g2 g3 g4 g15 g17 g20 g22 g23 g24 g28 g29 g31 g32 g33 : Nat) (hC : cX p s m args meth c RL cL_law 4 (some .boolean)) (hX : va_X b 6 xs s s.heap) (hbl : b < s.heap.size) (hbA : ¬ A b) (hE : ∀ (H : Heap) (locs : List Loc) (ls : Array Slot), va_S A s.heap H locs → lv_has ls 4 [(3, .int (nI 0)), (2, .ref o), (1, .ref ox), (0, .ref b)] → W p l e room_1 s m args below meth c H locs 82 14431 Q (F0 m 1479 ls [])) {H : Heap} {locs : List Loc} {ls : Array Slot} (V : gW D T A s (lwW T ox n0 n1 n2 n3 n4 n5 n6 n7 n8 n9 n10 s0 s1 s2 s3 s4 s5 s6 s7 s8 s9 s10 im iz rw t0 t1 u0 h0 h1 h2 h3 y0 y1 y2 i0 i1 i2 i3 i4 i5 i6 i7 i8 i9 i10 j0 j1 j2 j3 j4 j5 j6 j7 j8 j9 j10 ra0 ra1 rb0 rb1 rc0 rc1 rd0 rd1 o g1 g2 g3 g4 g15 g17 g20 g22 g23 g24 g28 g29 g31 g32 g33) H locs) (hl : lv_has ls 4 [(3, .int (nI 0)), (2, .ref o), (1, .ref ox), (0, .ref b)]) : W p l e room_1 s m args below meth c H locs 82 14431 Q (F0 m 954 ls []) := by
  obtain ⟨hx, hb, hr, hml, hown, hts, hlocks⟩ := id hC
  have V := V.sub (ws' := [(ox, .inr (7, [.ref n0, .ref s0, .ref im, .ref iz, .ref rw, .ref t0, .ref u0, .ref h0, .ref y0, .null])), (rw, .inl (T 5, 4, .inr (.inr (.inr (.inr (va_up (va_up (va_up (va_up (fun _ => none) 0 (some ra0)) 1 (some rb0)) 2 (some rc0)) 3 (some rd0))))))), (ra0, .inr (1, [.int (nI 0), .int (nI 0), .ref ra1, .int (nI 0)])), (ra1, .inl (T 1, 40, .inr (.inl (fun _ => 0)))), (rb0, .inr (1, [.int (nI 0), .int (nI 0), .ref rb1, .int (nI 0)])), (rb1, .inl (T 1, 40, .inr (.inl (fun _ => 0)))), (rc0, .inr (1, [.int (nI 0), .int (nI 0), .ref rc1, .int (nI 0)])), (rc1, .inl (T 1, 40, .inr (.inl (fun _ => 0)))), (rd0, .inr (1, [.int (nI 0), .int (nI 0), .ref rd1, .int (nI 0)])), (rd1, .inl (T 1, 40, .inr (.inl (fun _ => 0)))), (o, .inr (8, [.int (nI 0), .ref g1, .ref g2, .ref g3, .ref g4, .int (nI 0), .int (nI 0), .int (nI 0), .int (nI 0), .int (nI 0), .int (nI 0), .int (nI 0), .int (nI 0), .int (nI 0), .int (-1), .ref g15, .int (nI 0), .ref g17, .int (nI 0), .int (nI 0), .ref g20, .int (nI 0), .ref g22, .ref g23, .ref g24, .int (nI 0), .int (nI 0), .int (nI 0), .ref g28, .ref g29, .int (nI 0), .ref g31, .ref g32, .ref g33])), (g31, .inl (T 0, 4, .inl (upd (upd (upd (upd (fun _ => nI 0) 0 (-1)) 1 (-1)) 2 (-1)) 3 (-1))))]) [0, 25, 58, 59, 60, 61, 62, 63, 64, 65, 66, 79] rfl rfl
  refine lv_aload_n hx hb dL_law_954 rfl (lv_at hl 2 rfl) ?_
  refine lv_aload_n hx hb dL_law_955 rfl (lv_at hl 3 rfl) ?_
  refine lv_iload_n hx hb dL_law_956 rfl (lv_at hl 0 rfl) ?_
  refine lv_iconst (v := (nI 1)) hx hb dL_law_957 (by decide +kernel) ?_
  refine lv_iadd hx hb dL_law_958 ?_
  refine g_vi (y := (nI 1)) (by decide +kernel) ?_
  refine va_sld hx hb hX hbl hbA V.2.2.2.1 (vp_in_nI (by decide) (by decide)) dL_law_959 ?_
  refine g_vi (y := xs 1) (congrArg xs (nI_clamp (by decide))) ?_
  refine g_callV (wr := [(o, .inr (8, [.int (nI 0), .ref g1, .ref g2, .ref g3, .ref g4, .int (nI 0), .int (nI 0), .int (nI 0), .int (nI 0), .int (nI 0), .int (nI 0), .int (nI 0), .int (nI 0), .int (nI 0), .int (-1), .ref g15, .int (nI 0), .ref g17, .int (nI 0), .int (nI 0), .ref g20, .int (nI 0), .ref g22, .ref g23, .ref g24, .int (nI 0), .int (nI 0), .int (nI 0), .ref g28, .ref g29, .int (nI 0), .ref g31, .ref g32, .ref g33])), (g31, .inl (T 0, 4, .inl (upd (upd (upd (upd (fun _ => nI 0) 0 (-1)) 1 (-1)) 2 (-1)) 3 (-1))))]) (nA := 1) hC V hl.1 (p_X7_seen l D T ox (xs 1) n0 s0 im iz rw t0 u0 h0 y0 ra0 rb0 rc0 rd0 ra1 rb1 rc1 rd1) w_783 w_784 w_785 w_2 w_786 (by decide +kernel) rfl ⟨(Nat.le_of_ble_eq_true rfl), (Nat.le_of_ble_eq_true rfl)⟩ 0 (ci := 7) rfl rfl [0, 1, 2, 3, 4, 5, 6, 7, 8, 9] [10, 11] rfl rfl rfl rfl (by decide) (Nat.le_of_ble_eq_true rfl) dL_law_960 ⟨(Nat.le_of_ble_eq_true rfl), (Nat.le_of_ble_eq_true rfl)⟩ rfl (fun r w1 H locs hQ V => ?_)
  obtain ⟨z_1, rfl, rfl, f_2⟩ := hQ
  have V : gW D T A s [(o, .inr (8, [.int (nI 0), .ref g1, .ref g2, .ref g3, .ref g4, .int (nI 0), .int (nI 0), .int (nI 0), .int (nI 0), .int (nI 0), .int (nI 0), .int (nI 0), .int (nI 0), .int (nI 0), .int (-1), .ref g15, .int (nI 0), .ref g17, .int (nI 0), .int (nI 0), .ref g20, .int (nI 0), .ref g22, .ref g23, .ref g24, .int (nI 0), .int (nI 0), .int (nI 0), .ref g28, .ref g29, .int (nI 0), .ref g31, .ref g32, .ref g33])), (g31, .inl (T 0, 4, .inl (upd (upd (upd (upd (fun _ => nI 0) 0 (-1)) 1 (-1)) 2 (-1)) 3 (-1))))] H locs := V
  show W p l e _ s m args below meth c H locs _ _ _ (F0 m 963 ls [.int z_1])
  refine lv_aload_n hx hb dL_law_963 rfl (lv_at hl 1 rfl) ?_
  refine lv_aload_n hx hb dL_law_964 rfl (lv_at hl 3 rfl) ?_
  refine lv_iload_n hx hb dL_law_965 rfl (lv_at hl 0 rfl) ?_
  refine lv_iconst (v := (nI 1)) hx hb dL_law_966 (by decide +kernel) ?_
  refine lv_iadd hx hb dL_law_967 ?_
  refine g_vi (y := (nI 1)) (by decide +kernel) ?_
  refine va_sld hx hb hX hbl hbA V.2.2.2.1 (vp_in_nI (by decide) (by decide)) dL_law_968 ?_
  refine g_vi (y := xs 1) (congrArg xs (nI_clamp (by decide))) ?_
  refine g_callV (wr := []) (nA := 1) hC V hl.1 (pm_seen l D T o (xs 1) g1 g2 g3 g4 g15 g17 g20 g22 g23 g24 g28 g29 g31 g32 g33) w_1300 w_1301 w_1302 w_9 w_1303 (by decide +kernel) rfl ⟨(Nat.le_of_ble_eq_true rfl), (Nat.le_of_ble_eq_true rfl)⟩ 0 (ci := 8) rfl rfl [0, 1] [] rfl rfl rfl rfl (by decide) (Nat.le_of_ble_eq_true rfl) dL_law_969 ⟨(Nat.le_of_ble_eq_true rfl), (Nat.le_of_ble_eq_true rfl)⟩ rfl (fun r w1 H locs hQ V => ?_)
  obtain ⟨z_3, rfl, rfl, f_4⟩ := hQ
  have V : gW D T A s [] H locs := V
  show W p l e _ s m args below meth c H locs _ _ _ (F0 m 972 ls [.int z_3, .int z_1])
  refine lv_icmp_eq (tgt := 1479) hx hb dL_law_972 (by decide) (fun c_5 => ?_) (fun c_5 => ?_)
  · skip
    exact hE _ _ _ V.2.2.2.1 (lv_sub hl [0, 1, 2, 3] rfl)
  · exact (c_5 (f_2.trans f_4.symm)).elim

set_option maxHeartbeats 4000000 in
set_option maxRecDepth 100000 in
theorem lk_27 {p : Program} {e : Env} {s : State} {m : MethodId} {args : Array Value} {below : List Frame} {meth : Method} {c : Code} {Q : State → Prop} (l : Launch) {b : Nat} {xs : Nat → Int32} {D : va_G} {T : Nat → ClassId} {A : Nat → Prop} (ox n0 n1 n2 n3 n4 n5 n6 n7 n8 n9 n10 s0 s1 s2 s3 s4 s5 s6 s7 s8 s9 s10 im iz rw t0 t1 u0 h0 h1 h2 h3 y0 y1 y2 i0 i1 i2 i3 i4 i5 i6 i7 i8 i9 i10 j0 j1 j2 j3 j4 j5 j6 j7 j8 j9 j10 ra0 ra1 rb0 rb1 rc0 rc1 rd0 rd1 o g1 g2 g3 g4 g15 g17 g20 g22 g23 g24 g28 g29 g31 g32 g33 : Nat) (hC : cX p s m args meth c RL cL_law 4 (some .boolean)) (hX : va_X b 6 xs s s.heap) (hbl : b < s.heap.size) (hbA : ¬ A b) (hE : ∀ (H : Heap) (locs : List Loc) (ls : Array Slot), va_S A s.heap H locs → lv_has ls 4 [(3, .int (nI 0)), (2, .ref o), (1, .ref ox), (0, .ref b)] → W p l e room_1 s m args below meth c H locs 82 14431 Q (F0 m 1479 ls [])) {H : Heap} {locs : List Loc} {ls : Array Slot} (V : gW D T A s (lwW T ox n0 n1 n2 n3 n4 n5 n6 n7 n8 n9 n10 s0 s1 s2 s3 s4 s5 s6 s7 s8 s9 s10 im iz rw t0 t1 u0 h0 h1 h2 h3 y0 y1 y2 i0 i1 i2 i3 i4 i5 i6 i7 i8 i9 i10 j0 j1 j2 j3 j4 j5 j6 j7 j8 j9 j10 ra0 ra1 rb0 rb1 rc0 rc1 rd0 rd1 o g1 g2 g3 g4 g15 g17 g20 g22 g23 g24 g28 g29 g31 g32 g33) H locs) (hl : lv_has ls 4 [(3, .int (nI 0)), (2, .ref o), (1, .ref ox), (0, .ref b)]) : W p l e room_1 s m args below meth c H locs 82 14431 Q (F0 m 977 ls []) := by
  obtain ⟨hx, hb, hr, hml, hown, hts, hlocks⟩ := id hC
  have V := V.sub (ws' := [(ox, .inr (7, [.ref n0, .ref s0, .ref im, .ref iz, .ref rw, .ref t0, .ref u0, .ref h0, .ref y0, .null])), (rw, .inl (T 5, 4, .inr (.inr (.inr (.inr (va_up (va_up (va_up (va_up (fun _ => none) 0 (some ra0)) 1 (some rb0)) 2 (some rc0)) 3 (some rd0))))))), (ra0, .inr (1, [.int (nI 0), .int (nI 0), .ref ra1, .int (nI 0)])), (ra1, .inl (T 1, 40, .inr (.inl (fun _ => 0)))), (rb0, .inr (1, [.int (nI 0), .int (nI 0), .ref rb1, .int (nI 0)])), (rb1, .inl (T 1, 40, .inr (.inl (fun _ => 0)))), (rc0, .inr (1, [.int (nI 0), .int (nI 0), .ref rc1, .int (nI 0)])), (rc1, .inl (T 1, 40, .inr (.inl (fun _ => 0)))), (rd0, .inr (1, [.int (nI 0), .int (nI 0), .ref rd1, .int (nI 0)])), (rd1, .inl (T 1, 40, .inr (.inl (fun _ => 0)))), (o, .inr (8, [.int (nI 0), .ref g1, .ref g2, .ref g3, .ref g4, .int (nI 0), .int (nI 0), .int (nI 0), .int (nI 0), .int (nI 0), .int (nI 0), .int (nI 0), .int (nI 0), .int (nI 0), .int (-1), .ref g15, .int (nI 0), .ref g17, .int (nI 0), .int (nI 0), .ref g20, .int (nI 0), .ref g22, .ref g23, .ref g24, .int (nI 0), .int (nI 0), .int (nI 0), .ref g28, .ref g29, .int (nI 0), .ref g31, .ref g32, .ref g33])), (g31, .inl (T 0, 4, .inl (upd (upd (upd (upd (fun _ => nI 0) 0 (-1)) 1 (-1)) 2 (-1)) 3 (-1))))]) [0, 25, 58, 59, 60, 61, 62, 63, 64, 65, 66, 79] rfl rfl
  refine lv_aload_n hx hb dL_law_977 rfl (lv_at hl 2 rfl) ?_
  refine lv_aload_n hx hb dL_law_978 rfl (lv_at hl 3 rfl) ?_
  refine lv_iload_n hx hb dL_law_979 rfl (lv_at hl 0 rfl) ?_
  refine lv_iconst (v := (nI 1)) hx hb dL_law_980 (by decide +kernel) ?_
  refine lv_iadd hx hb dL_law_981 ?_
  refine g_vi (y := (nI 1)) (by decide +kernel) ?_
  refine va_sld hx hb hX hbl hbA V.2.2.2.1 (vp_in_nI (by decide) (by decide)) dL_law_982 ?_
  refine g_vi (y := xs 1) (congrArg xs (nI_clamp (by decide))) ?_
  refine lv_aload_n hx hb dL_law_983 rfl (lv_at hl 3 rfl) ?_
  refine lv_iload_n hx hb dL_law_984 rfl (lv_at hl 0 rfl) ?_
  refine lv_iconst (v := (nI 2)) hx hb dL_law_985 (by decide +kernel) ?_
  refine lv_iadd hx hb dL_law_986 ?_
  refine g_vi (y := (nI 2)) (by decide +kernel) ?_
  refine va_sld hx hb hX hbl hbA V.2.2.2.1 (vp_in_nI (by decide) (by decide)) dL_law_987 ?_
  refine g_vi (y := xs 2) (congrArg xs (nI_clamp (by decide))) ?_
  refine lv_if_eq (tgt := 995) hx hb dL_law_988 (by decide) (fun c_1 => ?_) (fun c_1 => ?_)
  · skip
    refine lv_iconst (v := (nI 0)) hx hb dL_law_995 (by decide +kernel) ?_
    refine g_callV (wr := [(o, .inr (8, [.int (nI 0), .ref g1, .ref g2, .ref g3, .ref g4, .int (nI 0), .int (nI 0), .int (nI 0), .int (nI 0), .int (nI 0), .int (nI 0), .int (nI 0), .int (nI 0), .int (nI 0), .int (-1), .ref g15, .int (nI 0), .ref g17, .int (nI 0), .int (nI 0), .ref g20, .int (nI 0), .ref g22, .ref g23, .ref g24, .int (nI 0), .int (nI 0), .int (nI 0), .ref g28, .ref g29, .int (nI 0), .ref g31, .ref g32, .ref g33])), (g31, .inl (T 0, 4, .inl (upd (upd (upd (upd (fun _ => nI 0) 0 (-1)) 1 (-1)) 2 (-1)) 3 (-1))))]) (nA := 2) hC V hl.1 (p_X7_sure l D T ox (xs 1) (nI 0) n0 s0 im iz rw t0 u0 h0 y0 ra0 rb0 rc0 rd0 ra1 rb1 rc1 rd1) w_791 w_792 w_793 w_2 w_794 (by decide +kernel) rfl ⟨(Nat.le_of_ble_eq_true rfl), (Nat.le_of_ble_eq_true rfl)⟩ 0 (ci := 7) rfl rfl [0, 1, 2, 3, 4, 5, 6, 7, 8, 9] [10, 11] rfl rfl rfl rfl (by decide) (Nat.le_of_ble_eq_true rfl) dL_law_996 ⟨(Nat.le_of_ble_eq_true rfl), (Nat.le_of_ble_eq_true rfl)⟩ rfl (fun r w1 H locs hQ V => ?_)
    obtain ⟨z_2, rfl, rfl, f_3⟩ := hQ
    have V : gW D T A s [(o, .inr (8, [.int (nI 0), .ref g1, .ref g2, .ref g3, .ref g4, .int (nI 0), .int (nI 0), .int (nI 0), .int (nI 0), .int (nI 0), .int (nI 0), .int (nI 0), .int (nI 0), .int (nI 0), .int (-1), .ref g15, .int (nI 0), .ref g17, .int (nI 0), .int (nI 0), .ref g20, .int (nI 0), .ref g22, .ref g23, .ref g24, .int (nI 0), .int (nI 0), .int (nI 0), .ref g28, .ref g29, .int (nI 0), .ref g31, .ref g32, .ref g33])), (g31, .inl (T 0, 4, .inl (upd (upd (upd (upd (fun _ => nI 0) 0 (-1)) 1 (-1)) 2 (-1)) 3 (-1))))] H locs := V
    show W p l e _ s m args below meth c H locs _ _ _ (F0 m 999 ls [.int z_2])
    refine lv_aload_n hx hb dL_law_999 rfl (lv_at hl 1 rfl) ?_
    refine lv_aload_n hx hb dL_law_1000 rfl (lv_at hl 3 rfl) ?_
    refine lv_iload_n hx hb dL_law_1001 rfl (lv_at hl 0 rfl) ?_
    refine lv_iconst (v := (nI 1)) hx hb dL_law_1002 (by decide +kernel) ?_
    refine lv_iadd hx hb dL_law_1003 ?_
    refine g_vi (y := (nI 1)) (by decide +kernel) ?_
    refine va_sld hx hb hX hbl hbA V.2.2.2.1 (vp_in_nI (by decide) (by decide)) dL_law_1004 ?_
    refine g_vi (y := xs 1) (congrArg xs (nI_clamp (by decide))) ?_
    refine lv_aload_n hx hb dL_law_1005 rfl (lv_at hl 3 rfl) ?_
    refine lv_iload_n hx hb dL_law_1006 rfl (lv_at hl 0 rfl) ?_
    refine lv_iconst (v := (nI 2)) hx hb dL_law_1007 (by decide +kernel) ?_
    refine lv_iadd hx hb dL_law_1008 ?_
    refine g_vi (y := (nI 2)) (by decide +kernel) ?_
    refine va_sld hx hb hX hbl hbA V.2.2.2.1 (vp_in_nI (by decide) (by decide)) dL_law_1009 ?_
    refine g_vi (y := xs 2) (congrArg xs (nI_clamp (by decide))) ?_
    refine lv_if_eq (tgt := 1017) hx hb dL_law_1010 (by decide) (fun c_4 => ?_) (fun c_4 => ?_)
    · skip
      refine lv_iconst (v := (nI 0)) hx hb dL_law_1017 (by decide +kernel) ?_
      refine g_callV (wr := []) (nA := 2) hC V hl.1 (pm_sure l D T o (xs 1) (nI 0) g1 g2 g3 g4 g15 g17 g20 g22 g23 g24 g28 g29 g31 g32 g33) w_1312 w_1313 w_1314 w_9 w_1315 (by decide +kernel) rfl ⟨(Nat.le_of_ble_eq_true rfl), (Nat.le_of_ble_eq_true rfl)⟩ 0 (ci := 8) rfl rfl [0, 1] [] rfl rfl rfl rfl (by decide) (Nat.le_of_ble_eq_true rfl) dL_law_1018 ⟨(Nat.le_of_ble_eq_true rfl), (Nat.le_of_ble_eq_true rfl)⟩ rfl (fun r w1 H locs hQ V => ?_)
      obtain ⟨z_5, rfl, rfl, f_6⟩ := hQ
      have V : gW D T A s [] H locs := V
      show W p l e _ s m args below meth c H locs _ _ _ (F0 m 1021 ls [.int z_5, .int z_2])
      refine lv_icmp_eq (tgt := 1479) hx hb dL_law_1021 (by decide) (fun c_7 => ?_) (fun c_7 => ?_)
      · skip
        exact hE _ _ _ V.2.2.2.1 (lv_sub hl [0, 1, 2, 3] rfl)
      · exact (c_7 (f_3.trans f_6.symm)).elim
    · skip
      refine lv_iconst (v := (nI 1)) hx hb dL_law_1013 (by decide +kernel) ?_
      refine lv_goto (tgt := 1018) hx hb dL_law_1014 (by decide) ?_
      refine g_callV (wr := []) (nA := 2) hC V hl.1 (pm_sure l D T o (xs 1) (nI 1) g1 g2 g3 g4 g15 g17 g20 g22 g23 g24 g28 g29 g31 g32 g33) w_1312 w_1313 w_1314 w_9 w_1315 (by decide +kernel) rfl ⟨(Nat.le_of_ble_eq_true rfl), (Nat.le_of_ble_eq_true rfl)⟩ 0 (ci := 8) rfl rfl [0, 1] [] rfl rfl rfl rfl (by decide) (Nat.le_of_ble_eq_true rfl) dL_law_1018 ⟨(Nat.le_of_ble_eq_true rfl), (Nat.le_of_ble_eq_true rfl)⟩ rfl (fun r w1 H locs hQ V => ?_)
      obtain ⟨z_8, rfl, rfl, f_9⟩ := hQ
      have V : gW D T A s [] H locs := V
      show W p l e _ s m args below meth c H locs _ _ _ (F0 m 1021 ls [.int z_8, .int z_2])
      refine lv_icmp_eq (tgt := 1479) hx hb dL_law_1021 (by decide) (fun c_10 => ?_) (fun c_10 => ?_)
      · skip
        exact hE _ _ _ V.2.2.2.1 (lv_sub hl [0, 1, 2, 3] rfl)
      · exact (c_10 (f_3.trans f_9.symm)).elim
  · skip
    refine lv_iconst (v := (nI 1)) hx hb dL_law_991 (by decide +kernel) ?_
    refine lv_goto (tgt := 996) hx hb dL_law_992 (by decide) ?_
    refine g_callV (wr := [(o, .inr (8, [.int (nI 0), .ref g1, .ref g2, .ref g3, .ref g4, .int (nI 0), .int (nI 0), .int (nI 0), .int (nI 0), .int (nI 0), .int (nI 0), .int (nI 0), .int (nI 0), .int (nI 0), .int (-1), .ref g15, .int (nI 0), .ref g17, .int (nI 0), .int (nI 0), .ref g20, .int (nI 0), .ref g22, .ref g23, .ref g24, .int (nI 0), .int (nI 0), .int (nI 0), .ref g28, .ref g29, .int (nI 0), .ref g31, .ref g32, .ref g33])), (g31, .inl (T 0, 4, .inl (upd (upd (upd (upd (fun _ => nI 0) 0 (-1)) 1 (-1)) 2 (-1)) 3 (-1))))]) (nA := 2) hC V hl.1 (p_X7_sure l D T ox (xs 1) (nI 1) n0 s0 im iz rw t0 u0 h0 y0 ra0 rb0 rc0 rd0 ra1 rb1 rc1 rd1) w_791 w_792 w_793 w_2 w_794 (by decide +kernel) rfl ⟨(Nat.le_of_ble_eq_true rfl), (Nat.le_of_ble_eq_true rfl)⟩ 0 (ci := 7) rfl rfl [0, 1, 2, 3, 4, 5, 6, 7, 8, 9] [10, 11] rfl rfl rfl rfl (by decide) (Nat.le_of_ble_eq_true rfl) dL_law_996 ⟨(Nat.le_of_ble_eq_true rfl), (Nat.le_of_ble_eq_true rfl)⟩ rfl (fun r w1 H locs hQ V => ?_)
    obtain ⟨z_11, rfl, rfl, f_12⟩ := hQ
    have V : gW D T A s [(o, .inr (8, [.int (nI 0), .ref g1, .ref g2, .ref g3, .ref g4, .int (nI 0), .int (nI 0), .int (nI 0), .int (nI 0), .int (nI 0), .int (nI 0), .int (nI 0), .int (nI 0), .int (nI 0), .int (-1), .ref g15, .int (nI 0), .ref g17, .int (nI 0), .int (nI 0), .ref g20, .int (nI 0), .ref g22, .ref g23, .ref g24, .int (nI 0), .int (nI 0), .int (nI 0), .ref g28, .ref g29, .int (nI 0), .ref g31, .ref g32, .ref g33])), (g31, .inl (T 0, 4, .inl (upd (upd (upd (upd (fun _ => nI 0) 0 (-1)) 1 (-1)) 2 (-1)) 3 (-1))))] H locs := V
    show W p l e _ s m args below meth c H locs _ _ _ (F0 m 999 ls [.int z_11])
    refine lv_aload_n hx hb dL_law_999 rfl (lv_at hl 1 rfl) ?_
    refine lv_aload_n hx hb dL_law_1000 rfl (lv_at hl 3 rfl) ?_
    refine lv_iload_n hx hb dL_law_1001 rfl (lv_at hl 0 rfl) ?_
    refine lv_iconst (v := (nI 1)) hx hb dL_law_1002 (by decide +kernel) ?_
    refine lv_iadd hx hb dL_law_1003 ?_
    refine g_vi (y := (nI 1)) (by decide +kernel) ?_
    refine va_sld hx hb hX hbl hbA V.2.2.2.1 (vp_in_nI (by decide) (by decide)) dL_law_1004 ?_
    refine g_vi (y := xs 1) (congrArg xs (nI_clamp (by decide))) ?_
    refine lv_aload_n hx hb dL_law_1005 rfl (lv_at hl 3 rfl) ?_
    refine lv_iload_n hx hb dL_law_1006 rfl (lv_at hl 0 rfl) ?_
    refine lv_iconst (v := (nI 2)) hx hb dL_law_1007 (by decide +kernel) ?_
    refine lv_iadd hx hb dL_law_1008 ?_
    refine g_vi (y := (nI 2)) (by decide +kernel) ?_
    refine va_sld hx hb hX hbl hbA V.2.2.2.1 (vp_in_nI (by decide) (by decide)) dL_law_1009 ?_
    refine g_vi (y := xs 2) (congrArg xs (nI_clamp (by decide))) ?_
    refine lv_if_eq (tgt := 1017) hx hb dL_law_1010 (by decide) (fun c_13 => ?_) (fun c_13 => ?_)
    · skip
      refine lv_iconst (v := (nI 0)) hx hb dL_law_1017 (by decide +kernel) ?_
      refine g_callV (wr := []) (nA := 2) hC V hl.1 (pm_sure l D T o (xs 1) (nI 0) g1 g2 g3 g4 g15 g17 g20 g22 g23 g24 g28 g29 g31 g32 g33) w_1312 w_1313 w_1314 w_9 w_1315 (by decide +kernel) rfl ⟨(Nat.le_of_ble_eq_true rfl), (Nat.le_of_ble_eq_true rfl)⟩ 0 (ci := 8) rfl rfl [0, 1] [] rfl rfl rfl rfl (by decide) (Nat.le_of_ble_eq_true rfl) dL_law_1018 ⟨(Nat.le_of_ble_eq_true rfl), (Nat.le_of_ble_eq_true rfl)⟩ rfl (fun r w1 H locs hQ V => ?_)
      obtain ⟨z_14, rfl, rfl, f_15⟩ := hQ
      have V : gW D T A s [] H locs := V
      show W p l e _ s m args below meth c H locs _ _ _ (F0 m 1021 ls [.int z_14, .int z_11])
      refine lv_icmp_eq (tgt := 1479) hx hb dL_law_1021 (by decide) (fun c_16 => ?_) (fun c_16 => ?_)
      · skip
        exact hE _ _ _ V.2.2.2.1 (lv_sub hl [0, 1, 2, 3] rfl)
      · exact (c_16 (f_12.trans f_15.symm)).elim
    · skip
      refine lv_iconst (v := (nI 1)) hx hb dL_law_1013 (by decide +kernel) ?_
      refine lv_goto (tgt := 1018) hx hb dL_law_1014 (by decide) ?_
      refine g_callV (wr := []) (nA := 2) hC V hl.1 (pm_sure l D T o (xs 1) (nI 1) g1 g2 g3 g4 g15 g17 g20 g22 g23 g24 g28 g29 g31 g32 g33) w_1312 w_1313 w_1314 w_9 w_1315 (by decide +kernel) rfl ⟨(Nat.le_of_ble_eq_true rfl), (Nat.le_of_ble_eq_true rfl)⟩ 0 (ci := 8) rfl rfl [0, 1] [] rfl rfl rfl rfl (by decide) (Nat.le_of_ble_eq_true rfl) dL_law_1018 ⟨(Nat.le_of_ble_eq_true rfl), (Nat.le_of_ble_eq_true rfl)⟩ rfl (fun r w1 H locs hQ V => ?_)
      obtain ⟨z_17, rfl, rfl, f_18⟩ := hQ
      have V : gW D T A s [] H locs := V
      show W p l e _ s m args below meth c H locs _ _ _ (F0 m 1021 ls [.int z_17, .int z_11])
      refine lv_icmp_eq (tgt := 1479) hx hb dL_law_1021 (by decide) (fun c_19 => ?_) (fun c_19 => ?_)
      · skip
        exact hE _ _ _ V.2.2.2.1 (lv_sub hl [0, 1, 2, 3] rfl)
      · exact (c_19 (f_12.trans f_18.symm)).elim
