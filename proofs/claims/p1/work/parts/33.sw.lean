set_option maxHeartbeats 4000000 in
set_option maxRecDepth 100000 in
theorem lw_sw {p : Program} {e : Env} {s : State} {m : MethodId} {args : Array Value} {below : List Frame} {meth : Method} {c : Code} {Q : State → Prop} (l : Launch) {b : Nat} {xs : Nat → Int32} {D : va_G} {T : Nat → ClassId} {A : Nat → Prop} (ox n0 n1 n2 n3 n4 n5 n6 n7 n8 n9 n10 s0 s1 s2 s3 s4 s5 s6 s7 s8 s9 s10 im iz rw t0 t1 u0 h0 h1 h2 h3 y0 y1 y2 i0 i1 i2 i3 i4 i5 i6 i7 i8 i9 i10 j0 j1 j2 j3 j4 j5 j6 j7 j8 j9 j10 ra0 ra1 rb0 rb1 rc0 rc1 rd0 rd1 o g1 g2 g3 g4 g15 g17 g20 g22 g23 g24 g28 g29 g31 g32 g33 : Nat) (hC : cX p s m args meth c RL cL_law 4 (some .boolean)) (hX : va_X b 6 xs s s.heap) (hbl : b < s.heap.size) (hbA : ¬ A b) (hE : ∀ (H : Heap) (locs : List Loc) (ls : Array Slot), va_S A s.heap H locs → lv_has ls 4 [(3, .int (nI 0)), (2, .ref o), (1, .ref ox), (0, .ref b)] → W p l e room_1 s m args below meth c H locs 82 14431 Q (F0 m 1479 ls [])) {H : Heap} {locs : List Loc} {ls : Array Slot} (V : gW D T A s (lwW T ox n0 n1 n2 n3 n4 n5 n6 n7 n8 n9 n10 s0 s1 s2 s3 s4 s5 s6 s7 s8 s9 s10 im iz rw t0 t1 u0 h0 h1 h2 h3 y0 y1 y2 i0 i1 i2 i3 i4 i5 i6 i7 i8 i9 i10 j0 j1 j2 j3 j4 j5 j6 j7 j8 j9 j10 ra0 ra1 rb0 rb1 rc0 rc1 rd0 rd1 o g1 g2 g3 g4 g15 g17 g20 g22 g23 g24 g28 g29 g31 g32 g33) H locs) (hl : lv_has ls 4 [(3, .int (nI 0)), (2, .ref o), (1, .ref ox), (0, .ref b)]) : W p l e room_1 s m args below meth c H locs 82 14431 Q (F0 m 27 ls []) := by
  obtain ⟨hx, hb, hr, hml, hown, hts, hlocks⟩ := id hC
  refine lv_aload_n hx hb dL_law_27 rfl (lv_at hl 3 rfl) ?_
  refine lv_iload_n hx hb dL_law_28 rfl (lv_at hl 0 rfl) ?_
  refine va_sld hx hb hX hbl hbA V.2.2.2.1 (vp_in_nI (by decide) (by decide)) dL_law_29 ?_
  refine g_vi (y := xs 0) (congrArg xs (nI_clamp (by decide))) ?_
  refine lv_bipush (v := (nI 63)) hx hb dL_law_30 (by decide +kernel) ?_
  refine lv_iand hx hb dL_law_32 ?_
  by_cases c_10 : ((xs 0) &&& (nI 63)) = (nI 0)
  · refine lv_tableIn (tgt := 216) (off := 183) hx hb dL_law_33 (by rw [c_10]; decide +kernel) (by rw [c_10]; decide +kernel) (by rw [c_10]; decide +kernel) (by decide) ?_
    exact lk_0 l ox n0 n1 n2 n3 n4 n5 n6 n7 n8 n9 n10 s0 s1 s2 s3 s4 s5 s6 s7 s8 s9 s10 im iz rw t0 t1 u0 h0 h1 h2 h3 y0 y1 y2 i0 i1 i2 i3 i4 i5 i6 i7 i8 i9 i10 j0 j1 j2 j3 j4 j5 j6 j7 j8 j9 j10 ra0 ra1 rb0 rb1 rc0 rc1 rd0 rd1 o g1 g2 g3 g4 g15 g17 g20 g22 g23 g24 g28 g29 g31 g32 g33 hC hX hbl hbA hE V (lv_sub hl [0, 1, 2, 3] rfl)
  by_cases c_11 : ((xs 0) &&& (nI 63)) = (nI 1)
  · refine lv_tableIn (tgt := 279) (off := 246) hx hb dL_law_33 (by rw [c_11]; decide +kernel) (by rw [c_11]; decide +kernel) (by rw [c_11]; decide +kernel) (by decide) ?_
    exact lk_1 l ox n0 n1 n2 n3 n4 n5 n6 n7 n8 n9 n10 s0 s1 s2 s3 s4 s5 s6 s7 s8 s9 s10 im iz rw t0 t1 u0 h0 h1 h2 h3 y0 y1 y2 i0 i1 i2 i3 i4 i5 i6 i7 i8 i9 i10 j0 j1 j2 j3 j4 j5 j6 j7 j8 j9 j10 ra0 ra1 rb0 rb1 rc0 rc1 rd0 rd1 o g1 g2 g3 g4 g15 g17 g20 g22 g23 g24 g28 g29 g31 g32 g33 hC hX hbl hbA hE V (lv_sub hl [0, 1, 2, 3] rfl)
  by_cases c_12 : ((xs 0) &&& (nI 63)) = (nI 2)
  · refine lv_tableIn (tgt := 302) (off := 269) hx hb dL_law_33 (by rw [c_12]; decide +kernel) (by rw [c_12]; decide +kernel) (by rw [c_12]; decide +kernel) (by decide) ?_
    exact lk_2 l ox n0 n1 n2 n3 n4 n5 n6 n7 n8 n9 n10 s0 s1 s2 s3 s4 s5 s6 s7 s8 s9 s10 im iz rw t0 t1 u0 h0 h1 h2 h3 y0 y1 y2 i0 i1 i2 i3 i4 i5 i6 i7 i8 i9 i10 j0 j1 j2 j3 j4 j5 j6 j7 j8 j9 j10 ra0 ra1 rb0 rb1 rc0 rc1 rd0 rd1 o g1 g2 g3 g4 g15 g17 g20 g22 g23 g24 g28 g29 g31 g32 g33 hC hX hbl hbA hE V (lv_sub hl [0, 1, 2, 3] rfl)
  by_cases c_13 : ((xs 0) &&& (nI 63)) = (nI 3)
  · refine lv_tableIn (tgt := 325) (off := 292) hx hb dL_law_33 (by rw [c_13]; decide +kernel) (by rw [c_13]; decide +kernel) (by rw [c_13]; decide +kernel) (by decide) ?_
    exact lk_3 l ox n0 n1 n2 n3 n4 n5 n6 n7 n8 n9 n10 s0 s1 s2 s3 s4 s5 s6 s7 s8 s9 s10 im iz rw t0 t1 u0 h0 h1 h2 h3 y0 y1 y2 i0 i1 i2 i3 i4 i5 i6 i7 i8 i9 i10 j0 j1 j2 j3 j4 j5 j6 j7 j8 j9 j10 ra0 ra1 rb0 rb1 rc0 rc1 rd0 rd1 o g1 g2 g3 g4 g15 g17 g20 g22 g23 g24 g28 g29 g31 g32 g33 hC hX hbl hbA hE V (lv_sub hl [0, 1, 2, 3] rfl)
  by_cases c_14 : ((xs 0) &&& (nI 63)) = (nI 4)
  · refine lv_tableIn (tgt := 358) (off := 325) hx hb dL_law_33 (by rw [c_14]; decide +kernel) (by rw [c_14]; decide +kernel) (by rw [c_14]; decide +kernel) (by decide) ?_
    exact lk_4 l ox n0 n1 n2 n3 n4 n5 n6 n7 n8 n9 n10 s0 s1 s2 s3 s4 s5 s6 s7 s8 s9 s10 im iz rw t0 t1 u0 h0 h1 h2 h3 y0 y1 y2 i0 i1 i2 i3 i4 i5 i6 i7 i8 i9 i10 j0 j1 j2 j3 j4 j5 j6 j7 j8 j9 j10 ra0 ra1 rb0 rb1 rc0 rc1 rd0 rd1 o g1 g2 g3 g4 g15 g17 g20 g22 g23 g24 g28 g29 g31 g32 g33 hC hX hbl hbA hE V (lv_sub hl [0, 1, 2, 3] rfl)
  by_cases c_15 : ((xs 0) &&& (nI 63)) = (nI 5)
  · refine lv_tableIn (tgt := 381) (off := 348) hx hb dL_law_33 (by rw [c_15]; decide +kernel) (by rw [c_15]; decide +kernel) (by rw [c_15]; decide +kernel) (by decide) ?_
    exact lk_5 l ox n0 n1 n2 n3 n4 n5 n6 n7 n8 n9 n10 s0 s1 s2 s3 s4 s5 s6 s7 s8 s9 s10 im iz rw t0 t1 u0 h0 h1 h2 h3 y0 y1 y2 i0 i1 i2 i3 i4 i5 i6 i7 i8 i9 i10 j0 j1 j2 j3 j4 j5 j6 j7 j8 j9 j10 ra0 ra1 rb0 rb1 rc0 rc1 rd0 rd1 o g1 g2 g3 g4 g15 g17 g20 g22 g23 g24 g28 g29 g31 g32 g33 hC hX hbl hbA hE V (lv_sub hl [0, 1, 2, 3] rfl)
  by_cases c_16 : ((xs 0) &&& (nI 63)) = (nI 6)
  · refine lv_tableIn (tgt := 414) (off := 381) hx hb dL_law_33 (by rw [c_16]; decide +kernel) (by rw [c_16]; decide +kernel) (by rw [c_16]; decide +kernel) (by decide) ?_
    exact lk_6 l ox n0 n1 n2 n3 n4 n5 n6 n7 n8 n9 n10 s0 s1 s2 s3 s4 s5 s6 s7 s8 s9 s10 im iz rw t0 t1 u0 h0 h1 h2 h3 y0 y1 y2 i0 i1 i2 i3 i4 i5 i6 i7 i8 i9 i10 j0 j1 j2 j3 j4 j5 j6 j7 j8 j9 j10 ra0 ra1 rb0 rb1 rc0 rc1 rd0 rd1 o g1 g2 g3 g4 g15 g17 g20 g22 g23 g24 g28 g29 g31 g32 g33 hC hX hbl hbA hE V (lv_sub hl [0, 1, 2, 3] rfl)
  by_cases c_17 : ((xs 0) &&& (nI 63)) = (nI 7)
  · refine lv_tableIn (tgt := 447) (off := 414) hx hb dL_law_33 (by rw [c_17]; decide +kernel) (by rw [c_17]; decide +kernel) (by rw [c_17]; decide +kernel) (by decide) ?_
    exact lk_7 l ox n0 n1 n2 n3 n4 n5 n6 n7 n8 n9 n10 s0 s1 s2 s3 s4 s5 s6 s7 s8 s9 s10 im iz rw t0 t1 u0 h0 h1 h2 h3 y0 y1 y2 i0 i1 i2 i3 i4 i5 i6 i7 i8 i9 i10 j0 j1 j2 j3 j4 j5 j6 j7 j8 j9 j10 ra0 ra1 rb0 rb1 rc0 rc1 rd0 rd1 o g1 g2 g3 g4 g15 g17 g20 g22 g23 g24 g28 g29 g31 g32 g33 hC hX hbl hbA hE V (lv_sub hl [0, 1, 2, 3] rfl)
  by_cases c_18 : ((xs 0) &&& (nI 63)) = (nI 8)
  · refine lv_tableIn (tgt := 480) (off := 447) hx hb dL_law_33 (by rw [c_18]; decide +kernel) (by rw [c_18]; decide +kernel) (by rw [c_18]; decide +kernel) (by decide) ?_
    exact lk_8 l ox n0 n1 n2 n3 n4 n5 n6 n7 n8 n9 n10 s0 s1 s2 s3 s4 s5 s6 s7 s8 s9 s10 im iz rw t0 t1 u0 h0 h1 h2 h3 y0 y1 y2 i0 i1 i2 i3 i4 i5 i6 i7 i8 i9 i10 j0 j1 j2 j3 j4 j5 j6 j7 j8 j9 j10 ra0 ra1 rb0 rb1 rc0 rc1 rd0 rd1 o g1 g2 g3 g4 g15 g17 g20 g22 g23 g24 g28 g29 g31 g32 g33 hC hX hbl hbA hE V (lv_sub hl [0, 1, 2, 3] rfl)
  by_cases c_19 : ((xs 0) &&& (nI 63)) = (nI 9)
  · refine lv_tableIn (tgt := 513) (off := 480) hx hb dL_law_33 (by rw [c_19]; decide +kernel) (by rw [c_19]; decide +kernel) (by rw [c_19]; decide +kernel) (by decide) ?_
    exact lk_9 l ox n0 n1 n2 n3 n4 n5 n6 n7 n8 n9 n10 s0 s1 s2 s3 s4 s5 s6 s7 s8 s9 s10 im iz rw t0 t1 u0 h0 h1 h2 h3 y0 y1 y2 i0 i1 i2 i3 i4 i5 i6 i7 i8 i9 i10 j0 j1 j2 j3 j4 j5 j6 j7 j8 j9 j10 ra0 ra1 rb0 rb1 rc0 rc1 rd0 rd1 o g1 g2 g3 g4 g15 g17 g20 g22 g23 g24 g28 g29 g31 g32 g33 hC hX hbl hbA hE V (lv_sub hl [0, 1, 2, 3] rfl)
  by_cases c_110 : ((xs 0) &&& (nI 63)) = (nI 10)
  · refine lv_tableIn (tgt := 546) (off := 513) hx hb dL_law_33 (by rw [c_110]; decide +kernel) (by rw [c_110]; decide +kernel) (by rw [c_110]; decide +kernel) (by decide) ?_
    exact lk_10 l ox n0 n1 n2 n3 n4 n5 n6 n7 n8 n9 n10 s0 s1 s2 s3 s4 s5 s6 s7 s8 s9 s10 im iz rw t0 t1 u0 h0 h1 h2 h3 y0 y1 y2 i0 i1 i2 i3 i4 i5 i6 i7 i8 i9 i10 j0 j1 j2 j3 j4 j5 j6 j7 j8 j9 j10 ra0 ra1 rb0 rb1 rc0 rc1 rd0 rd1 o g1 g2 g3 g4 g15 g17 g20 g22 g23 g24 g28 g29 g31 g32 g33 hC hX hbl hbA hE V (lv_sub hl [0, 1, 2, 3] rfl)
  by_cases c_111 : ((xs 0) &&& (nI 63)) = (nI 11)
  · refine lv_tableIn (tgt := 569) (off := 536) hx hb dL_law_33 (by rw [c_111]; decide +kernel) (by rw [c_111]; decide +kernel) (by rw [c_111]; decide +kernel) (by decide) ?_
    exact lk_11 l ox n0 n1 n2 n3 n4 n5 n6 n7 n8 n9 n10 s0 s1 s2 s3 s4 s5 s6 s7 s8 s9 s10 im iz rw t0 t1 u0 h0 h1 h2 h3 y0 y1 y2 i0 i1 i2 i3 i4 i5 i6 i7 i8 i9 i10 j0 j1 j2 j3 j4 j5 j6 j7 j8 j9 j10 ra0 ra1 rb0 rb1 rc0 rc1 rd0 rd1 o g1 g2 g3 g4 g15 g17 g20 g22 g23 g24 g28 g29 g31 g32 g33 hC hX hbl hbA hE V (lv_sub hl [0, 1, 2, 3] rfl)
  by_cases c_112 : ((xs 0) &&& (nI 63)) = (nI 12)
  · refine lv_tableIn (tgt := 592) (off := 559) hx hb dL_law_33 (by rw [c_112]; decide +kernel) (by rw [c_112]; decide +kernel) (by rw [c_112]; decide +kernel) (by decide) ?_
    exact lk_12 l ox n0 n1 n2 n3 n4 n5 n6 n7 n8 n9 n10 s0 s1 s2 s3 s4 s5 s6 s7 s8 s9 s10 im iz rw t0 t1 u0 h0 h1 h2 h3 y0 y1 y2 i0 i1 i2 i3 i4 i5 i6 i7 i8 i9 i10 j0 j1 j2 j3 j4 j5 j6 j7 j8 j9 j10 ra0 ra1 rb0 rb1 rc0 rc1 rd0 rd1 o g1 g2 g3 g4 g15 g17 g20 g22 g23 g24 g28 g29 g31 g32 g33 hC hX hbl hbA hE V (lv_sub hl [0, 1, 2, 3] rfl)
  by_cases c_113 : ((xs 0) &&& (nI 63)) = (nI 13)
  · refine lv_tableIn (tgt := 615) (off := 582) hx hb dL_law_33 (by rw [c_113]; decide +kernel) (by rw [c_113]; decide +kernel) (by rw [c_113]; decide +kernel) (by decide) ?_
    exact lk_13 l ox n0 n1 n2 n3 n4 n5 n6 n7 n8 n9 n10 s0 s1 s2 s3 s4 s5 s6 s7 s8 s9 s10 im iz rw t0 t1 u0 h0 h1 h2 h3 y0 y1 y2 i0 i1 i2 i3 i4 i5 i6 i7 i8 i9 i10 j0 j1 j2 j3 j4 j5 j6 j7 j8 j9 j10 ra0 ra1 rb0 rb1 rc0 rc1 rd0 rd1 o g1 g2 g3 g4 g15 g17 g20 g22 g23 g24 g28 g29 g31 g32 g33 hC hX hbl hbA hE V (lv_sub hl [0, 1, 2, 3] rfl)
  by_cases c_114 : ((xs 0) &&& (nI 63)) = (nI 14)
  · refine lv_tableIn (tgt := 648) (off := 615) hx hb dL_law_33 (by rw [c_114]; decide +kernel) (by rw [c_114]; decide +kernel) (by rw [c_114]; decide +kernel) (by decide) ?_
    exact lk_14 l ox n0 n1 n2 n3 n4 n5 n6 n7 n8 n9 n10 s0 s1 s2 s3 s4 s5 s6 s7 s8 s9 s10 im iz rw t0 t1 u0 h0 h1 h2 h3 y0 y1 y2 i0 i1 i2 i3 i4 i5 i6 i7 i8 i9 i10 j0 j1 j2 j3 j4 j5 j6 j7 j8 j9 j10 ra0 ra1 rb0 rb1 rc0 rc1 rd0 rd1 o g1 g2 g3 g4 g15 g17 g20 g22 g23 g24 g28 g29 g31 g32 g33 hC hX hbl hbA hE V (lv_sub hl [0, 1, 2, 3] rfl)
  by_cases c_115 : ((xs 0) &&& (nI 63)) = (nI 15)
  · refine lv_tableIn (tgt := 671) (off := 638) hx hb dL_law_33 (by rw [c_115]; decide +kernel) (by rw [c_115]; decide +kernel) (by rw [c_115]; decide +kernel) (by decide) ?_
    exact lk_15 l ox n0 n1 n2 n3 n4 n5 n6 n7 n8 n9 n10 s0 s1 s2 s3 s4 s5 s6 s7 s8 s9 s10 im iz rw t0 t1 u0 h0 h1 h2 h3 y0 y1 y2 i0 i1 i2 i3 i4 i5 i6 i7 i8 i9 i10 j0 j1 j2 j3 j4 j5 j6 j7 j8 j9 j10 ra0 ra1 rb0 rb1 rc0 rc1 rd0 rd1 o g1 g2 g3 g4 g15 g17 g20 g22 g23 g24 g28 g29 g31 g32 g33 hC hX hbl hbA hE V (lv_sub hl [0, 1, 2, 3] rfl)
  by_cases c_116 : ((xs 0) &&& (nI 63)) = (nI 16)
  · refine lv_tableIn (tgt := 684) (off := 651) hx hb dL_law_33 (by rw [c_116]; decide +kernel) (by rw [c_116]; decide +kernel) (by rw [c_116]; decide +kernel) (by decide) ?_
    exact lk_16 l ox n0 n1 n2 n3 n4 n5 n6 n7 n8 n9 n10 s0 s1 s2 s3 s4 s5 s6 s7 s8 s9 s10 im iz rw t0 t1 u0 h0 h1 h2 h3 y0 y1 y2 i0 i1 i2 i3 i4 i5 i6 i7 i8 i9 i10 j0 j1 j2 j3 j4 j5 j6 j7 j8 j9 j10 ra0 ra1 rb0 rb1 rc0 rc1 rd0 rd1 o g1 g2 g3 g4 g15 g17 g20 g22 g23 g24 g28 g29 g31 g32 g33 hC hX hbl hbA hE V (lv_sub hl [0, 1, 2, 3] rfl)
  by_cases c_117 : ((xs 0) &&& (nI 63)) = (nI 17)
  · refine lv_tableIn (tgt := 717) (off := 684) hx hb dL_law_33 (by rw [c_117]; decide +kernel) (by rw [c_117]; decide +kernel) (by rw [c_117]; decide +kernel) (by decide) ?_
    exact lk_17 l ox n0 n1 n2 n3 n4 n5 n6 n7 n8 n9 n10 s0 s1 s2 s3 s4 s5 s6 s7 s8 s9 s10 im iz rw t0 t1 u0 h0 h1 h2 h3 y0 y1 y2 i0 i1 i2 i3 i4 i5 i6 i7 i8 i9 i10 j0 j1 j2 j3 j4 j5 j6 j7 j8 j9 j10 ra0 ra1 rb0 rb1 rc0 rc1 rd0 rd1 o g1 g2 g3 g4 g15 g17 g20 g22 g23 g24 g28 g29 g31 g32 g33 hC hX hbl hbA hE V (lv_sub hl [0, 1, 2, 3] rfl)
  by_cases c_118 : ((xs 0) &&& (nI 63)) = (nI 18)
  · refine lv_tableIn (tgt := 730) (off := 697) hx hb dL_law_33 (by rw [c_118]; decide +kernel) (by rw [c_118]; decide +kernel) (by rw [c_118]; decide +kernel) (by decide) ?_
    exact lk_18 l ox n0 n1 n2 n3 n4 n5 n6 n7 n8 n9 n10 s0 s1 s2 s3 s4 s5 s6 s7 s8 s9 s10 im iz rw t0 t1 u0 h0 h1 h2 h3 y0 y1 y2 i0 i1 i2 i3 i4 i5 i6 i7 i8 i9 i10 j0 j1 j2 j3 j4 j5 j6 j7 j8 j9 j10 ra0 ra1 rb0 rb1 rc0 rc1 rd0 rd1 o g1 g2 g3 g4 g15 g17 g20 g22 g23 g24 g28 g29 g31 g32 g33 hC hX hbl hbA hE V (lv_sub hl [0, 1, 2, 3] rfl)
  by_cases c_119 : ((xs 0) &&& (nI 63)) = (nI 19)
  · refine lv_tableIn (tgt := 773) (off := 740) hx hb dL_law_33 (by rw [c_119]; decide +kernel) (by rw [c_119]; decide +kernel) (by rw [c_119]; decide +kernel) (by decide) ?_
    exact lk_19 l ox n0 n1 n2 n3 n4 n5 n6 n7 n8 n9 n10 s0 s1 s2 s3 s4 s5 s6 s7 s8 s9 s10 im iz rw t0 t1 u0 h0 h1 h2 h3 y0 y1 y2 i0 i1 i2 i3 i4 i5 i6 i7 i8 i9 i10 j0 j1 j2 j3 j4 j5 j6 j7 j8 j9 j10 ra0 ra1 rb0 rb1 rc0 rc1 rd0 rd1 o g1 g2 g3 g4 g15 g17 g20 g22 g23 g24 g28 g29 g31 g32 g33 hC hX hbl hbA hE V (lv_sub hl [0, 1, 2, 3] rfl)
  by_cases c_120 : ((xs 0) &&& (nI 63)) = (nI 20)
  · refine lv_tableIn (tgt := 806) (off := 773) hx hb dL_law_33 (by rw [c_120]; decide +kernel) (by rw [c_120]; decide +kernel) (by rw [c_120]; decide +kernel) (by decide) ?_
    exact lk_20 l ox n0 n1 n2 n3 n4 n5 n6 n7 n8 n9 n10 s0 s1 s2 s3 s4 s5 s6 s7 s8 s9 s10 im iz rw t0 t1 u0 h0 h1 h2 h3 y0 y1 y2 i0 i1 i2 i3 i4 i5 i6 i7 i8 i9 i10 j0 j1 j2 j3 j4 j5 j6 j7 j8 j9 j10 ra0 ra1 rb0 rb1 rc0 rc1 rd0 rd1 o g1 g2 g3 g4 g15 g17 g20 g22 g23 g24 g28 g29 g31 g32 g33 hC hX hbl hbA hE V (lv_sub hl [0, 1, 2, 3] rfl)
  by_cases c_121 : ((xs 0) &&& (nI 63)) = (nI 21)
  · refine lv_tableIn (tgt := 839) (off := 806) hx hb dL_law_33 (by rw [c_121]; decide +kernel) (by rw [c_121]; decide +kernel) (by rw [c_121]; decide +kernel) (by decide) ?_
    exact lk_21 l ox n0 n1 n2 n3 n4 n5 n6 n7 n8 n9 n10 s0 s1 s2 s3 s4 s5 s6 s7 s8 s9 s10 im iz rw t0 t1 u0 h0 h1 h2 h3 y0 y1 y2 i0 i1 i2 i3 i4 i5 i6 i7 i8 i9 i10 j0 j1 j2 j3 j4 j5 j6 j7 j8 j9 j10 ra0 ra1 rb0 rb1 rc0 rc1 rd0 rd1 o g1 g2 g3 g4 g15 g17 g20 g22 g23 g24 g28 g29 g31 g32 g33 hC hX hbl hbA hE V (lv_sub hl [0, 1, 2, 3] rfl)
  by_cases c_122 : ((xs 0) &&& (nI 63)) = (nI 22)
  · refine lv_tableIn (tgt := 862) (off := 829) hx hb dL_law_33 (by rw [c_122]; decide +kernel) (by rw [c_122]; decide +kernel) (by rw [c_122]; decide +kernel) (by decide) ?_
    exact lk_22 l ox n0 n1 n2 n3 n4 n5 n6 n7 n8 n9 n10 s0 s1 s2 s3 s4 s5 s6 s7 s8 s9 s10 im iz rw t0 t1 u0 h0 h1 h2 h3 y0 y1 y2 i0 i1 i2 i3 i4 i5 i6 i7 i8 i9 i10 j0 j1 j2 j3 j4 j5 j6 j7 j8 j9 j10 ra0 ra1 rb0 rb1 rc0 rc1 rd0 rd1 o g1 g2 g3 g4 g15 g17 g20 g22 g23 g24 g28 g29 g31 g32 g33 hC hX hbl hbA hE V (lv_sub hl [0, 1, 2, 3] rfl)
  by_cases c_123 : ((xs 0) &&& (nI 63)) = (nI 23)
  · refine lv_tableIn (tgt := 895) (off := 862) hx hb dL_law_33 (by rw [c_123]; decide +kernel) (by rw [c_123]; decide +kernel) (by rw [c_123]; decide +kernel) (by decide) ?_
    exact lk_23 l ox n0 n1 n2 n3 n4 n5 n6 n7 n8 n9 n10 s0 s1 s2 s3 s4 s5 s6 s7 s8 s9 s10 im iz rw t0 t1 u0 h0 h1 h2 h3 y0 y1 y2 i0 i1 i2 i3 i4 i5 i6 i7 i8 i9 i10 j0 j1 j2 j3 j4 j5 j6 j7 j8 j9 j10 ra0 ra1 rb0 rb1 rc0 rc1 rd0 rd1 o g1 g2 g3 g4 g15 g17 g20 g22 g23 g24 g28 g29 g31 g32 g33 hC hX hbl hbA hE V (lv_sub hl [0, 1, 2, 3] rfl)
  by_cases c_124 : ((xs 0) &&& (nI 63)) = (nI 24)
  · refine lv_tableIn (tgt := 918) (off := 885) hx hb dL_law_33 (by rw [c_124]; decide +kernel) (by rw [c_124]; decide +kernel) (by rw [c_124]; decide +kernel) (by decide) ?_
    exact lk_24 l ox n0 n1 n2 n3 n4 n5 n6 n7 n8 n9 n10 s0 s1 s2 s3 s4 s5 s6 s7 s8 s9 s10 im iz rw t0 t1 u0 h0 h1 h2 h3 y0 y1 y2 i0 i1 i2 i3 i4 i5 i6 i7 i8 i9 i10 j0 j1 j2 j3 j4 j5 j6 j7 j8 j9 j10 ra0 ra1 rb0 rb1 rc0 rc1 rd0 rd1 o g1 g2 g3 g4 g15 g17 g20 g22 g23 g24 g28 g29 g31 g32 g33 hC hX hbl hbA hE V (lv_sub hl [0, 1, 2, 3] rfl)
  by_cases c_125 : ((xs 0) &&& (nI 63)) = (nI 25)
  · refine lv_tableIn (tgt := 941) (off := 908) hx hb dL_law_33 (by rw [c_125]; decide +kernel) (by rw [c_125]; decide +kernel) (by rw [c_125]; decide +kernel) (by decide) ?_
    exact lk_25 l ox n0 n1 n2 n3 n4 n5 n6 n7 n8 n9 n10 s0 s1 s2 s3 s4 s5 s6 s7 s8 s9 s10 im iz rw t0 t1 u0 h0 h1 h2 h3 y0 y1 y2 i0 i1 i2 i3 i4 i5 i6 i7 i8 i9 i10 j0 j1 j2 j3 j4 j5 j6 j7 j8 j9 j10 ra0 ra1 rb0 rb1 rc0 rc1 rd0 rd1 o g1 g2 g3 g4 g15 g17 g20 g22 g23 g24 g28 g29 g31 g32 g33 hC hX hbl hbA hE V (lv_sub hl [0, 1, 2, 3] rfl)
  by_cases c_126 : ((xs 0) &&& (nI 63)) = (nI 26)
  · refine lv_tableIn (tgt := 954) (off := 921) hx hb dL_law_33 (by rw [c_126]; decide +kernel) (by rw [c_126]; decide +kernel) (by rw [c_126]; decide +kernel) (by decide) ?_
    exact lk_26 l ox n0 n1 n2 n3 n4 n5 n6 n7 n8 n9 n10 s0 s1 s2 s3 s4 s5 s6 s7 s8 s9 s10 im iz rw t0 t1 u0 h0 h1 h2 h3 y0 y1 y2 i0 i1 i2 i3 i4 i5 i6 i7 i8 i9 i10 j0 j1 j2 j3 j4 j5 j6 j7 j8 j9 j10 ra0 ra1 rb0 rb1 rc0 rc1 rd0 rd1 o g1 g2 g3 g4 g15 g17 g20 g22 g23 g24 g28 g29 g31 g32 g33 hC hX hbl hbA hE V (lv_sub hl [0, 1, 2, 3] rfl)
  by_cases c_127 : ((xs 0) &&& (nI 63)) = (nI 27)
  · refine lv_tableIn (tgt := 977) (off := 944) hx hb dL_law_33 (by rw [c_127]; decide +kernel) (by rw [c_127]; decide +kernel) (by rw [c_127]; decide +kernel) (by decide) ?_
    exact lk_27 l ox n0 n1 n2 n3 n4 n5 n6 n7 n8 n9 n10 s0 s1 s2 s3 s4 s5 s6 s7 s8 s9 s10 im iz rw t0 t1 u0 h0 h1 h2 h3 y0 y1 y2 i0 i1 i2 i3 i4 i5 i6 i7 i8 i9 i10 j0 j1 j2 j3 j4 j5 j6 j7 j8 j9 j10 ra0 ra1 rb0 rb1 rc0 rc1 rd0 rd1 o g1 g2 g3 g4 g15 g17 g20 g22 g23 g24 g28 g29 g31 g32 g33 hC hX hbl hbA hE V (lv_sub hl [0, 1, 2, 3] rfl)
  by_cases c_128 : ((xs 0) &&& (nI 63)) = (nI 28)
  · refine lv_tableIn (tgt := 1026) (off := 993) hx hb dL_law_33 (by rw [c_128]; decide +kernel) (by rw [c_128]; decide +kernel) (by rw [c_128]; decide +kernel) (by decide) ?_
    exact lk_28 l ox n0 n1 n2 n3 n4 n5 n6 n7 n8 n9 n10 s0 s1 s2 s3 s4 s5 s6 s7 s8 s9 s10 im iz rw t0 t1 u0 h0 h1 h2 h3 y0 y1 y2 i0 i1 i2 i3 i4 i5 i6 i7 i8 i9 i10 j0 j1 j2 j3 j4 j5 j6 j7 j8 j9 j10 ra0 ra1 rb0 rb1 rc0 rc1 rd0 rd1 o g1 g2 g3 g4 g15 g17 g20 g22 g23 g24 g28 g29 g31 g32 g33 hC hX hbl hbA hE V (lv_sub hl [0, 1, 2, 3] rfl)
  by_cases c_129 : ((xs 0) &&& (nI 63)) = (nI 29)
  · refine lv_tableIn (tgt := 1049) (off := 1016) hx hb dL_law_33 (by rw [c_129]; decide +kernel) (by rw [c_129]; decide +kernel) (by rw [c_129]; decide +kernel) (by decide) ?_
    exact lk_29 l ox n0 n1 n2 n3 n4 n5 n6 n7 n8 n9 n10 s0 s1 s2 s3 s4 s5 s6 s7 s8 s9 s10 im iz rw t0 t1 u0 h0 h1 h2 h3 y0 y1 y2 i0 i1 i2 i3 i4 i5 i6 i7 i8 i9 i10 j0 j1 j2 j3 j4 j5 j6 j7 j8 j9 j10 ra0 ra1 rb0 rb1 rc0 rc1 rd0 rd1 o g1 g2 g3 g4 g15 g17 g20 g22 g23 g24 g28 g29 g31 g32 g33 hC hX hbl hbA hE V (lv_sub hl [0, 1, 2, 3] rfl)
  by_cases c_130 : ((xs 0) &&& (nI 63)) = (nI 30)
  · refine lv_tableIn (tgt := 1082) (off := 1049) hx hb dL_law_33 (by rw [c_130]; decide +kernel) (by rw [c_130]; decide +kernel) (by rw [c_130]; decide +kernel) (by decide) ?_
    exact lk_30 l ox n0 n1 n2 n3 n4 n5 n6 n7 n8 n9 n10 s0 s1 s2 s3 s4 s5 s6 s7 s8 s9 s10 im iz rw t0 t1 u0 h0 h1 h2 h3 y0 y1 y2 i0 i1 i2 i3 i4 i5 i6 i7 i8 i9 i10 j0 j1 j2 j3 j4 j5 j6 j7 j8 j9 j10 ra0 ra1 rb0 rb1 rc0 rc1 rd0 rd1 o g1 g2 g3 g4 g15 g17 g20 g22 g23 g24 g28 g29 g31 g32 g33 hC hX hbl hbA hE V (lv_sub hl [0, 1, 2, 3] rfl)
  by_cases c_131 : ((xs 0) &&& (nI 63)) = (nI 31)
  · refine lv_tableIn (tgt := 1125) (off := 1092) hx hb dL_law_33 (by rw [c_131]; decide +kernel) (by rw [c_131]; decide +kernel) (by rw [c_131]; decide +kernel) (by decide) ?_
    exact lk_31 l ox n0 n1 n2 n3 n4 n5 n6 n7 n8 n9 n10 s0 s1 s2 s3 s4 s5 s6 s7 s8 s9 s10 im iz rw t0 t1 u0 h0 h1 h2 h3 y0 y1 y2 i0 i1 i2 i3 i4 i5 i6 i7 i8 i9 i10 j0 j1 j2 j3 j4 j5 j6 j7 j8 j9 j10 ra0 ra1 rb0 rb1 rc0 rc1 rd0 rd1 o g1 g2 g3 g4 g15 g17 g20 g22 g23 g24 g28 g29 g31 g32 g33 hC hX hbl hbA hE V (lv_sub hl [0, 1, 2, 3] rfl)
  by_cases c_132 : ((xs 0) &&& (nI 63)) = (nI 32)
  · refine lv_tableIn (tgt := 1158) (off := 1125) hx hb dL_law_33 (by rw [c_132]; decide +kernel) (by rw [c_132]; decide +kernel) (by rw [c_132]; decide +kernel) (by decide) ?_
    exact lk_32 l ox n0 n1 n2 n3 n4 n5 n6 n7 n8 n9 n10 s0 s1 s2 s3 s4 s5 s6 s7 s8 s9 s10 im iz rw t0 t1 u0 h0 h1 h2 h3 y0 y1 y2 i0 i1 i2 i3 i4 i5 i6 i7 i8 i9 i10 j0 j1 j2 j3 j4 j5 j6 j7 j8 j9 j10 ra0 ra1 rb0 rb1 rc0 rc1 rd0 rd1 o g1 g2 g3 g4 g15 g17 g20 g22 g23 g24 g28 g29 g31 g32 g33 hC hX hbl hbA hE V (lv_sub hl [0, 1, 2, 3] rfl)
  by_cases c_133 : ((xs 0) &&& (nI 63)) = (nI 33)
  · refine lv_tableIn (tgt := 1191) (off := 1158) hx hb dL_law_33 (by rw [c_133]; decide +kernel) (by rw [c_133]; decide +kernel) (by rw [c_133]; decide +kernel) (by decide) ?_
    exact lk_33 l ox n0 n1 n2 n3 n4 n5 n6 n7 n8 n9 n10 s0 s1 s2 s3 s4 s5 s6 s7 s8 s9 s10 im iz rw t0 t1 u0 h0 h1 h2 h3 y0 y1 y2 i0 i1 i2 i3 i4 i5 i6 i7 i8 i9 i10 j0 j1 j2 j3 j4 j5 j6 j7 j8 j9 j10 ra0 ra1 rb0 rb1 rc0 rc1 rd0 rd1 o g1 g2 g3 g4 g15 g17 g20 g22 g23 g24 g28 g29 g31 g32 g33 hC hX hbl hbA hE V (lv_sub hl [0, 1, 2, 3] rfl)
  by_cases c_134 : ((xs 0) &&& (nI 63)) = (nI 34)
  · refine lv_tableIn (tgt := 1214) (off := 1181) hx hb dL_law_33 (by rw [c_134]; decide +kernel) (by rw [c_134]; decide +kernel) (by rw [c_134]; decide +kernel) (by decide) ?_
    exact lk_34 l ox n0 n1 n2 n3 n4 n5 n6 n7 n8 n9 n10 s0 s1 s2 s3 s4 s5 s6 s7 s8 s9 s10 im iz rw t0 t1 u0 h0 h1 h2 h3 y0 y1 y2 i0 i1 i2 i3 i4 i5 i6 i7 i8 i9 i10 j0 j1 j2 j3 j4 j5 j6 j7 j8 j9 j10 ra0 ra1 rb0 rb1 rc0 rc1 rd0 rd1 o g1 g2 g3 g4 g15 g17 g20 g22 g23 g24 g28 g29 g31 g32 g33 hC hX hbl hbA hE V (lv_sub hl [0, 1, 2, 3] rfl)
  by_cases c_135 : ((xs 0) &&& (nI 63)) = (nI 35)
  · refine lv_tableIn (tgt := 1247) (off := 1214) hx hb dL_law_33 (by rw [c_135]; decide +kernel) (by rw [c_135]; decide +kernel) (by rw [c_135]; decide +kernel) (by decide) ?_
    exact lk_35 l ox n0 n1 n2 n3 n4 n5 n6 n7 n8 n9 n10 s0 s1 s2 s3 s4 s5 s6 s7 s8 s9 s10 im iz rw t0 t1 u0 h0 h1 h2 h3 y0 y1 y2 i0 i1 i2 i3 i4 i5 i6 i7 i8 i9 i10 j0 j1 j2 j3 j4 j5 j6 j7 j8 j9 j10 ra0 ra1 rb0 rb1 rc0 rc1 rd0 rd1 o g1 g2 g3 g4 g15 g17 g20 g22 g23 g24 g28 g29 g31 g32 g33 hC hX hbl hbA hE V (lv_sub hl [0, 1, 2, 3] rfl)
  by_cases c_136 : ((xs 0) &&& (nI 63)) = (nI 36)
  · refine lv_tableIn (tgt := 1270) (off := 1237) hx hb dL_law_33 (by rw [c_136]; decide +kernel) (by rw [c_136]; decide +kernel) (by rw [c_136]; decide +kernel) (by decide) ?_
    exact lk_36 l ox n0 n1 n2 n3 n4 n5 n6 n7 n8 n9 n10 s0 s1 s2 s3 s4 s5 s6 s7 s8 s9 s10 im iz rw t0 t1 u0 h0 h1 h2 h3 y0 y1 y2 i0 i1 i2 i3 i4 i5 i6 i7 i8 i9 i10 j0 j1 j2 j3 j4 j5 j6 j7 j8 j9 j10 ra0 ra1 rb0 rb1 rc0 rc1 rd0 rd1 o g1 g2 g3 g4 g15 g17 g20 g22 g23 g24 g28 g29 g31 g32 g33 hC hX hbl hbA hE V (lv_sub hl [0, 1, 2, 3] rfl)
  by_cases c_137 : ((xs 0) &&& (nI 63)) = (nI 37)
  · refine lv_tableIn (tgt := 1313) (off := 1280) hx hb dL_law_33 (by rw [c_137]; decide +kernel) (by rw [c_137]; decide +kernel) (by rw [c_137]; decide +kernel) (by decide) ?_
    exact lk_37 l ox n0 n1 n2 n3 n4 n5 n6 n7 n8 n9 n10 s0 s1 s2 s3 s4 s5 s6 s7 s8 s9 s10 im iz rw t0 t1 u0 h0 h1 h2 h3 y0 y1 y2 i0 i1 i2 i3 i4 i5 i6 i7 i8 i9 i10 j0 j1 j2 j3 j4 j5 j6 j7 j8 j9 j10 ra0 ra1 rb0 rb1 rc0 rc1 rd0 rd1 o g1 g2 g3 g4 g15 g17 g20 g22 g23 g24 g28 g29 g31 g32 g33 hC hX hbl hbA hE V (lv_sub hl [0, 1, 2, 3] rfl)
  by_cases c_138 : ((xs 0) &&& (nI 63)) = (nI 38)
  · refine lv_tableIn (tgt := 1387) (off := 1354) hx hb dL_law_33 (by rw [c_138]; decide +kernel) (by rw [c_138]; decide +kernel) (by rw [c_138]; decide +kernel) (by decide) ?_
    exact lk_38 l ox n0 n1 n2 n3 n4 n5 n6 n7 n8 n9 n10 s0 s1 s2 s3 s4 s5 s6 s7 s8 s9 s10 im iz rw t0 t1 u0 h0 h1 h2 h3 y0 y1 y2 i0 i1 i2 i3 i4 i5 i6 i7 i8 i9 i10 j0 j1 j2 j3 j4 j5 j6 j7 j8 j9 j10 ra0 ra1 rb0 rb1 rc0 rc1 rd0 rd1 o g1 g2 g3 g4 g15 g17 g20 g22 g23 g24 g28 g29 g31 g32 g33 hC hX hbl hbA hE V (lv_sub hl [0, 1, 2, 3] rfl)
  by_cases c_139 : ((xs 0) &&& (nI 63)) = (nI 39)
  · refine lv_tableIn (tgt := 1410) (off := 1377) hx hb dL_law_33 (by rw [c_139]; decide +kernel) (by rw [c_139]; decide +kernel) (by rw [c_139]; decide +kernel) (by decide) ?_
    exact lk_39 l ox n0 n1 n2 n3 n4 n5 n6 n7 n8 n9 n10 s0 s1 s2 s3 s4 s5 s6 s7 s8 s9 s10 im iz rw t0 t1 u0 h0 h1 h2 h3 y0 y1 y2 i0 i1 i2 i3 i4 i5 i6 i7 i8 i9 i10 j0 j1 j2 j3 j4 j5 j6 j7 j8 j9 j10 ra0 ra1 rb0 rb1 rc0 rc1 rd0 rd1 o g1 g2 g3 g4 g15 g17 g20 g22 g23 g24 g28 g29 g31 g32 g33 hC hX hbl hbA hE V (lv_sub hl [0, 1, 2, 3] rfl)
  by_cases c_140 : ((xs 0) &&& (nI 63)) = (nI 40)
  · refine lv_tableIn (tgt := 1433) (off := 1400) hx hb dL_law_33 (by rw [c_140]; decide +kernel) (by rw [c_140]; decide +kernel) (by rw [c_140]; decide +kernel) (by decide) ?_
    exact lk_40 l ox n0 n1 n2 n3 n4 n5 n6 n7 n8 n9 n10 s0 s1 s2 s3 s4 s5 s6 s7 s8 s9 s10 im iz rw t0 t1 u0 h0 h1 h2 h3 y0 y1 y2 i0 i1 i2 i3 i4 i5 i6 i7 i8 i9 i10 j0 j1 j2 j3 j4 j5 j6 j7 j8 j9 j10 ra0 ra1 rb0 rb1 rc0 rc1 rd0 rd1 o g1 g2 g3 g4 g15 g17 g20 g22 g23 g24 g28 g29 g31 g32 g33 hC hX hbl hbA hE V (lv_sub hl [0, 1, 2, 3] rfl)
  by_cases c_141 : ((xs 0) &&& (nI 63)) = (nI 41)
  · refine lv_tableIn (tgt := 1456) (off := 1423) hx hb dL_law_33 (by rw [c_141]; decide +kernel) (by rw [c_141]; decide +kernel) (by rw [c_141]; decide +kernel) (by decide) ?_
    exact lk_41 l ox n0 n1 n2 n3 n4 n5 n6 n7 n8 n9 n10 s0 s1 s2 s3 s4 s5 s6 s7 s8 s9 s10 im iz rw t0 t1 u0 h0 h1 h2 h3 y0 y1 y2 i0 i1 i2 i3 i4 i5 i6 i7 i8 i9 i10 j0 j1 j2 j3 j4 j5 j6 j7 j8 j9 j10 ra0 ra1 rb0 rb1 rc0 rc1 rd0 rd1 o g1 g2 g3 g4 g15 g17 g20 g22 g23 g24 g28 g29 g31 g32 g33 hC hX hbl hbA hE V (lv_sub hl [0, 1, 2, 3] rfl)
  refine lv_tableOut (tgt := 1479) hx hb dL_law_33 (g_out42 (fun j hj => ?_)) (by decide) ?_
  · exact (match j, hj with
      | 0, _ => c_10
      | 1, _ => c_11
      | 2, _ => c_12
      | 3, _ => c_13
      | 4, _ => c_14
      | 5, _ => c_15
      | 6, _ => c_16
      | 7, _ => c_17
      | 8, _ => c_18
      | 9, _ => c_19
      | 10, _ => c_110
      | 11, _ => c_111
      | 12, _ => c_112
      | 13, _ => c_113
      | 14, _ => c_114
      | 15, _ => c_115
      | 16, _ => c_116
      | 17, _ => c_117
      | 18, _ => c_118
      | 19, _ => c_119
      | 20, _ => c_120
      | 21, _ => c_121
      | 22, _ => c_122
      | 23, _ => c_123
      | 24, _ => c_124
      | 25, _ => c_125
      | 26, _ => c_126
      | 27, _ => c_127
      | 28, _ => c_128
      | 29, _ => c_129
      | 30, _ => c_130
      | 31, _ => c_131
      | 32, _ => c_132
      | 33, _ => c_133
      | 34, _ => c_134
      | 35, _ => c_135
      | 36, _ => c_136
      | 37, _ => c_137
      | 38, _ => c_138
      | 39, _ => c_139
      | 40, _ => c_140
      | 41, _ => c_141
      | j + 42, h => absurd h (by omega))
  exact hE _ _ _ V.2.2.2.1 (lv_sub hl [0, 1, 2, 3] rfl)
