theorem LwA_S {D : va_G} {T : Nat → ClassId} {A : Nat → Prop} {s : State} {ox o : Nat} {H : Heap} {locs : List Loc} (h : LwA D T A s ox o H locs) : va_S A s.heap H locs := by
  obtain ⟨_, _, _, _, _, _, _, _, _, _, _, _, _, _, _, _, _, _, _, _, _, _, _, _, _, _, _, _, _, _, _, _, _, _, _, _, _, _, _, _, _, _, _, _, _, _, _, _, _, _, _, _, _, _, _, _, _, _, _, _, _, _, _, _, _, _, _, _, _, _, _, _, _, _, _, _, _, _, _, _, _, _, _, _, _, _, _, _, _, _, _, _, _, _, _, _, _, _, _, _, _, _, _, _, _, _, _, _, _, _, _, _, _, _, _, _, _, _, _, _, _, _, _, _, _, _, _, _, _, _, _, _, _, _, _, _, _, _, _, _, _, _, _, _, _, _, _, _, _, _, _, _, _, _, _, _, _, _, _, _, _, _, _, _, _, _, _, _, _, _, _, _, _, _, _, _, _, _, _, _, _, _, _, _, _, _, _, _, _, _, _, _, _, _, _, _, _, _, _, _, _, _, _, _, _, _, _, _, _, _, _, _, _, _, _, _, _, _, _, _, _, _, _, _, _, _, _, _, _, _, _, _, _, _, _, V⟩ := h
  exact V.2.2.2.1

theorem LwB_S {D : va_G} {T : Nat → ClassId} {A : Nat → Prop} {s : State} {ox o : Nat} {H : Heap} {locs : List Loc} (h : LwB D T A s ox o H locs) : va_S A s.heap H locs := by
  obtain ⟨_, _, _, _, _, _, _, _, _, _, _, _, _, _, _, _, _, _, _, _, _, _, _, _, _, _, _, _, _, _, _, _, _, _, _, _, _, _, _, _, _, _, _, _, _, _, _, _, _, _, _, _, _, _, _, _, _, _, _, _, _, _, _, _, _, _, _, _, _, _, _, _, _, _, _, _, _, _, _, _, _, _, _, _, _, _, _, _, _, _, _, _, _, _, _, _, _, _, _, _, _, _, _, _, _, _, _, _, _, _, _, _, _, _, _, _, _, _, _, _, _, _, _, _, _, _, _, _, _, _, _, _, _, _, _, _, _, _, _, _, _, _, _, _, _, _, _, _, _, _, _, _, _, _, _, _, _, _, _, _, _, _, _, _, _, _, _, _, _, _, _, _, _, _, _, _, _, _, _, _, _, _, _, _, _, _, _, _, _, _, _, _, _, _, _, _, _, _, _, _, _, _, _, _, _, _, _, _, _, _, _, _, _, _, _, _, _, _, _, _, _, _, _, _, _, _, _, _, _, _, _, _, _, _, _, _, _, _, _, _, _, _, _, _, _, _, _, _, _, V⟩ := h
  exact V.2.2.2.1

theorem g_out42 {x : Int32} (h : ∀ j : Nat, j < 42 → ¬ x = nI j) : x.toInt < 0 ∨ 41 < x.toInt := by
  by_cases h0 : x < 0
  · exact Or.inl (by have := Int32.lt_iff_toInt_lt.mp h0; have z : (0 : Int32).toInt = 0 := by decide
                     omega)
  · obtain ⟨j, hj, rfl⟩ := nI_of h0
    by_cases h1 : j < 42
    · exact absurd rfl (h j h1)
    · refine Or.inr ?_
      rw [nI_toInt hj]
      omega
set_option maxHeartbeats 4000000 in
set_option maxRecDepth 100000 in
theorem lw_fin {p : Program} {e : Env} {s : State} {m : MethodId} {below : List Frame} {meth : Method} {c : Code} (l : Launch) {b : Nat} (hx : p.tables.exec = Jvm.exec) (hb : c.code = cL_law) (hr : meth.sig.returnType = ret) (hlocks : meth.locks = false) {H : Heap} {locs : List Loc} {ls : Array Slot} {k n : Nat} {A : Nat → Prop} (hAs : ∀ q, A q → s.heap.size ≤ q) (hk : k ≤ 600000) (hn : n ≤ 7302250) (hS : va_S A s.heap H locs) : W p l e room_1 s m #[Value.ref b] below meth c H locs k n (lw_Z below #[Value.ref b] s) (F0 m 1484 ls []) := by
  refine lv_iconst (v := nI 1) hx hb dL_law_1484 (by decide +kernel) ?_
  refine g_vi (y := 1) (by decide +kernel) ?_
  exact va_forget (fun q hq => hAs _ (hS.2.2 q hq)) (W.widen hk hn (lw_ret hx hb hr hlocks dL_law_1485))

set_option maxHeartbeats 4000000 in
set_option maxRecDepth 100000 in
theorem lw_sw {p : Program} {e : Env} {s : State} {m : MethodId} {args : Array Value} {below : List Frame} {meth : Method} {c : Code} {Q : State → Prop} (l : Launch) {b L t cz sz ox o : Nat} {xs : Nat → Int32} {D : va_G} {T : Nat → ClassId} {A : Nat → Prop} (hC : cX p s m args meth c RL cL_law 4 (some .boolean)) (hX : va_X b L xs s s.heap) (hbl : b < s.heap.size) (hbA : ¬ A b) (hL3 : L ≤ 3072) (hin : 6 * t + 6 ≤ L) (hcz : cz + 7 ≤ 600000) (hsz : sz + 11233 ≤ 7302250) (hE : ∀ (H : Heap) (locs : List Loc) (ls : Array Slot), (LwA D T A s ox o H locs ∨ LwB D T A s ox o H locs) → lv_has ls 4 [(3, .int (nI (6 * t))), (2, .ref o), (1, .ref ox), (0, .ref b)] → W p l e room_1 s m args below meth c H locs (cz + 7) (sz + 11233) Q (F0 m 1478 ls [])) {H : Heap} {locs : List Loc} {ls : Array Slot} (hW : LwA D T A s ox o H locs ∨ LwB D T A s ox o H locs) (hl : lv_has ls 4 [(3, .int (nI (6 * t))), (2, .ref o), (1, .ref ox), (0, .ref b)]) {x : Int32} : W p l e room_1 s m args below meth c H locs cz sz Q (F0 m 33 ls [.int x]) := by
  obtain ⟨hx, hb, hr, hml, hown, hts, hlocks⟩ := id hC
  by_cases c0 : x = nI 0
  · refine lv_tableIn (tgt := 216) (off := 183) hx hb dL_law_33 (by rw [c0]; decide +kernel) (by rw [c0]; decide +kernel) (by rw [c0]; decide +kernel) (by decide) ?_
    rcases hW with hW | hW
    · exact lkA_0 l hC hX hbl hbA hL3 hin hcz hsz hE hW hl
    · exact lkB_0 l hC hX hbl hbA hL3 hin hcz hsz hE hW hl
  by_cases c1 : x = nI 1
  · refine lv_tableIn (tgt := 279) (off := 246) hx hb dL_law_33 (by rw [c1]; decide +kernel) (by rw [c1]; decide +kernel) (by rw [c1]; decide +kernel) (by decide) ?_
    rcases hW with hW | hW
    · exact lkA_1 l hC hX hbl hbA hL3 hin hcz hsz hE hW hl
    · exact lkB_1 l hC hX hbl hbA hL3 hin hcz hsz hE hW hl
  by_cases c2 : x = nI 2
  · refine lv_tableIn (tgt := 302) (off := 269) hx hb dL_law_33 (by rw [c2]; decide +kernel) (by rw [c2]; decide +kernel) (by rw [c2]; decide +kernel) (by decide) ?_
    rcases hW with hW | hW
    · exact lkA_2 l hC hX hbl hbA hL3 hin hcz hsz hE hW hl
    · exact lkB_2 l hC hX hbl hbA hL3 hin hcz hsz hE hW hl
  by_cases c3 : x = nI 3
  · refine lv_tableIn (tgt := 325) (off := 292) hx hb dL_law_33 (by rw [c3]; decide +kernel) (by rw [c3]; decide +kernel) (by rw [c3]; decide +kernel) (by decide) ?_
    rcases hW with hW | hW
    · exact lkA_3 l hC hX hbl hbA hL3 hin hcz hsz hE hW hl
    · exact lkB_3 l hC hX hbl hbA hL3 hin hcz hsz hE hW hl
  by_cases c4 : x = nI 4
  · refine lv_tableIn (tgt := 358) (off := 325) hx hb dL_law_33 (by rw [c4]; decide +kernel) (by rw [c4]; decide +kernel) (by rw [c4]; decide +kernel) (by decide) ?_
    rcases hW with hW | hW
    · exact lkA_4 l hC hX hbl hbA hL3 hin hcz hsz hE hW hl
    · exact lkB_4 l hC hX hbl hbA hL3 hin hcz hsz hE hW hl
  by_cases c5 : x = nI 5
  · refine lv_tableIn (tgt := 381) (off := 348) hx hb dL_law_33 (by rw [c5]; decide +kernel) (by rw [c5]; decide +kernel) (by rw [c5]; decide +kernel) (by decide) ?_
    rcases hW with hW | hW
    · exact lkA_5 l hC hX hbl hbA hL3 hin hcz hsz hE hW hl
    · exact lkB_5 l hC hX hbl hbA hL3 hin hcz hsz hE hW hl
  by_cases c6 : x = nI 6
  · refine lv_tableIn (tgt := 414) (off := 381) hx hb dL_law_33 (by rw [c6]; decide +kernel) (by rw [c6]; decide +kernel) (by rw [c6]; decide +kernel) (by decide) ?_
    rcases hW with hW | hW
    · exact lkA_6 l hC hX hbl hbA hL3 hin hcz hsz hE hW hl
    · exact lkB_6 l hC hX hbl hbA hL3 hin hcz hsz hE hW hl
  by_cases c7 : x = nI 7
  · refine lv_tableIn (tgt := 447) (off := 414) hx hb dL_law_33 (by rw [c7]; decide +kernel) (by rw [c7]; decide +kernel) (by rw [c7]; decide +kernel) (by decide) ?_
    rcases hW with hW | hW
    · exact lkA_7 l hC hX hbl hbA hL3 hin hcz hsz hE hW hl
    · exact lkB_7 l hC hX hbl hbA hL3 hin hcz hsz hE hW hl
  by_cases c8 : x = nI 8
  · refine lv_tableIn (tgt := 480) (off := 447) hx hb dL_law_33 (by rw [c8]; decide +kernel) (by rw [c8]; decide +kernel) (by rw [c8]; decide +kernel) (by decide) ?_
    rcases hW with hW | hW
    · exact lkA_8 l hC hX hbl hbA hL3 hin hcz hsz hE hW hl
    · exact lkB_8 l hC hX hbl hbA hL3 hin hcz hsz hE hW hl
  by_cases c9 : x = nI 9
  · refine lv_tableIn (tgt := 513) (off := 480) hx hb dL_law_33 (by rw [c9]; decide +kernel) (by rw [c9]; decide +kernel) (by rw [c9]; decide +kernel) (by decide) ?_
    rcases hW with hW | hW
    · exact lkA_9 l hC hX hbl hbA hL3 hin hcz hsz hE hW hl
    · exact lkB_9 l hC hX hbl hbA hL3 hin hcz hsz hE hW hl
  by_cases c10 : x = nI 10
  · refine lv_tableIn (tgt := 546) (off := 513) hx hb dL_law_33 (by rw [c10]; decide +kernel) (by rw [c10]; decide +kernel) (by rw [c10]; decide +kernel) (by decide) ?_
    rcases hW with hW | hW
    · exact lkA_10 l hC hX hbl hbA hL3 hin hcz hsz hE hW hl
    · exact lkB_10 l hC hX hbl hbA hL3 hin hcz hsz hE hW hl
  by_cases c11 : x = nI 11
  · refine lv_tableIn (tgt := 569) (off := 536) hx hb dL_law_33 (by rw [c11]; decide +kernel) (by rw [c11]; decide +kernel) (by rw [c11]; decide +kernel) (by decide) ?_
    rcases hW with hW | hW
    · exact lkA_11 l hC hX hbl hbA hL3 hin hcz hsz hE hW hl
    · exact lkB_11 l hC hX hbl hbA hL3 hin hcz hsz hE hW hl
  by_cases c12 : x = nI 12
  · refine lv_tableIn (tgt := 592) (off := 559) hx hb dL_law_33 (by rw [c12]; decide +kernel) (by rw [c12]; decide +kernel) (by rw [c12]; decide +kernel) (by decide) ?_
    rcases hW with hW | hW
    · exact lkA_12 l hC hX hbl hbA hL3 hin hcz hsz hE hW hl
    · exact lkB_12 l hC hX hbl hbA hL3 hin hcz hsz hE hW hl
  by_cases c13 : x = nI 13
  · refine lv_tableIn (tgt := 615) (off := 582) hx hb dL_law_33 (by rw [c13]; decide +kernel) (by rw [c13]; decide +kernel) (by rw [c13]; decide +kernel) (by decide) ?_
    rcases hW with hW | hW
    · exact lkA_13 l hC hX hbl hbA hL3 hin hcz hsz hE hW hl
    · exact lkB_13 l hC hX hbl hbA hL3 hin hcz hsz hE hW hl
  by_cases c14 : x = nI 14
  · refine lv_tableIn (tgt := 648) (off := 615) hx hb dL_law_33 (by rw [c14]; decide +kernel) (by rw [c14]; decide +kernel) (by rw [c14]; decide +kernel) (by decide) ?_
    rcases hW with hW | hW
    · exact lkA_14 l hC hX hbl hbA hL3 hin hcz hsz hE hW hl
    · exact lkB_14 l hC hX hbl hbA hL3 hin hcz hsz hE hW hl
  by_cases c15 : x = nI 15
  · refine lv_tableIn (tgt := 671) (off := 638) hx hb dL_law_33 (by rw [c15]; decide +kernel) (by rw [c15]; decide +kernel) (by rw [c15]; decide +kernel) (by decide) ?_
    rcases hW with hW | hW
    · exact lkA_15 l hC hX hbl hbA hL3 hin hcz hsz hE hW hl
    · exact lkB_15 l hC hX hbl hbA hL3 hin hcz hsz hE hW hl
  by_cases c16 : x = nI 16
  · refine lv_tableIn (tgt := 684) (off := 651) hx hb dL_law_33 (by rw [c16]; decide +kernel) (by rw [c16]; decide +kernel) (by rw [c16]; decide +kernel) (by decide) ?_
    rcases hW with hW | hW
    · exact lkA_16 l hC hX hbl hbA hL3 hin hcz hsz hE hW hl
    · exact lkB_16 l hC hX hbl hbA hL3 hin hcz hsz hE hW hl
  by_cases c17 : x = nI 17
  · refine lv_tableIn (tgt := 717) (off := 684) hx hb dL_law_33 (by rw [c17]; decide +kernel) (by rw [c17]; decide +kernel) (by rw [c17]; decide +kernel) (by decide) ?_
    rcases hW with hW | hW
    · exact lkA_17 l hC hX hbl hbA hL3 hin hcz hsz hE hW hl
    · exact lkB_17 l hC hX hbl hbA hL3 hin hcz hsz hE hW hl
  by_cases c18 : x = nI 18
  · refine lv_tableIn (tgt := 730) (off := 697) hx hb dL_law_33 (by rw [c18]; decide +kernel) (by rw [c18]; decide +kernel) (by rw [c18]; decide +kernel) (by decide) ?_
    rcases hW with hW | hW
    · exact lkA_18 l hC hX hbl hbA hL3 hin hcz hsz hE hW hl
    · exact lkB_18 l hC hX hbl hbA hL3 hin hcz hsz hE hW hl
  by_cases c19 : x = nI 19
  · refine lv_tableIn (tgt := 773) (off := 740) hx hb dL_law_33 (by rw [c19]; decide +kernel) (by rw [c19]; decide +kernel) (by rw [c19]; decide +kernel) (by decide) ?_
    rcases hW with hW | hW
    · exact lkA_19 l hC hX hbl hbA hL3 hin hcz hsz hE hW hl
    · exact lkB_19 l hC hX hbl hbA hL3 hin hcz hsz hE hW hl
  by_cases c20 : x = nI 20
  · refine lv_tableIn (tgt := 806) (off := 773) hx hb dL_law_33 (by rw [c20]; decide +kernel) (by rw [c20]; decide +kernel) (by rw [c20]; decide +kernel) (by decide) ?_
    rcases hW with hW | hW
    · exact lkA_20 l hC hX hbl hbA hL3 hin hcz hsz hE hW hl
    · exact lkB_20 l hC hX hbl hbA hL3 hin hcz hsz hE hW hl
  by_cases c21 : x = nI 21
  · refine lv_tableIn (tgt := 839) (off := 806) hx hb dL_law_33 (by rw [c21]; decide +kernel) (by rw [c21]; decide +kernel) (by rw [c21]; decide +kernel) (by decide) ?_
    rcases hW with hW | hW
    · exact lkA_21 l hC hX hbl hbA hL3 hin hcz hsz hE hW hl
    · exact lkB_21 l hC hX hbl hbA hL3 hin hcz hsz hE hW hl
  by_cases c22 : x = nI 22
  · refine lv_tableIn (tgt := 862) (off := 829) hx hb dL_law_33 (by rw [c22]; decide +kernel) (by rw [c22]; decide +kernel) (by rw [c22]; decide +kernel) (by decide) ?_
    rcases hW with hW | hW
    · exact lkA_22 l hC hX hbl hbA hL3 hin hcz hsz hE hW hl
    · exact lkB_22 l hC hX hbl hbA hL3 hin hcz hsz hE hW hl
  by_cases c23 : x = nI 23
  · refine lv_tableIn (tgt := 895) (off := 862) hx hb dL_law_33 (by rw [c23]; decide +kernel) (by rw [c23]; decide +kernel) (by rw [c23]; decide +kernel) (by decide) ?_
    rcases hW with hW | hW
    · exact lkA_23 l hC hX hbl hbA hL3 hin hcz hsz hE hW hl
    · exact lkB_23 l hC hX hbl hbA hL3 hin hcz hsz hE hW hl
  by_cases c24 : x = nI 24
  · refine lv_tableIn (tgt := 918) (off := 885) hx hb dL_law_33 (by rw [c24]; decide +kernel) (by rw [c24]; decide +kernel) (by rw [c24]; decide +kernel) (by decide) ?_
    rcases hW with hW | hW
    · exact lkA_24 l hC hX hbl hbA hL3 hin hcz hsz hE hW hl
    · exact lkB_24 l hC hX hbl hbA hL3 hin hcz hsz hE hW hl
  by_cases c25 : x = nI 25
  · refine lv_tableIn (tgt := 941) (off := 908) hx hb dL_law_33 (by rw [c25]; decide +kernel) (by rw [c25]; decide +kernel) (by rw [c25]; decide +kernel) (by decide) ?_
    rcases hW with hW | hW
    · exact lkA_25 l hC hX hbl hbA hL3 hin hcz hsz hE hW hl
    · exact lkB_25 l hC hX hbl hbA hL3 hin hcz hsz hE hW hl
  by_cases c26 : x = nI 26
  · refine lv_tableIn (tgt := 954) (off := 921) hx hb dL_law_33 (by rw [c26]; decide +kernel) (by rw [c26]; decide +kernel) (by rw [c26]; decide +kernel) (by decide) ?_
    rcases hW with hW | hW
    · exact lkA_26 l hC hX hbl hbA hL3 hin hcz hsz hE hW hl
    · exact lkB_26 l hC hX hbl hbA hL3 hin hcz hsz hE hW hl
  by_cases c27 : x = nI 27
  · refine lv_tableIn (tgt := 977) (off := 944) hx hb dL_law_33 (by rw [c27]; decide +kernel) (by rw [c27]; decide +kernel) (by rw [c27]; decide +kernel) (by decide) ?_
    rcases hW with hW | hW
    · exact lkA_27 l hC hX hbl hbA hL3 hin hcz hsz hE hW hl
    · exact lkB_27 l hC hX hbl hbA hL3 hin hcz hsz hE hW hl
  by_cases c28 : x = nI 28
  · refine lv_tableIn (tgt := 1026) (off := 993) hx hb dL_law_33 (by rw [c28]; decide +kernel) (by rw [c28]; decide +kernel) (by rw [c28]; decide +kernel) (by decide) ?_
    rcases hW with hW | hW
    · exact lkA_28 l hC hX hbl hbA hL3 hin hcz hsz hE hW hl
    · exact lkB_28 l hC hX hbl hbA hL3 hin hcz hsz hE hW hl
  by_cases c29 : x = nI 29
  · refine lv_tableIn (tgt := 1049) (off := 1016) hx hb dL_law_33 (by rw [c29]; decide +kernel) (by rw [c29]; decide +kernel) (by rw [c29]; decide +kernel) (by decide) ?_
    rcases hW with hW | hW
    · exact lkA_29 l hC hX hbl hbA hL3 hin hcz hsz hE hW hl
    · exact lkB_29 l hC hX hbl hbA hL3 hin hcz hsz hE hW hl
  by_cases c30 : x = nI 30
  · refine lv_tableIn (tgt := 1082) (off := 1049) hx hb dL_law_33 (by rw [c30]; decide +kernel) (by rw [c30]; decide +kernel) (by rw [c30]; decide +kernel) (by decide) ?_
    rcases hW with hW | hW
    · exact lkA_30 l hC hX hbl hbA hL3 hin hcz hsz hE hW hl
    · exact lkB_30 l hC hX hbl hbA hL3 hin hcz hsz hE hW hl
  by_cases c31 : x = nI 31
  · refine lv_tableIn (tgt := 1125) (off := 1092) hx hb dL_law_33 (by rw [c31]; decide +kernel) (by rw [c31]; decide +kernel) (by rw [c31]; decide +kernel) (by decide) ?_
    rcases hW with hW | hW
    · exact lkA_31 l hC hX hbl hbA hL3 hin hcz hsz hE hW hl
    · exact lkB_31 l hC hX hbl hbA hL3 hin hcz hsz hE hW hl
  by_cases c32 : x = nI 32
  · refine lv_tableIn (tgt := 1158) (off := 1125) hx hb dL_law_33 (by rw [c32]; decide +kernel) (by rw [c32]; decide +kernel) (by rw [c32]; decide +kernel) (by decide) ?_
    rcases hW with hW | hW
    · exact lkA_32 l hC hX hbl hbA hL3 hin hcz hsz hE hW hl
    · exact lkB_32 l hC hX hbl hbA hL3 hin hcz hsz hE hW hl
  by_cases c33 : x = nI 33
  · refine lv_tableIn (tgt := 1191) (off := 1158) hx hb dL_law_33 (by rw [c33]; decide +kernel) (by rw [c33]; decide +kernel) (by rw [c33]; decide +kernel) (by decide) ?_
    rcases hW with hW | hW
    · exact lkA_33 l hC hX hbl hbA hL3 hin hcz hsz hE hW hl
    · exact lkB_33 l hC hX hbl hbA hL3 hin hcz hsz hE hW hl
  by_cases c34 : x = nI 34
  · refine lv_tableIn (tgt := 1214) (off := 1181) hx hb dL_law_33 (by rw [c34]; decide +kernel) (by rw [c34]; decide +kernel) (by rw [c34]; decide +kernel) (by decide) ?_
    rcases hW with hW | hW
    · exact lkA_34 l hC hX hbl hbA hL3 hin hcz hsz hE hW hl
    · exact lkB_34 l hC hX hbl hbA hL3 hin hcz hsz hE hW hl
  by_cases c35 : x = nI 35
  · refine lv_tableIn (tgt := 1247) (off := 1214) hx hb dL_law_33 (by rw [c35]; decide +kernel) (by rw [c35]; decide +kernel) (by rw [c35]; decide +kernel) (by decide) ?_
    rcases hW with hW | hW
    · exact lkA_35 l hC hX hbl hbA hL3 hin hcz hsz hE hW hl
    · exact lkB_35 l hC hX hbl hbA hL3 hin hcz hsz hE hW hl
  by_cases c36 : x = nI 36
  · refine lv_tableIn (tgt := 1270) (off := 1237) hx hb dL_law_33 (by rw [c36]; decide +kernel) (by rw [c36]; decide +kernel) (by rw [c36]; decide +kernel) (by decide) ?_
    rcases hW with hW | hW
    · exact lkA_36 l hC hX hbl hbA hL3 hin hcz hsz hE hW hl
    · exact lkB_36 l hC hX hbl hbA hL3 hin hcz hsz hE hW hl
  by_cases c37 : x = nI 37
  · refine lv_tableIn (tgt := 1313) (off := 1280) hx hb dL_law_33 (by rw [c37]; decide +kernel) (by rw [c37]; decide +kernel) (by rw [c37]; decide +kernel) (by decide) ?_
    rcases hW with hW | hW
    · exact lkA_37 l hC hX hbl hbA hL3 hin hcz hsz hE hW hl
    · exact lkB_37 l hC hX hbl hbA hL3 hin hcz hsz hE hW hl
  by_cases c38 : x = nI 38
  · refine lv_tableIn (tgt := 1386) (off := 1353) hx hb dL_law_33 (by rw [c38]; decide +kernel) (by rw [c38]; decide +kernel) (by rw [c38]; decide +kernel) (by decide) ?_
    rcases hW with hW | hW
    · exact lkA_38 l hC hX hbl hbA hL3 hin hcz hsz hE hW hl
    · exact lkB_38 l hC hX hbl hbA hL3 hin hcz hsz hE hW hl
  by_cases c39 : x = nI 39
  · refine lv_tableIn (tgt := 1409) (off := 1376) hx hb dL_law_33 (by rw [c39]; decide +kernel) (by rw [c39]; decide +kernel) (by rw [c39]; decide +kernel) (by decide) ?_
    rcases hW with hW | hW
    · exact lkA_39 l hC hX hbl hbA hL3 hin hcz hsz hE hW hl
    · exact lkB_39 l hC hX hbl hbA hL3 hin hcz hsz hE hW hl
  by_cases c40 : x = nI 40
  · refine lv_tableIn (tgt := 1432) (off := 1399) hx hb dL_law_33 (by rw [c40]; decide +kernel) (by rw [c40]; decide +kernel) (by rw [c40]; decide +kernel) (by decide) ?_
    rcases hW with hW | hW
    · exact lkA_40 l hC hX hbl hbA hL3 hin hcz hsz hE hW hl
    · exact lkB_40 l hC hX hbl hbA hL3 hin hcz hsz hE hW hl
  by_cases c41 : x = nI 41
  · refine lv_tableIn (tgt := 1455) (off := 1422) hx hb dL_law_33 (by rw [c41]; decide +kernel) (by rw [c41]; decide +kernel) (by rw [c41]; decide +kernel) (by decide) ?_
    rcases hW with hW | hW
    · exact lkA_41 l hC hX hbl hbA hL3 hin hcz hsz hE hW hl
    · exact lkB_41 l hC hX hbl hbA hL3 hin hcz hsz hE hW hl
  refine lv_tableOut (tgt := 1478) hx hb dL_law_33 (g_out42 (fun j hj => ?_)) (by decide) ?_
  · exact (match j, hj with
    | 0, _ => c0
    | 1, _ => c1
    | 2, _ => c2
    | 3, _ => c3
    | 4, _ => c4
    | 5, _ => c5
    | 6, _ => c6
    | 7, _ => c7
    | 8, _ => c8
    | 9, _ => c9
    | 10, _ => c10
    | 11, _ => c11
    | 12, _ => c12
    | 13, _ => c13
    | 14, _ => c14
    | 15, _ => c15
    | 16, _ => c16
    | 17, _ => c17
    | 18, _ => c18
    | 19, _ => c19
    | 20, _ => c20
    | 21, _ => c21
    | 22, _ => c22
    | 23, _ => c23
    | 24, _ => c24
    | 25, _ => c25
    | 26, _ => c26
    | 27, _ => c27
    | 28, _ => c28
    | 29, _ => c29
    | 30, _ => c30
    | 31, _ => c31
    | 32, _ => c32
    | 33, _ => c33
    | 34, _ => c34
    | 35, _ => c35
    | 36, _ => c36
    | 37, _ => c37
    | 38, _ => c38
    | 39, _ => c39
    | 40, _ => c40
    | 41, _ => c41
    | j + 42, h => absurd h (by omega))
  · exact W.widen (by omega) (by omega) (hE _ _ _ hW hl)
