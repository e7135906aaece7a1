def q_s_isSmith (T : Nat → ClassId) (a0 : Nat) (i : Int32) (an : Nat) (am : Int32) (al : Int32) (ao : Int32) (au : Int32) (a1 : Nat) (a2 : Nat) (a3 : Nat) (a4 : Nat) (a5 : Nat) (a6 : Nat) (a7 : Nat) (a8 : Nat) (a9 : Nat) (a10 : Nat) : Option Value → va_W → Prop := fun rr ww => (∃ (j : Nat), rr = some (.int (nI 1)) ∧ ww = [(a0, .inr (5, [.int (nI an), .int am, .int al, .int ao, .int au, .ref a1, .ref a2, .ref a3, .ref a4, .ref a5, .ref a6, .ref a7, .ref a8, .ref a9, .ref a10]))] ∧ i = nI j ∧ j < an) ∨ (rr = some (.int (nI 0)) ∧ ww = [(a0, .inr (5, [.int (nI an), .int am, .int al, .int ao, .int au, .ref a1, .ref a2, .ref a3, .ref a4, .ref a5, .ref a6, .ref a7, .ref a8, .ref a9, .ref a10]))] ∧ (i < 0 ∨ nI an ≤ i))
set_option maxHeartbeats 4000000 in
set_option maxRecDepth 100000 in
theorem s_isSmith (l : Launch) (D : va_G) (T : Nat → ClassId) (a0 : Nat) (i : Int32) (an : Nat) (am : Int32) (al : Int32) (ao : Int32) (au : Int32) (a1 : Nat) (a2 : Nat) (a3 : Nat) (a4 : Nat) (a5 : Nat) (a6 : Nat) (a7 : Nat) (a8 : Nat) (a9 : Nat) (a10 : Nat) (h_n : an ≤ 10) : Ct l yX5_isSmith cX5_isSmith 2 (some .boolean) 0 0 0 D T [.ref a0, .int i] [(a0, .inr (5, [.int (nI an), .int am, .int al, .int ao, .int au, .ref a1, .ref a2, .ref a3, .ref a4, .ref a5, .ref a6, .ref a7, .ref a8, .ref a9, .ref a10]))] (q_s_isSmith T a0 i an am al ao au a1 a2 a3 a4 a5 a6 a7 a8 a9 a10) := by
  refine Ct.of (cc := cX5_isSmith) (maxL := 2) (ret := (some .boolean)) (by decide) (Nat.le_of_ble_eq_true rfl) ?_
  intro p e s m args below meth c A ls hC hnm V hl
  obtain ⟨hx, hb, hr, hml, hown, hts, hlocks⟩ := id hC
  generalize hH : s.heap = H at V ⊢
  clear hH
  have hl : lv_has ls 2 [(0, .ref a0), (1, .int i)] := hl
  generalize hlo : ([] : List Loc) = locs at V ⊢
  clear hlo
  refine lv_iload_n hx hb dX5_isSmith_0 rfl (lv_at hl 1 rfl) ?_
  refine lv_if_lt (tgt := 16) hx hb dX5_isSmith_1 (by decide) (fun c_1 => ?_) (fun c_1 => ?_)
  · skip
    refine lv_iconst (v := (nI 0)) hx hb dX5_isSmith_16 (by decide +kernel) ?_
    exact g_zret (Qr := (q_s_isSmith T a0 i an am al ao au a1 a2 a3 a4 a5 a6 a7 a8 a9 a10)) hC V ⟨(Nat.le_of_ble_eq_true rfl), (Nat.le_of_ble_eq_true rfl)⟩ (by first | decide +kernel | exact rfl) (.inr ⟨rfl, rfl, (by first | exact Or.inl (by assumption) | exact Or.inr (by assumption))⟩) dX5_isSmith_17
  · skip
    refine lv_iload_n hx hb dX5_isSmith_4 rfl (lv_at hl 1 rfl) ?_
    refine lv_aload_n hx hb dX5_isSmith_5 rfl (lv_at hl 0 rfl) ?_
    refine g_get hC V (ci := 5) uwX5 0 rfl rfl 0 (by decide) w_33 rfl rfl dX5_isSmith_6 ?_
    refine lv_icmp_ge (tgt := 16) hx hb dX5_isSmith_9 (by decide) (fun c_2 => ?_) (fun c_2 => ?_)
    · skip
      refine lv_iconst (v := (nI 0)) hx hb dX5_isSmith_16 (by decide +kernel) ?_
      exact g_zret (Qr := (q_s_isSmith T a0 i an am al ao au a1 a2 a3 a4 a5 a6 a7 a8 a9 a10)) hC V ⟨(Nat.le_of_ble_eq_true rfl), (Nat.le_of_ble_eq_true rfl)⟩ (by first | decide +kernel | exact rfl) (.inr ⟨rfl, rfl, (by first | exact Or.inl (by assumption) | exact Or.inr (by assumption))⟩) dX5_isSmith_17
    · skip
      obtain ⟨j, hj, ej⟩ := g_idx (by omega) c_1 c_2
      refine lv_iconst (v := (nI 1)) hx hb dX5_isSmith_12 (by decide +kernel) ?_
      refine lv_goto (tgt := 17) hx hb dX5_isSmith_13 (by decide) ?_
      exact g_zret (Qr := (q_s_isSmith T a0 i an am al ao au a1 a2 a3 a4 a5 a6 a7 a8 a9 a10)) hC V ⟨(Nat.le_of_ble_eq_true rfl), (Nat.le_of_ble_eq_true rfl)⟩ (by first | decide +kernel | exact rfl) (.inl ⟨j, rfl, rfl, ej, hj⟩) dX5_isSmith_17

def q_s_everyone (T : Nat → ClassId) (a0 : Nat) (an : Nat) (am : Int32) (al : Int32) (ao : Int32) (au : Int32) (a1 : Nat) (a2 : Nat) (a3 : Nat) (a4 : Nat) (a5 : Nat) (a6 : Nat) (a7 : Nat) (a8 : Nat) (a9 : Nat) (a10 : Nat) : Option Value → va_W → Prop := fun rr ww => (rr = some (.int (nI (2 ^ an - 1))) ∧ ww = [(a0, .inr (5, [.int (nI an), .int am, .int al, .int ao, .int au, .ref a1, .ref a2, .ref a3, .ref a4, .ref a5, .ref a6, .ref a7, .ref a8, .ref a9, .ref a10]))])
set_option maxHeartbeats 4000000 in
set_option maxRecDepth 100000 in
theorem s_everyone (l : Launch) (D : va_G) (T : Nat → ClassId) (a0 : Nat) (an : Nat) (am : Int32) (al : Int32) (ao : Int32) (au : Int32) (a1 : Nat) (a2 : Nat) (a3 : Nat) (a4 : Nat) (a5 : Nat) (a6 : Nat) (a7 : Nat) (a8 : Nat) (a9 : Nat) (a10 : Nat) (h_n : an ≤ 10) : Ct l yX5_everyone cX5_everyone 1 (some .int) 0 0 0 D T [.ref a0] [(a0, .inr (5, [.int (nI an), .int am, .int al, .int ao, .int au, .ref a1, .ref a2, .ref a3, .ref a4, .ref a5, .ref a6, .ref a7, .ref a8, .ref a9, .ref a10]))] (q_s_everyone T a0 an am al ao au a1 a2 a3 a4 a5 a6 a7 a8 a9 a10) := by
  refine Ct.of (cc := cX5_everyone) (maxL := 1) (ret := (some .int)) (by decide) (Nat.le_of_ble_eq_true rfl) ?_
  intro p e s m args below meth c A ls hC hnm V hl
  obtain ⟨hx, hb, hr, hml, hown, hts, hlocks⟩ := id hC
  generalize hH : s.heap = H at V ⊢
  clear hH
  have hl : lv_has ls 1 [(0, .ref a0)] := hl
  generalize hlo : ([] : List Loc) = locs at V ⊢
  clear hlo
  refine lv_iconst (v := (nI 1)) hx hb dX5_everyone_0 (by decide +kernel) ?_
  refine lv_aload_n hx hb dX5_everyone_1 rfl (lv_at hl 0 rfl) ?_
  refine g_get hC V (ci := 5) uwX5 0 rfl rfl 0 (by decide) w_33 rfl rfl dX5_everyone_2 ?_
  refine lv_ishl hx hb dX5_everyone_5 ?_
  refine g_vi (y := (nI (2 ^ an))) (shl_pow (by omega)) ?_
  refine lv_iconst (v := (nI 1)) hx hb dX5_everyone_6 (by decide +kernel) ?_
  refine lv_isub hx hb dX5_everyone_7 ?_
  refine g_vi (y := (nI (2 ^ an - 1))) (nI_sub (pw10 h_n).1) ?_
  exact g_iret (Qr := (q_s_everyone T a0 an am al ao au a1 a2 a3 a4 a5 a6 a7 a8 a9 a10)) hC V ⟨(Nat.le_of_ble_eq_true rfl), (Nat.le_of_ble_eq_true rfl)⟩ ⟨rfl, rfl⟩ dX5_everyone_8

def q_s_takeFrom (T : Nat → ClassId) (a0 : Nat) (b0 : Nat) (an : Int32) (am : Int32) (al : Int32) (ao : Int32) (au : Int32) (a1 : Nat) (a2 : Nat) (a3 : Nat) (a4 : Nat) (a5 : Nat) (a6 : Nat) (a7 : Nat) (a8 : Nat) (a9 : Nat) (a10 : Nat) (af1 : Nat → Int32) (af2 : Nat → Int32) (af3 : Nat → Int32) (af4 : Nat → Int32) (af5 : Nat → Int32) (af6 : Nat → Int32) (af7 : Nat → Int32) (af8 : Nat → Int32) (af9 : Nat → Int32) (bn : Nat) (bm : Int32) (bl : Int32) (bo : Int32) (bu : Int32) (b1 : Nat) (b2 : Nat) (b3 : Nat) (b4 : Nat) (b5 : Nat) (b6 : Nat) (b7 : Nat) (b8 : Nat) (b9 : Nat) (b10 : Nat) (bf1 : Nat → Int32) (bf2 : Nat → Int32) (bf3 : Nat → Int32) (bf4 : Nat → Int32) (bf5 : Nat → Int32) (bf6 : Nat → Int32) (bf7 : Nat → Int32) (bf8 : Nat → Int32) (bf9 : Nat → Int32) : Option Value → va_W → Prop := fun rr ww => (∃ (g1 : Nat → Int32) (g2 : Nat → Int32) (g3 : Nat → Int32) (g4 : Nat → Int32) (g5 : Nat → Int32) (g6 : Nat → Int32) (g7 : Nat → Int32) (g8 : Nat → Int32) (g9 : Nat → Int32), rr = none ∧ ww = [(a0, .inr (5, [.int (nI bn), .int bm, .int bl, .int bo, .int bu, .ref a1, .ref a2, .ref a3, .ref a4, .ref a5, .ref a6, .ref a7, .ref a8, .ref a9, .ref a10])), (a1, .inl (T 0, 10, .inl g1)), (a2, .inl (T 0, 10, .inl g2)), (a3, .inl (T 0, 10, .inl g3)), (a4, .inl (T 0, 10, .inl g4)), (a5, .inl (T 0, 10, .inl g5)), (a6, .inl (T 0, 10, .inl g6)), (a7, .inl (T 0, 10, .inl g7)), (a8, .inl (T 0, 10, .inl g8)), (a9, .inl (T 0, 10, .inl g9)), (b0, .inr (5, [.int (nI bn), .int bm, .int bl, .int bo, .int bu, .ref b1, .ref b2, .ref b3, .ref b4, .ref b5, .ref b6, .ref b7, .ref b8, .ref b9, .ref b10])), (b1, .inl (T 0, 10, .inl bf1)), (b2, .inl (T 0, 10, .inl bf2)), (b3, .inl (T 0, 10, .inl bf3)), (b4, .inl (T 0, 10, .inl bf4)), (b5, .inl (T 0, 10, .inl bf5)), (b6, .inl (T 0, 10, .inl bf6)), (b7, .inl (T 0, 10, .inl bf7)), (b8, .inl (T 0, 10, .inl bf8)), (b9, .inl (T 0, 10, .inl bf9))] ∧ (∀ i, i < bn → g1 i = bf1 i) ∧ (∀ i, i < bn → g2 i = bf2 i) ∧ (∀ i, i < bn → g3 i = bf3 i) ∧ (∀ i, i < bn → g4 i = bf4 i) ∧ (∀ i, i < bn → g5 i = bf5 i) ∧ (∀ i, i < bn → g6 i = bf6 i) ∧ (∀ i, i < bn → g7 i = bf7 i) ∧ (∀ i, i < bn → g8 i = bf8 i) ∧ (∀ i, i < bn → g9 i = bf9 i))
set_option maxHeartbeats 4000000 in
set_option maxRecDepth 100000 in
theorem s_takeFrom (l : Launch) (D : va_G) (T : Nat → ClassId) (a0 : Nat) (b0 : Nat) (an : Int32) (am : Int32) (al : Int32) (ao : Int32) (au : Int32) (a1 : Nat) (a2 : Nat) (a3 : Nat) (a4 : Nat) (a5 : Nat) (a6 : Nat) (a7 : Nat) (a8 : Nat) (a9 : Nat) (a10 : Nat) (af1 : Nat → Int32) (af2 : Nat → Int32) (af3 : Nat → Int32) (af4 : Nat → Int32) (af5 : Nat → Int32) (af6 : Nat → Int32) (af7 : Nat → Int32) (af8 : Nat → Int32) (af9 : Nat → Int32) (bn : Nat) (bm : Int32) (bl : Int32) (bo : Int32) (bu : Int32) (b1 : Nat) (b2 : Nat) (b3 : Nat) (b4 : Nat) (b5 : Nat) (b6 : Nat) (b7 : Nat) (b8 : Nat) (b9 : Nat) (b10 : Nat) (bf1 : Nat → Int32) (bf2 : Nat → Int32) (bf3 : Nat → Int32) (bf4 : Nat → Int32) (bf5 : Nat → Int32) (bf6 : Nat → Int32) (bf7 : Nat → Int32) (bf8 : Nat → Int32) (bf9 : Nat → Int32) (h_n : bn ≤ 10) : Ct l yX5_takeFrom cX5_takeFrom 3 none 0 0 0 D T [.ref a0, .ref b0] [(a0, .inr (5, [.int an, .int am, .int al, .int ao, .int au, .ref a1, .ref a2, .ref a3, .ref a4, .ref a5, .ref a6, .ref a7, .ref a8, .ref a9, .ref a10])), (a1, .inl (T 0, 10, .inl af1)), (a2, .inl (T 0, 10, .inl af2)), (a3, .inl (T 0, 10, .inl af3)), (a4, .inl (T 0, 10, .inl af4)), (a5, .inl (T 0, 10, .inl af5)), (a6, .inl (T 0, 10, .inl af6)), (a7, .inl (T 0, 10, .inl af7)), (a8, .inl (T 0, 10, .inl af8)), (a9, .inl (T 0, 10, .inl af9)), (b0, .inr (5, [.int (nI bn), .int bm, .int bl, .int bo, .int bu, .ref b1, .ref b2, .ref b3, .ref b4, .ref b5, .ref b6, .ref b7, .ref b8, .ref b9, .ref b10])), (b1, .inl (T 0, 10, .inl bf1)), (b2, .inl (T 0, 10, .inl bf2)), (b3, .inl (T 0, 10, .inl bf3)), (b4, .inl (T 0, 10, .inl bf4)), (b5, .inl (T 0, 10, .inl bf5)), (b6, .inl (T 0, 10, .inl bf6)), (b7, .inl (T 0, 10, .inl bf7)), (b8, .inl (T 0, 10, .inl bf8)), (b9, .inl (T 0, 10, .inl bf9))] (q_s_takeFrom T a0 b0 an am al ao au a1 a2 a3 a4 a5 a6 a7 a8 a9 a10 af1 af2 af3 af4 af5 af6 af7 af8 af9 bn bm bl bo bu b1 b2 b3 b4 b5 b6 b7 b8 b9 b10 bf1 bf2 bf3 bf4 bf5 bf6 bf7 bf8 bf9) := by
  refine Ct.of (cc := cX5_takeFrom) (maxL := 3) (ret := none) (by decide) (Nat.le_of_ble_eq_true rfl) ?_
  intro p e s m args below meth c A ls hC hnm V hl
  obtain ⟨hx, hb, hr, hml, hown, hts, hlocks⟩ := id hC
  generalize hH : s.heap = H at V ⊢
  clear hH
  have hl : lv_has ls 3 [(0, .ref a0), (1, .ref b0)] := hl
  generalize hlo : ([] : List Loc) = locs at V ⊢
  clear hlo
  refine lv_aload_n hx hb dX5_takeFrom_0 rfl (lv_at hl 0 rfl) ?_
  refine lv_aload_n hx hb dX5_takeFrom_1 rfl (lv_at hl 1 rfl) ?_
  refine g_get hC V (ci := 5) uwX5 10 rfl rfl 0 (by decide) w_33 rfl rfl dX5_takeFrom_2 ?_
  refine g_put hC V (ci := 5) uwX5 tyX5 tyX5_ok nmX5 0 rfl rfl 0 (by decide) w_33 rfl rfl rfl rfl (Nat.le_of_ble_eq_true rfl) (ws' := [(a0, .inr (5, [.int (nI bn), .int am, .int al, .int ao, .int au, .ref a1, .ref a2, .ref a3, .ref a4, .ref a5, .ref a6, .ref a7, .ref a8, .ref a9, .ref a10])), (a1, .inl (T 0, 10, .inl af1)), (a2, .inl (T 0, 10, .inl af2)), (a3, .inl (T 0, 10, .inl af3)), (a4, .inl (T 0, 10, .inl af4)), (a5, .inl (T 0, 10, .inl af5)), (a6, .inl (T 0, 10, .inl af6)), (a7, .inl (T 0, 10, .inl af7)), (a8, .inl (T 0, 10, .inl af8)), (a9, .inl (T 0, 10, .inl af9)), (b0, .inr (5, [.int (nI bn), .int bm, .int bl, .int bo, .int bu, .ref b1, .ref b2, .ref b3, .ref b4, .ref b5, .ref b6, .ref b7, .ref b8, .ref b9, .ref b10])), (b1, .inl (T 0, 10, .inl bf1)), (b2, .inl (T 0, 10, .inl bf2)), (b3, .inl (T 0, 10, .inl bf3)), (b4, .inl (T 0, 10, .inl bf4)), (b5, .inl (T 0, 10, .inl bf5)), (b6, .inl (T 0, 10, .inl bf6)), (b7, .inl (T 0, 10, .inl bf7)), (b8, .inl (T 0, 10, .inl bf8)), (b9, .inl (T 0, 10, .inl bf9))]) rfl dX5_takeFrom_5 (fun H locs V => ?_)
  refine lv_aload_n hx hb dX5_takeFrom_8 rfl (lv_at hl 0 rfl) ?_
  refine lv_aload_n hx hb dX5_takeFrom_9 rfl (lv_at hl 1 rfl) ?_
  refine g_get hC V (ci := 5) uwX5 10 rfl rfl 1 (by decide) w_39 rfl rfl dX5_takeFrom_10 ?_
  refine g_put hC V (ci := 5) uwX5 tyX5 tyX5_ok nmX5 0 rfl rfl 1 (by decide) w_39 rfl rfl rfl rfl (Nat.le_of_ble_eq_true rfl) (ws' := [(a0, .inr (5, [.int (nI bn), .int bm, .int al, .int ao, .int au, .ref a1, .ref a2, .ref a3, .ref a4, .ref a5, .ref a6, .ref a7, .ref a8, .ref a9, .ref a10])), (a1, .inl (T 0, 10, .inl af1)), (a2, .inl (T 0, 10, .inl af2)), (a3, .inl (T 0, 10, .inl af3)), (a4, .inl (T 0, 10, .inl af4)), (a5, .inl (T 0, 10, .inl af5)), (a6, .inl (T 0, 10, .inl af6)), (a7, .inl (T 0, 10, .inl af7)), (a8, .inl (T 0, 10, .inl af8)), (a9, .inl (T 0, 10, .inl af9)), (b0, .inr (5, [.int (nI bn), .int bm, .int bl, .int bo, .int bu, .ref b1, .ref b2, .ref b3, .ref b4, .ref b5, .ref b6, .ref b7, .ref b8, .ref b9, .ref b10])), (b1, .inl (T 0, 10, .inl bf1)), (b2, .inl (T 0, 10, .inl bf2)), (b3, .inl (T 0, 10, .inl bf3)), (b4, .inl (T 0, 10, .inl bf4)), (b5, .inl (T 0, 10, .inl bf5)), (b6, .inl (T 0, 10, .inl bf6)), (b7, .inl (T 0, 10, .inl bf7)), (b8, .inl (T 0, 10, .inl bf8)), (b9, .inl (T 0, 10, .inl bf9))]) rfl dX5_takeFrom_13 (fun H locs V => ?_)
  refine lv_aload_n hx hb dX5_takeFrom_16 rfl (lv_at hl 0 rfl) ?_
  refine lv_aload_n hx hb dX5_takeFrom_17 rfl (lv_at hl 1 rfl) ?_
  refine g_get hC V (ci := 5) uwX5 10 rfl rfl 2 (by decide) w_42 rfl rfl dX5_takeFrom_18 ?_
  refine g_put hC V (ci := 5) uwX5 tyX5 tyX5_ok nmX5 0 rfl rfl 2 (by decide) w_42 rfl rfl rfl rfl (Nat.le_of_ble_eq_true rfl) (ws' := [(a0, .inr (5, [.int (nI bn), .int bm, .int bl, .int ao, .int au, .ref a1, .ref a2, .ref a3, .ref a4, .ref a5, .ref a6, .ref a7, .ref a8, .ref a9, .ref a10])), (a1, .inl (T 0, 10, .inl af1)), (a2, .inl (T 0, 10, .inl af2)), (a3, .inl (T 0, 10, .inl af3)), (a4, .inl (T 0, 10, .inl af4)), (a5, .inl (T 0, 10, .inl af5)), (a6, .inl (T 0, 10, .inl af6)), (a7, .inl (T 0, 10, .inl af7)), (a8, .inl (T 0, 10, .inl af8)), (a9, .inl (T 0, 10, .inl af9)), (b0, .inr (5, [.int (nI bn), .int bm, .int bl, .int bo, .int bu, .ref b1, .ref b2, .ref b3, .ref b4, .ref b5, .ref b6, .ref b7, .ref b8, .ref b9, .ref b10])), (b1, .inl (T 0, 10, .inl bf1)), (b2, .inl (T 0, 10, .inl bf2)), (b3, .inl (T 0, 10, .inl bf3)), (b4, .inl (T 0, 10, .inl bf4)), (b5, .inl (T 0, 10, .inl bf5)), (b6, .inl (T 0, 10, .inl bf6)), (b7, .inl (T 0, 10, .inl bf7)), (b8, .inl (T 0, 10, .inl bf8)), (b9, .inl (T 0, 10, .inl bf9))]) rfl dX5_takeFrom_21 (fun H locs V => ?_)
  refine lv_aload_n hx hb dX5_takeFrom_24 rfl (lv_at hl 0 rfl) ?_
  refine lv_aload_n hx hb dX5_takeFrom_25 rfl (lv_at hl 1 rfl) ?_
  refine g_get hC V (ci := 5) uwX5 10 rfl rfl 3 (by decide) w_45 rfl rfl dX5_takeFrom_26 ?_
  refine g_put hC V (ci := 5) uwX5 tyX5 tyX5_ok nmX5 0 rfl rfl 3 (by decide) w_45 rfl rfl rfl rfl (Nat.le_of_ble_eq_true rfl) (ws' := [(a0, .inr (5, [.int (nI bn), .int bm, .int bl, .int bo, .int au, .ref a1, .ref a2, .ref a3, .ref a4, .ref a5, .ref a6, .ref a7, .ref a8, .ref a9, .ref a10])), (a1, .inl (T 0, 10, .inl af1)), (a2, .inl (T 0, 10, .inl af2)), (a3, .inl (T 0, 10, .inl af3)), (a4, .inl (T 0, 10, .inl af4)), (a5, .inl (T 0, 10, .inl af5)), (a6, .inl (T 0, 10, .inl af6)), (a7, .inl (T 0, 10, .inl af7)), (a8, .inl (T 0, 10, .inl af8)), (a9, .inl (T 0, 10, .inl af9)), (b0, .inr (5, [.int (nI bn), .int bm, .int bl, .int bo, .int bu, .ref b1, .ref b2, .ref b3, .ref b4, .ref b5, .ref b6, .ref b7, .ref b8, .ref b9, .ref b10])), (b1, .inl (T 0, 10, .inl bf1)), (b2, .inl (T 0, 10, .inl bf2)), (b3, .inl (T 0, 10, .inl bf3)), (b4, .inl (T 0, 10, .inl bf4)), (b5, .inl (T 0, 10, .inl bf5)), (b6, .inl (T 0, 10, .inl bf6)), (b7, .inl (T 0, 10, .inl bf7)), (b8, .inl (T 0, 10, .inl bf8)), (b9, .inl (T 0, 10, .inl bf9))]) rfl dX5_takeFrom_29 (fun H locs V => ?_)
  refine lv_aload_n hx hb dX5_takeFrom_32 rfl (lv_at hl 0 rfl) ?_
  refine lv_aload_n hx hb dX5_takeFrom_33 rfl (lv_at hl 1 rfl) ?_
  refine g_get hC V (ci := 5) uwX5 10 rfl rfl 4 (by decide) w_49 rfl rfl dX5_takeFrom_34 ?_
  refine g_put hC V (ci := 5) uwX5 tyX5 tyX5_ok nmX5 0 rfl rfl 4 (by decide) w_49 rfl rfl rfl rfl (Nat.le_of_ble_eq_true rfl) (ws' := [(a0, .inr (5, [.int (nI bn), .int bm, .int bl, .int bo, .int bu, .ref a1, .ref a2, .ref a3, .ref a4, .ref a5, .ref a6, .ref a7, .ref a8, .ref a9, .ref a10])), (a1, .inl (T 0, 10, .inl af1)), (a2, .inl (T 0, 10, .inl af2)), (a3, .inl (T 0, 10, .inl af3)), (a4, .inl (T 0, 10, .inl af4)), (a5, .inl (T 0, 10, .inl af5)), (a6, .inl (T 0, 10, .inl af6)), (a7, .inl (T 0, 10, .inl af7)), (a8, .inl (T 0, 10, .inl af8)), (a9, .inl (T 0, 10, .inl af9)), (b0, .inr (5, [.int (nI bn), .int bm, .int bl, .int bo, .int bu, .ref b1, .ref b2, .ref b3, .ref b4, .ref b5, .ref b6, .ref b7, .ref b8, .ref b9, .ref b10])), (b1, .inl (T 0, 10, .inl bf1)), (b2, .inl (T 0, 10, .inl bf2)), (b3, .inl (T 0, 10, .inl bf3)), (b4, .inl (T 0, 10, .inl bf4)), (b5, .inl (T 0, 10, .inl bf5)), (b6, .inl (T 0, 10, .inl bf6)), (b7, .inl (T 0, 10, .inl bf7)), (b8, .inl (T 0, 10, .inl bf8)), (b9, .inl (T 0, 10, .inl bf9))]) rfl dX5_takeFrom_37 (fun H locs V => ?_)
  refine lv_iconst (v := (nI 0)) hx hb dX5_takeFrom_40 (by decide +kernel) ?_
  refine lv_istore_n (lv' := [(2, .int (nI 0)), (0, .ref a0), (1, .ref b0)]) hx hb dX5_takeFrom_41 rfl hl (by decide) rfl (fun ls hl => ?_)
  have L_1 : ∀ (fu : Nat) (k : Nat) (g1 : Nat → Int32) (g2 : Nat → Int32) (g3 : Nat → Int32) (g4 : Nat → Int32) (g5 : Nat → Int32) (g6 : Nat → Int32) (g7 : Nat → Int32) (g8 : Nat → Int32) (g9 : Nat → Int32), k ≤ bn → (∀ i, i < k → g1 i = bf1 i) → (∀ i, i < k → g2 i = bf2 i) → (∀ i, i < k → g3 i = bf3 i) → (∀ i, i < k → g4 i = bf4 i) → (∀ i, i < k → g5 i = bf5 i) → (∀ i, i < k → g6 i = bf6 i) → (∀ i, i < k → g7 i = bf7 i) → (∀ i, i < k → g8 i = bf8 i) → (∀ i, i < k → g9 i = bf9 i) → bn - k < fu → ∀ (H : Heap) (locs : List Loc) (ls : Array Slot), gW D T A s [(a0, .inr (5, [.int (nI bn), .int bm, .int bl, .int bo, .int bu, .ref a1, .ref a2, .ref a3, .ref a4, .ref a5, .ref a6, .ref a7, .ref a8, .ref a9, .ref a10])), (a1, .inl (T 0, 10, .inl g1)), (a2, .inl (T 0, 10, .inl g2)), (a3, .inl (T 0, 10, .inl g3)), (a4, .inl (T 0, 10, .inl g4)), (a5, .inl (T 0, 10, .inl g5)), (a6, .inl (T 0, 10, .inl g6)), (a7, .inl (T 0, 10, .inl g7)), (a8, .inl (T 0, 10, .inl g8)), (a9, .inl (T 0, 10, .inl g9)), (b0, .inr (5, [.int (nI bn), .int bm, .int bl, .int bo, .int bu, .ref b1, .ref b2, .ref b3, .ref b4, .ref b5, .ref b6, .ref b7, .ref b8, .ref b9, .ref b10])), (b1, .inl (T 0, 10, .inl bf1)), (b2, .inl (T 0, 10, .inl bf2)), (b3, .inl (T 0, 10, .inl bf3)), (b4, .inl (T 0, 10, .inl bf4)), (b5, .inl (T 0, 10, .inl bf5)), (b6, .inl (T 0, 10, .inl bf6)), (b7, .inl (T 0, 10, .inl bf7)), (b8, .inl (T 0, 10, .inl bf8)), (b9, .inl (T 0, 10, .inl bf9))] H locs → lv_has ls 3 [(2, .int (nI k)), (0, .ref a0), (1, .ref b0)] → W p l e (rmD 0 0 0) s m args below meth c H locs 0 0 (MQ below (gQ D A (q_s_takeFrom T a0 b0 an am al ao au a1 a2 a3 a4 a5 a6 a7 a8 a9 a10 af1 af2 af3 af4 af5 af6 af7 af8 af9 bn bm bl bo bu b1 b2 b3 b4 b5 b6 b7 b8 b9 b10 bf1 bf2 bf3 bf4 bf5 bf6 bf7 bf8 bf9)) args s 0 0 A) (F0 m 42 ls []) := by
    intro fu_42
    induction fu_42 with
    | zero => intro k g1 g2 g3 g4 g5 g6 g7 g8 g9 hk hc1 hc2 hc3 hc4 hc5 hc6 hc7 hc8 hc9 hmu; exact absurd hmu (Nat.not_lt_zero _)
    | succ fu_42 ih_42 =>
      intro k g1 g2 g3 g4 g5 g6 g7 g8 g9 hk hc1 hc2 hc3 hc4 hc5 hc6 hc7 hc8 hc9 hmu_42 H locs ls V hl
      refine lv_iload_n hx hb dX5_takeFrom_42 rfl (lv_at hl 0 rfl) ?_
      refine lv_aload_n hx hb dX5_takeFrom_43 rfl (lv_at hl 1 rfl) ?_
      refine g_get hC V (ci := 5) uwX5 0 rfl rfl 0 (by decide) w_33 rfl rfl dX5_takeFrom_44 ?_
      refine lv_icmp_ge (tgt := 164) hx hb dX5_takeFrom_47 (by decide) (fun c_2 => ?_) (fun c_2 => ?_)
      · skip
        have c_2 := b_le (by omega) (by omega) c_2
        exact g_vret (Qr := (q_s_takeFrom T a0 b0 an am al ao au a1 a2 a3 a4 a5 a6 a7 a8 a9 a10 af1 af2 af3 af4 af5 af6 af7 af8 af9 bn bm bl bo bu b1 b2 b3 b4 b5 b6 b7 b8 b9 b10 bf1 bf2 bf3 bf4 bf5 bf6 bf7 bf8 bf9)) hC V ⟨(Nat.le_of_ble_eq_true rfl), (Nat.le_of_ble_eq_true rfl)⟩ ⟨g1, g2, g3, g4, g5, g6, g7, g8, g9, rfl, rfl, (fun i h => hc1 i (by omega)), (fun i h => hc2 i (by omega)), (fun i h => hc3 i (by omega)), (fun i h => hc4 i (by omega)), (fun i h => hc5 i (by omega)), (fun i h => hc6 i (by omega)), (fun i h => hc7 i (by omega)), (fun i h => hc8 i (by omega)), (fun i h => hc9 i (by omega))⟩ dX5_takeFrom_164
      · skip
        have c_2 := b_nle (by omega) (by omega) c_2
        refine lv_aload_n hx hb dX5_takeFrom_50 rfl (lv_at hl 1 rfl) ?_
        refine g_get hC V (ci := 5) uwX5 0 rfl rfl 5 (by decide) w_51 rfl rfl dX5_takeFrom_51 ?_
        refine lv_iload_n hx hb dX5_takeFrom_54 rfl (lv_at hl 0 rfl) ?_
        refine lv_aload_n hx hb dX5_takeFrom_55 rfl (lv_at hl 2 rfl) ?_
        refine g_get hC V (ci := 5) uwX5 10 rfl rfl 5 (by decide) w_51 rfl rfl dX5_takeFrom_56 ?_
        refine lv_iload_n hx hb dX5_takeFrom_59 rfl (lv_at hl 0 rfl) ?_
        refine g_iald hC V 11 rfl (vp_in_nI (by omega) (by omega)) (v := (bf1 k)) (congrArg _ (nI_clamp (by omega))) dX5_takeFrom_60 ?_
        refine g_iast hC V 1 rfl (vp_in_nI (by omega) (by omega)) (f' := (upd g1 k (bf1 k))) (by rw [nI_clamp (by omega)]) (ws' := [(a0, .inr (5, [.int (nI bn), .int bm, .int bl, .int bo, .int bu, .ref a1, .ref a2, .ref a3, .ref a4, .ref a5, .ref a6, .ref a7, .ref a8, .ref a9, .ref a10])), (a1, .inl (T 0, 10, .inl (upd g1 k (bf1 k)))), (a2, .inl (T 0, 10, .inl g2)), (a3, .inl (T 0, 10, .inl g3)), (a4, .inl (T 0, 10, .inl g4)), (a5, .inl (T 0, 10, .inl g5)), (a6, .inl (T 0, 10, .inl g6)), (a7, .inl (T 0, 10, .inl g7)), (a8, .inl (T 0, 10, .inl g8)), (a9, .inl (T 0, 10, .inl g9)), (b0, .inr (5, [.int (nI bn), .int bm, .int bl, .int bo, .int bu, .ref b1, .ref b2, .ref b3, .ref b4, .ref b5, .ref b6, .ref b7, .ref b8, .ref b9, .ref b10])), (b1, .inl (T 0, 10, .inl bf1)), (b2, .inl (T 0, 10, .inl bf2)), (b3, .inl (T 0, 10, .inl bf3)), (b4, .inl (T 0, 10, .inl bf4)), (b5, .inl (T 0, 10, .inl bf5)), (b6, .inl (T 0, 10, .inl bf6)), (b7, .inl (T 0, 10, .inl bf7)), (b8, .inl (T 0, 10, .inl bf8)), (b9, .inl (T 0, 10, .inl bf9))]) rfl dX5_takeFrom_61 (fun H locs V => ?_)
        refine lv_aload_n hx hb dX5_takeFrom_62 rfl (lv_at hl 1 rfl) ?_
        refine g_get hC V (ci := 5) uwX5 0 rfl rfl 6 (by decide) w_56 rfl rfl dX5_takeFrom_63 ?_
        refine lv_iload_n hx hb dX5_takeFrom_66 rfl (lv_at hl 0 rfl) ?_
        refine lv_aload_n hx hb dX5_takeFrom_67 rfl (lv_at hl 2 rfl) ?_
        refine g_get hC V (ci := 5) uwX5 10 rfl rfl 6 (by decide) w_56 rfl rfl dX5_takeFrom_68 ?_
        refine lv_iload_n hx hb dX5_takeFrom_71 rfl (lv_at hl 0 rfl) ?_
        refine g_iald hC V 12 rfl (vp_in_nI (by omega) (by omega)) (v := (bf2 k)) (congrArg _ (nI_clamp (by omega))) dX5_takeFrom_72 ?_
        refine g_iast hC V 2 rfl (vp_in_nI (by omega) (by omega)) (f' := (upd g2 k (bf2 k))) (by rw [nI_clamp (by omega)]) (ws' := [(a0, .inr (5, [.int (nI bn), .int bm, .int bl, .int bo, .int bu, .ref a1, .ref a2, .ref a3, .ref a4, .ref a5, .ref a6, .ref a7, .ref a8, .ref a9, .ref a10])), (a1, .inl (T 0, 10, .inl (upd g1 k (bf1 k)))), (a2, .inl (T 0, 10, .inl (upd g2 k (bf2 k)))), (a3, .inl (T 0, 10, .inl g3)), (a4, .inl (T 0, 10, .inl g4)), (a5, .inl (T 0, 10, .inl g5)), (a6, .inl (T 0, 10, .inl g6)), (a7, .inl (T 0, 10, .inl g7)), (a8, .inl (T 0, 10, .inl g8)), (a9, .inl (T 0, 10, .inl g9)), (b0, .inr (5, [.int (nI bn), .int bm, .int bl, .int bo, .int bu, .ref b1, .ref b2, .ref b3, .ref b4, .ref b5, .ref b6, .ref b7, .ref b8, .ref b9, .ref b10])), (b1, .inl (T 0, 10, .inl bf1)), (b2, .inl (T 0, 10, .inl bf2)), (b3, .inl (T 0, 10, .inl bf3)), (b4, .inl (T 0, 10, .inl bf4)), (b5, .inl (T 0, 10, .inl bf5)), (b6, .inl (T 0, 10, .inl bf6)), (b7, .inl (T 0, 10, .inl bf7)), (b8, .inl (T 0, 10, .inl bf8)), (b9, .inl (T 0, 10, .inl bf9))]) rfl dX5_takeFrom_73 (fun H locs V => ?_)
        refine lv_aload_n hx hb dX5_takeFrom_74 rfl (lv_at hl 1 rfl) ?_
        refine g_get hC V (ci := 5) uwX5 0 rfl rfl 7 (by decide) w_62 rfl rfl dX5_takeFrom_75 ?_
        refine lv_iload_n hx hb dX5_takeFrom_78 rfl (lv_at hl 0 rfl) ?_
        refine lv_aload_n hx hb dX5_takeFrom_79 rfl (lv_at hl 2 rfl) ?_
        refine g_get hC V (ci := 5) uwX5 10 rfl rfl 7 (by decide) w_62 rfl rfl dX5_takeFrom_80 ?_
        refine lv_iload_n hx hb dX5_takeFrom_83 rfl (lv_at hl 0 rfl) ?_
        refine g_iald hC V 13 rfl (vp_in_nI (by omega) (by omega)) (v := (bf3 k)) (congrArg _ (nI_clamp (by omega))) dX5_takeFrom_84 ?_
        refine g_iast hC V 3 rfl (vp_in_nI (by omega) (by omega)) (f' := (upd g3 k (bf3 k))) (by rw [nI_clamp (by omega)]) (ws' := [(a0, .inr (5, [.int (nI bn), .int bm, .int bl, .int bo, .int bu, .ref a1, .ref a2, .ref a3, .ref a4, .ref a5, .ref a6, .ref a7, .ref a8, .ref a9, .ref a10])), (a1, .inl (T 0, 10, .inl (upd g1 k (bf1 k)))), (a2, .inl (T 0, 10, .inl (upd g2 k (bf2 k)))), (a3, .inl (T 0, 10, .inl (upd g3 k (bf3 k)))), (a4, .inl (T 0, 10, .inl g4)), (a5, .inl (T 0, 10, .inl g5)), (a6, .inl (T 0, 10, .inl g6)), (a7, .inl (T 0, 10, .inl g7)), (a8, .inl (T 0, 10, .inl g8)), (a9, .inl (T 0, 10, .inl g9)), (b0, .inr (5, [.int (nI bn), .int bm, .int bl, .int bo, .int bu, .ref b1, .ref b2, .ref b3, .ref b4, .ref b5, .ref b6, .ref b7, .ref b8, .ref b9, .ref b10])), (b1, .inl (T 0, 10, .inl bf1)), (b2, .inl (T 0, 10, .inl bf2)), (b3, .inl (T 0, 10, .inl bf3)), (b4, .inl (T 0, 10, .inl bf4)), (b5, .inl (T 0, 10, .inl bf5)), (b6, .inl (T 0, 10, .inl bf6)), (b7, .inl (T 0, 10, .inl bf7)), (b8, .inl (T 0, 10, .inl bf8)), (b9, .inl (T 0, 10, .inl bf9))]) rfl dX5_takeFrom_85 (fun H locs V => ?_)
        refine lv_aload_n hx hb dX5_takeFrom_86 rfl (lv_at hl 1 rfl) ?_
        refine g_get hC V (ci := 5) uwX5 0 rfl rfl 8 (by decide) w_67 rfl rfl dX5_takeFrom_87 ?_
        refine lv_iload_n hx hb dX5_takeFrom_90 rfl (lv_at hl 0 rfl) ?_
        refine lv_aload_n hx hb dX5_takeFrom_91 rfl (lv_at hl 2 rfl) ?_
        refine g_get hC V (ci := 5) uwX5 10 rfl rfl 8 (by decide) w_67 rfl rfl dX5_takeFrom_92 ?_
        refine lv_iload_n hx hb dX5_takeFrom_95 rfl (lv_at hl 0 rfl) ?_
        refine g_iald hC V 14 rfl (vp_in_nI (by omega) (by omega)) (v := (bf4 k)) (congrArg _ (nI_clamp (by omega))) dX5_takeFrom_96 ?_
        refine g_iast hC V 4 rfl (vp_in_nI (by omega) (by omega)) (f' := (upd g4 k (bf4 k))) (by rw [nI_clamp (by omega)]) (ws' := [(a0, .inr (5, [.int (nI bn), .int bm, .int bl, .int bo, .int bu, .ref a1, .ref a2, .ref a3, .ref a4, .ref a5, .ref a6, .ref a7, .ref a8, .ref a9, .ref a10])), (a1, .inl (T 0, 10, .inl (upd g1 k (bf1 k)))), (a2, .inl (T 0, 10, .inl (upd g2 k (bf2 k)))), (a3, .inl (T 0, 10, .inl (upd g3 k (bf3 k)))), (a4, .inl (T 0, 10, .inl (upd g4 k (bf4 k)))), (a5, .inl (T 0, 10, .inl g5)), (a6, .inl (T 0, 10, .inl g6)), (a7, .inl (T 0, 10, .inl g7)), (a8, .inl (T 0, 10, .inl g8)), (a9, .inl (T 0, 10, .inl g9)), (b0, .inr (5, [.int (nI bn), .int bm, .int bl, .int bo, .int bu, .ref b1, .ref b2, .ref b3, .ref b4, .ref b5, .ref b6, .ref b7, .ref b8, .ref b9, .ref b10])), (b1, .inl (T 0, 10, .inl bf1)), (b2, .inl (T 0, 10, .inl bf2)), (b3, .inl (T 0, 10, .inl bf3)), (b4, .inl (T 0, 10, .inl bf4)), (b5, .inl (T 0, 10, .inl bf5)), (b6, .inl (T 0, 10, .inl bf6)), (b7, .inl (T 0, 10, .inl bf7)), (b8, .inl (T 0, 10, .inl bf8)), (b9, .inl (T 0, 10, .inl bf9))]) rfl dX5_takeFrom_97 (fun H locs V => ?_)
        refine lv_aload_n hx hb dX5_takeFrom_98 rfl (lv_at hl 1 rfl) ?_
        refine g_get hC V (ci := 5) uwX5 0 rfl rfl 9 (by decide) w_70 rfl rfl dX5_takeFrom_99 ?_
        refine lv_iload_n hx hb dX5_takeFrom_102 rfl (lv_at hl 0 rfl) ?_
        refine lv_aload_n hx hb dX5_takeFrom_103 rfl (lv_at hl 2 rfl) ?_
        refine g_get hC V (ci := 5) uwX5 10 rfl rfl 9 (by decide) w_70 rfl rfl dX5_takeFrom_104 ?_
        refine lv_iload_n hx hb dX5_takeFrom_107 rfl (lv_at hl 0 rfl) ?_
        refine g_iald hC V 15 rfl (vp_in_nI (by omega) (by omega)) (v := (bf5 k)) (congrArg _ (nI_clamp (by omega))) dX5_takeFrom_108 ?_
        refine g_iast hC V 5 rfl (vp_in_nI (by omega) (by omega)) (f' := (upd g5 k (bf5 k))) (by rw [nI_clamp (by omega)]) (ws' := [(a0, .inr (5, [.int (nI bn), .int bm, .int bl, .int bo, .int bu, .ref a1, .ref a2, .ref a3, .ref a4, .ref a5, .ref a6, .ref a7, .ref a8, .ref a9, .ref a10])), (a1, .inl (T 0, 10, .inl (upd g1 k (bf1 k)))), (a2, .inl (T 0, 10, .inl (upd g2 k (bf2 k)))), (a3, .inl (T 0, 10, .inl (upd g3 k (bf3 k)))), (a4, .inl (T 0, 10, .inl (upd g4 k (bf4 k)))), (a5, .inl (T 0, 10, .inl (upd g5 k (bf5 k)))), (a6, .inl (T 0, 10, .inl g6)), (a7, .inl (T 0, 10, .inl g7)), (a8, .inl (T 0, 10, .inl g8)), (a9, .inl (T 0, 10, .inl g9)), (b0, .inr (5, [.int (nI bn), .int bm, .int bl, .int bo, .int bu, .ref b1, .ref b2, .ref b3, .ref b4, .ref b5, .ref b6, .ref b7, .ref b8, .ref b9, .ref b10])), (b1, .inl (T 0, 10, .inl bf1)), (b2, .inl (T 0, 10, .inl bf2)), (b3, .inl (T 0, 10, .inl bf3)), (b4, .inl (T 0, 10, .inl bf4)), (b5, .inl (T 0, 10, .inl bf5)), (b6, .inl (T 0, 10, .inl bf6)), (b7, .inl (T 0, 10, .inl bf7)), (b8, .inl (T 0, 10, .inl bf8)), (b9, .inl (T 0, 10, .inl bf9))]) rfl dX5_takeFrom_109 (fun H locs V => ?_)
        refine lv_aload_n hx hb dX5_takeFrom_110 rfl (lv_at hl 1 rfl) ?_
        refine g_get hC V (ci := 5) uwX5 0 rfl rfl 10 (by decide) w_74 rfl rfl dX5_takeFrom_111 ?_
        refine lv_iload_n hx hb dX5_takeFrom_114 rfl (lv_at hl 0 rfl) ?_
        refine lv_aload_n hx hb dX5_takeFrom_115 rfl (lv_at hl 2 rfl) ?_
        refine g_get hC V (ci := 5) uwX5 10 rfl rfl 10 (by decide) w_74 rfl rfl dX5_takeFrom_116 ?_
        refine lv_iload_n hx hb dX5_takeFrom_119 rfl (lv_at hl 0 rfl) ?_
        refine g_iald hC V 16 rfl (vp_in_nI (by omega) (by omega)) (v := (bf6 k)) (congrArg _ (nI_clamp (by omega))) dX5_takeFrom_120 ?_
        refine g_iast hC V 6 rfl (vp_in_nI (by omega) (by omega)) (f' := (upd g6 k (bf6 k))) (by rw [nI_clamp (by omega)]) (ws' := [(a0, .inr (5, [.int (nI bn), .int bm, .int bl, .int bo, .int bu, .ref a1, .ref a2, .ref a3, .ref a4, .ref a5, .ref a6, .ref a7, .ref a8, .ref a9, .ref a10])), (a1, .inl (T 0, 10, .inl (upd g1 k (bf1 k)))), (a2, .inl (T 0, 10, .inl (upd g2 k (bf2 k)))), (a3, .inl (T 0, 10, .inl (upd g3 k (bf3 k)))), (a4, .inl (T 0, 10, .inl (upd g4 k (bf4 k)))), (a5, .inl (T 0, 10, .inl (upd g5 k (bf5 k)))), (a6, .inl (T 0, 10, .inl (upd g6 k (bf6 k)))), (a7, .inl (T 0, 10, .inl g7)), (a8, .inl (T 0, 10, .inl g8)), (a9, .inl (T 0, 10, .inl g9)), (b0, .inr (5, [.int (nI bn), .int bm, .int bl, .int bo, .int bu, .ref b1, .ref b2, .ref b3, .ref b4, .ref b5, .ref b6, .ref b7, .ref b8, .ref b9, .ref b10])), (b1, .inl (T 0, 10, .inl bf1)), (b2, .inl (T 0, 10, .inl bf2)), (b3, .inl (T 0, 10, .inl bf3)), (b4, .inl (T 0, 10, .inl bf4)), (b5, .inl (T 0, 10, .inl bf5)), (b6, .inl (T 0, 10, .inl bf6)), (b7, .inl (T 0, 10, .inl bf7)), (b8, .inl (T 0, 10, .inl bf8)), (b9, .inl (T 0, 10, .inl bf9))]) rfl dX5_takeFrom_121 (fun H locs V => ?_)
        refine lv_aload_n hx hb dX5_takeFrom_122 rfl (lv_at hl 1 rfl) ?_
        refine g_get hC V (ci := 5) uwX5 0 rfl rfl 11 (by decide) w_77 rfl rfl dX5_takeFrom_123 ?_
        refine lv_iload_n hx hb dX5_takeFrom_126 rfl (lv_at hl 0 rfl) ?_
        refine lv_aload_n hx hb dX5_takeFrom_127 rfl (lv_at hl 2 rfl) ?_
        refine g_get hC V (ci := 5) uwX5 10 rfl rfl 11 (by decide) w_77 rfl rfl dX5_takeFrom_128 ?_
        refine lv_iload_n hx hb dX5_takeFrom_131 rfl (lv_at hl 0 rfl) ?_
        refine g_iald hC V 17 rfl (vp_in_nI (by omega) (by omega)) (v := (bf7 k)) (congrArg _ (nI_clamp (by omega))) dX5_takeFrom_132 ?_
        refine g_iast hC V 7 rfl (vp_in_nI (by omega) (by omega)) (f' := (upd g7 k (bf7 k))) (by rw [nI_clamp (by omega)]) (ws' := [(a0, .inr (5, [.int (nI bn), .int bm, .int bl, .int bo, .int bu, .ref a1, .ref a2, .ref a3, .ref a4, .ref a5, .ref a6, .ref a7, .ref a8, .ref a9, .ref a10])), (a1, .inl (T 0, 10, .inl (upd g1 k (bf1 k)))), (a2, .inl (T 0, 10, .inl (upd g2 k (bf2 k)))), (a3, .inl (T 0, 10, .inl (upd g3 k (bf3 k)))), (a4, .inl (T 0, 10, .inl (upd g4 k (bf4 k)))), (a5, .inl (T 0, 10, .inl (upd g5 k (bf5 k)))), (a6, .inl (T 0, 10, .inl (upd g6 k (bf6 k)))), (a7, .inl (T 0, 10, .inl (upd g7 k (bf7 k)))), (a8, .inl (T 0, 10, .inl g8)), (a9, .inl (T 0, 10, .inl g9)), (b0, .inr (5, [.int (nI bn), .int bm, .int bl, .int bo, .int bu, .ref b1, .ref b2, .ref b3, .ref b4, .ref b5, .ref b6, .ref b7, .ref b8, .ref b9, .ref b10])), (b1, .inl (T 0, 10, .inl bf1)), (b2, .inl (T 0, 10, .inl bf2)), (b3, .inl (T 0, 10, .inl bf3)), (b4, .inl (T 0, 10, .inl bf4)), (b5, .inl (T 0, 10, .inl bf5)), (b6, .inl (T 0, 10, .inl bf6)), (b7, .inl (T 0, 10, .inl bf7)), (b8, .inl (T 0, 10, .inl bf8)), (b9, .inl (T 0, 10, .inl bf9))]) rfl dX5_takeFrom_133 (fun H locs V => ?_)
        refine lv_aload_n hx hb dX5_takeFrom_134 rfl (lv_at hl 1 rfl) ?_
        refine g_get hC V (ci := 5) uwX5 0 rfl rfl 12 (by decide) w_80 rfl rfl dX5_takeFrom_135 ?_
        refine lv_iload_n hx hb dX5_takeFrom_138 rfl (lv_at hl 0 rfl) ?_
        refine lv_aload_n hx hb dX5_takeFrom_139 rfl (lv_at hl 2 rfl) ?_
        refine g_get hC V (ci := 5) uwX5 10 rfl rfl 12 (by decide) w_80 rfl rfl dX5_takeFrom_140 ?_
        refine lv_iload_n hx hb dX5_takeFrom_143 rfl (lv_at hl 0 rfl) ?_
        refine g_iald hC V 18 rfl (vp_in_nI (by omega) (by omega)) (v := (bf8 k)) (congrArg _ (nI_clamp (by omega))) dX5_takeFrom_144 ?_
        refine g_iast hC V 8 rfl (vp_in_nI (by omega) (by omega)) (f' := (upd g8 k (bf8 k))) (by rw [nI_clamp (by omega)]) (ws' := [(a0, .inr (5, [.int (nI bn), .int bm, .int bl, .int bo, .int bu, .ref a1, .ref a2, .ref a3, .ref a4, .ref a5, .ref a6, .ref a7, .ref a8, .ref a9, .ref a10])), (a1, .inl (T 0, 10, .inl (upd g1 k (bf1 k)))), (a2, .inl (T 0, 10, .inl (upd g2 k (bf2 k)))), (a3, .inl (T 0, 10, .inl (upd g3 k (bf3 k)))), (a4, .inl (T 0, 10, .inl (upd g4 k (bf4 k)))), (a5, .inl (T 0, 10, .inl (upd g5 k (bf5 k)))), (a6, .inl (T 0, 10, .inl (upd g6 k (bf6 k)))), (a7, .inl (T 0, 10, .inl (upd g7 k (bf7 k)))), (a8, .inl (T 0, 10, .inl (upd g8 k (bf8 k)))), (a9, .inl (T 0, 10, .inl g9)), (b0, .inr (5, [.int (nI bn), .int bm, .int bl, .int bo, .int bu, .ref b1, .ref b2, .ref b3, .ref b4, .ref b5, .ref b6, .ref b7, .ref b8, .ref b9, .ref b10])), (b1, .inl (T 0, 10, .inl bf1)), (b2, .inl (T 0, 10, .inl bf2)), (b3, .inl (T 0, 10, .inl bf3)), (b4, .inl (T 0, 10, .inl bf4)), (b5, .inl (T 0, 10, .inl bf5)), (b6, .inl (T 0, 10, .inl bf6)), (b7, .inl (T 0, 10, .inl bf7)), (b8, .inl (T 0, 10, .inl bf8)), (b9, .inl (T 0, 10, .inl bf9))]) rfl dX5_takeFrom_145 (fun H locs V => ?_)
        refine lv_aload_n hx hb dX5_takeFrom_146 rfl (lv_at hl 1 rfl) ?_
        refine g_get hC V (ci := 5) uwX5 0 rfl rfl 13 (by decide) w_82 rfl rfl dX5_takeFrom_147 ?_
        refine lv_iload_n hx hb dX5_takeFrom_150 rfl (lv_at hl 0 rfl) ?_
        refine lv_aload_n hx hb dX5_takeFrom_151 rfl (lv_at hl 2 rfl) ?_
        refine g_get hC V (ci := 5) uwX5 10 rfl rfl 13 (by decide) w_82 rfl rfl dX5_takeFrom_152 ?_
        refine lv_iload_n hx hb dX5_takeFrom_155 rfl (lv_at hl 0 rfl) ?_
        refine g_iald hC V 19 rfl (vp_in_nI (by omega) (by omega)) (v := (bf9 k)) (congrArg _ (nI_clamp (by omega))) dX5_takeFrom_156 ?_
        refine g_iast hC V 9 rfl (vp_in_nI (by omega) (by omega)) (f' := (upd g9 k (bf9 k))) (by rw [nI_clamp (by omega)]) (ws' := [(a0, .inr (5, [.int (nI bn), .int bm, .int bl, .int bo, .int bu, .ref a1, .ref a2, .ref a3, .ref a4, .ref a5, .ref a6, .ref a7, .ref a8, .ref a9, .ref a10])), (a1, .inl (T 0, 10, .inl (upd g1 k (bf1 k)))), (a2, .inl (T 0, 10, .inl (upd g2 k (bf2 k)))), (a3, .inl (T 0, 10, .inl (upd g3 k (bf3 k)))), (a4, .inl (T 0, 10, .inl (upd g4 k (bf4 k)))), (a5, .inl (T 0, 10, .inl (upd g5 k (bf5 k)))), (a6, .inl (T 0, 10, .inl (upd g6 k (bf6 k)))), (a7, .inl (T 0, 10, .inl (upd g7 k (bf7 k)))), (a8, .inl (T 0, 10, .inl (upd g8 k (bf8 k)))), (a9, .inl (T 0, 10, .inl (upd g9 k (bf9 k)))), (b0, .inr (5, [.int (nI bn), .int bm, .int bl, .int bo, .int bu, .ref b1, .ref b2, .ref b3, .ref b4, .ref b5, .ref b6, .ref b7, .ref b8, .ref b9, .ref b10])), (b1, .inl (T 0, 10, .inl bf1)), (b2, .inl (T 0, 10, .inl bf2)), (b3, .inl (T 0, 10, .inl bf3)), (b4, .inl (T 0, 10, .inl bf4)), (b5, .inl (T 0, 10, .inl bf5)), (b6, .inl (T 0, 10, .inl bf6)), (b7, .inl (T 0, 10, .inl bf7)), (b8, .inl (T 0, 10, .inl bf8)), (b9, .inl (T 0, 10, .inl bf9))]) rfl dX5_takeFrom_157 (fun H locs V => ?_)
        refine lv_iinc (v := (nI (k + 1))) (lv' := [(2, .int (nI (k + 1))), (0, .ref a0), (1, .ref b0)]) hx hb dX5_takeFrom_158 hl (k := 0) rfl (nI_1 _) (by decide) rfl (fun ls hl => ?_)
        refine lv_goto (tgt := 42) hx hb dX5_takeFrom_161 (by decide) ?_
        exact ih_42 (k + 1) (upd g1 k (bf1 k)) (upd g2 k (bf2 k)) (upd g3 k (bf3 k)) (upd g4 k (bf4 k)) (upd g5 k (bf5 k)) (upd g6 k (bf6 k)) (upd g7 k (bf7 k)) (upd g8 k (bf8 k)) (upd g9 k (bf9 k)) (by omega) (up_one (p := fun i x => x = bf1 i) hc1 rfl) (up_one (p := fun i x => x = bf2 i) hc2 rfl) (up_one (p := fun i x => x = bf3 i) hc3 rfl) (up_one (p := fun i x => x = bf4 i) hc4 rfl) (up_one (p := fun i x => x = bf5 i) hc5 rfl) (up_one (p := fun i x => x = bf6 i) hc6 rfl) (up_one (p := fun i x => x = bf7 i) hc7 rfl) (up_one (p := fun i x => x = bf8 i) hc8 rfl) (up_one (p := fun i x => x = bf9 i) hc9 rfl) (by omega) _ _ _ V (lv_sub hl [0, 1, 2] rfl)
  exact L_1 _ 0 af1 af2 af3 af4 af5 af6 af7 af8 af9 (by omega) (fun i h => absurd h (Nat.not_lt_zero _)) (fun i h => absurd h (Nat.not_lt_zero _)) (fun i h => absurd h (Nat.not_lt_zero _)) (fun i h => absurd h (Nat.not_lt_zero _)) (fun i h => absurd h (Nat.not_lt_zero _)) (fun i h => absurd h (Nat.not_lt_zero _)) (fun i h => absurd h (Nat.not_lt_zero _)) (fun i h => absurd h (Nat.not_lt_zero _)) (fun i h => absurd h (Nat.not_lt_zero _)) (Nat.lt_succ_self _) _ _ _ V (lv_sub hl [0, 1, 2] rfl)

def q_s_clear (T : Nat → ClassId) (a0 : Nat) (an : Int32) (am : Int32) (al : Int32) (ao : Int32) (au : Int32) (a1 : Nat) (a2 : Nat) (a3 : Nat) (a4 : Nat) (a5 : Nat) (a6 : Nat) (a7 : Nat) (a8 : Nat) (a9 : Nat) (a10 : Nat) : Option Value → va_W → Prop := fun rr ww => (rr = none ∧ ww = [(a0, .inr (5, [.int (nI 0), .int (nI 0), .int (nI 0), .int (nI 20), .int (nI 0), .ref a1, .ref a2, .ref a3, .ref a4, .ref a5, .ref a6, .ref a7, .ref a8, .ref a9, .ref a10]))])
set_option maxHeartbeats 4000000 in
set_option maxRecDepth 100000 in
theorem s_clear (l : Launch) (D : va_G) (T : Nat → ClassId) (a0 : Nat) (an : Int32) (am : Int32) (al : Int32) (ao : Int32) (au : Int32) (a1 : Nat) (a2 : Nat) (a3 : Nat) (a4 : Nat) (a5 : Nat) (a6 : Nat) (a7 : Nat) (a8 : Nat) (a9 : Nat) (a10 : Nat) : Ct l yX5_clear cX5_clear 1 none 0 0 0 D T [.ref a0] [(a0, .inr (5, [.int an, .int am, .int al, .int ao, .int au, .ref a1, .ref a2, .ref a3, .ref a4, .ref a5, .ref a6, .ref a7, .ref a8, .ref a9, .ref a10]))] (q_s_clear T a0 an am al ao au a1 a2 a3 a4 a5 a6 a7 a8 a9 a10) := by
  refine Ct.of (cc := cX5_clear) (maxL := 1) (ret := none) (by decide) (Nat.le_of_ble_eq_true rfl) ?_
  intro p e s m args below meth c A ls hC hnm V hl
  obtain ⟨hx, hb, hr, hml, hown, hts, hlocks⟩ := id hC
  generalize hH : s.heap = H at V ⊢
  clear hH
  have hl : lv_has ls 1 [(0, .ref a0)] := hl
  generalize hlo : ([] : List Loc) = locs at V ⊢
  clear hlo
  refine lv_aload_n hx hb dX5_clear_0 rfl (lv_at hl 0 rfl) ?_
  refine lv_iconst (v := (nI 0)) hx hb dX5_clear_1 (by decide +kernel) ?_
  refine g_put hC V (ci := 5) uwX5 tyX5 tyX5_ok nmX5 0 rfl rfl 0 (by decide) w_33 rfl rfl rfl rfl (Nat.le_of_ble_eq_true rfl) (ws' := [(a0, .inr (5, [.int (nI 0), .int am, .int al, .int ao, .int au, .ref a1, .ref a2, .ref a3, .ref a4, .ref a5, .ref a6, .ref a7, .ref a8, .ref a9, .ref a10]))]) rfl dX5_clear_2 (fun H locs V => ?_)
  refine lv_aload_n hx hb dX5_clear_5 rfl (lv_at hl 0 rfl) ?_
  refine lv_iconst (v := (nI 0)) hx hb dX5_clear_6 (by decide +kernel) ?_
  refine g_put hC V (ci := 5) uwX5 tyX5 tyX5_ok nmX5 0 rfl rfl 1 (by decide) w_39 rfl rfl rfl rfl (Nat.le_of_ble_eq_true rfl) (ws' := [(a0, .inr (5, [.int (nI 0), .int (nI 0), .int al, .int ao, .int au, .ref a1, .ref a2, .ref a3, .ref a4, .ref a5, .ref a6, .ref a7, .ref a8, .ref a9, .ref a10]))]) rfl dX5_clear_7 (fun H locs V => ?_)
  refine lv_aload_n hx hb dX5_clear_10 rfl (lv_at hl 0 rfl) ?_
  refine lv_iconst (v := (nI 0)) hx hb dX5_clear_11 (by decide +kernel) ?_
  refine g_put hC V (ci := 5) uwX5 tyX5 tyX5_ok nmX5 0 rfl rfl 2 (by decide) w_42 rfl rfl rfl rfl (Nat.le_of_ble_eq_true rfl) (ws' := [(a0, .inr (5, [.int (nI 0), .int (nI 0), .int (nI 0), .int ao, .int au, .ref a1, .ref a2, .ref a3, .ref a4, .ref a5, .ref a6, .ref a7, .ref a8, .ref a9, .ref a10]))]) rfl dX5_clear_12 (fun H locs V => ?_)
  refine lv_aload_n hx hb dX5_clear_15 rfl (lv_at hl 0 rfl) ?_
  refine lv_bipush (v := (nI 20)) hx hb dX5_clear_16 (by decide +kernel) ?_
  refine g_put hC V (ci := 5) uwX5 tyX5 tyX5_ok nmX5 0 rfl rfl 3 (by decide) w_45 rfl rfl rfl rfl (Nat.le_of_ble_eq_true rfl) (ws' := [(a0, .inr (5, [.int (nI 0), .int (nI 0), .int (nI 0), .int (nI 20), .int au, .ref a1, .ref a2, .ref a3, .ref a4, .ref a5, .ref a6, .ref a7, .ref a8, .ref a9, .ref a10]))]) rfl dX5_clear_18 (fun H locs V => ?_)
  refine lv_aload_n hx hb dX5_clear_21 rfl (lv_at hl 0 rfl) ?_
  refine lv_iconst (v := (nI 0)) hx hb dX5_clear_22 (by decide +kernel) ?_
  refine g_put hC V (ci := 5) uwX5 tyX5 tyX5_ok nmX5 0 rfl rfl 4 (by decide) w_49 rfl rfl rfl rfl (Nat.le_of_ble_eq_true rfl) (ws' := [(a0, .inr (5, [.int (nI 0), .int (nI 0), .int (nI 0), .int (nI 20), .int (nI 0), .ref a1, .ref a2, .ref a3, .ref a4, .ref a5, .ref a6, .ref a7, .ref a8, .ref a9, .ref a10]))]) rfl dX5_clear_23 (fun H locs V => ?_)
  exact g_vret (Qr := (q_s_clear T a0 an am al ao au a1 a2 a3 a4 a5 a6 a7 a8 a9 a10)) hC V ⟨(Nat.le_of_ble_eq_true rfl), (Nat.le_of_ble_eq_true rfl)⟩ ⟨rfl, rfl⟩ dX5_clear_26

def q_s_beginPiece (T : Nat → ClassId) (a0 : Nat) (j : Nat) (v : Int32) (an : Nat) (am : Int32) (al : Int32) (ao : Int32) (au : Int32) (a1 : Nat) (a2 : Nat) (a3 : Nat) (a4 : Nat) (a5 : Nat) (a6 : Nat) (a7 : Nat) (a8 : Nat) (a9 : Nat) (a10 : Nat) (af6 : Nat → Int32) (af7 : Nat → Int32) (af8 : Nat → Int32) : Option Value → va_W → Prop := fun rr ww => (∃ (g6 : Nat → Int32) (g7 : Nat → Int32) (g8 : Nat → Int32), rr = none ∧ ww = [(a0, .inr (5, [.int (nI an), .int am, .int al, .int ao, .int au, .ref a1, .ref a2, .ref a3, .ref a4, .ref a5, .ref a6, .ref a7, .ref a8, .ref a9, .ref a10])), (a6, .inl (T 0, 10, .inl g6)), (a7, .inl (T 0, 10, .inl g7)), (a8, .inl (T 0, 10, .inl g8))] ∧ g6 = upd af6 j v ∧ g7 = upd af7 j (nI 0) ∧ g8 = upd af8 j (nI 0))
set_option maxHeartbeats 4000000 in
set_option maxRecDepth 100000 in
theorem s_beginPiece (l : Launch) (D : va_G) (T : Nat → ClassId) (a0 : Nat) (j : Nat) (v : Int32) (an : Nat) (am : Int32) (al : Int32) (ao : Int32) (au : Int32) (a1 : Nat) (a2 : Nat) (a3 : Nat) (a4 : Nat) (a5 : Nat) (a6 : Nat) (a7 : Nat) (a8 : Nat) (a9 : Nat) (a10 : Nat) (af6 : Nat → Int32) (af7 : Nat → Int32) (af8 : Nat → Int32) (h_j : j < 10) : Ct l yX5_beginPiece cX5_beginPiece 3 none 0 0 0 D T [.ref a0, .int (nI j), .int v] [(a0, .inr (5, [.int (nI an), .int am, .int al, .int ao, .int au, .ref a1, .ref a2, .ref a3, .ref a4, .ref a5, .ref a6, .ref a7, .ref a8, .ref a9, .ref a10])), (a6, .inl (T 0, 10, .inl af6)), (a7, .inl (T 0, 10, .inl af7)), (a8, .inl (T 0, 10, .inl af8))] (q_s_beginPiece T a0 j v an am al ao au a1 a2 a3 a4 a5 a6 a7 a8 a9 a10 af6 af7 af8) := by
  refine Ct.of (cc := cX5_beginPiece) (maxL := 3) (ret := none) (by decide) (Nat.le_of_ble_eq_true rfl) ?_
  intro p e s m args below meth c A ls hC hnm V hl
  obtain ⟨hx, hb, hr, hml, hown, hts, hlocks⟩ := id hC
  generalize hH : s.heap = H at V ⊢
  clear hH
  have hl : lv_has ls 3 [(0, .ref a0), (1, .int (nI j)), (2, .int v)] := hl
  generalize hlo : ([] : List Loc) = locs at V ⊢
  clear hlo
  refine lv_aload_n hx hb dX5_beginPiece_0 rfl (lv_at hl 0 rfl) ?_
  refine g_get hC V (ci := 5) uwX5 0 rfl rfl 10 (by decide) w_74 rfl rfl dX5_beginPiece_1 ?_
  refine lv_iload_n hx hb dX5_beginPiece_4 rfl (lv_at hl 1 rfl) ?_
  refine lv_iload_n hx hb dX5_beginPiece_5 rfl (lv_at hl 2 rfl) ?_
  refine g_iast hC V 1 rfl (vp_in_nI (by omega) (by omega)) (f' := (upd af6 j v)) (by rw [nI_clamp (by omega)]) (ws' := [(a0, .inr (5, [.int (nI an), .int am, .int al, .int ao, .int au, .ref a1, .ref a2, .ref a3, .ref a4, .ref a5, .ref a6, .ref a7, .ref a8, .ref a9, .ref a10])), (a6, .inl (T 0, 10, .inl (upd af6 j v))), (a7, .inl (T 0, 10, .inl af7)), (a8, .inl (T 0, 10, .inl af8))]) rfl dX5_beginPiece_6 (fun H locs V => ?_)
  refine lv_aload_n hx hb dX5_beginPiece_7 rfl (lv_at hl 0 rfl) ?_
  refine g_get hC V (ci := 5) uwX5 0 rfl rfl 11 (by decide) w_77 rfl rfl dX5_beginPiece_8 ?_
  refine lv_iload_n hx hb dX5_beginPiece_11 rfl (lv_at hl 1 rfl) ?_
  refine lv_iconst (v := (nI 0)) hx hb dX5_beginPiece_12 (by decide +kernel) ?_
  refine g_iast hC V 2 rfl (vp_in_nI (by omega) (by omega)) (f' := (upd af7 j (nI 0))) (by rw [nI_clamp (by omega)]) (ws' := [(a0, .inr (5, [.int (nI an), .int am, .int al, .int ao, .int au, .ref a1, .ref a2, .ref a3, .ref a4, .ref a5, .ref a6, .ref a7, .ref a8, .ref a9, .ref a10])), (a6, .inl (T 0, 10, .inl (upd af6 j v))), (a7, .inl (T 0, 10, .inl (upd af7 j (nI 0)))), (a8, .inl (T 0, 10, .inl af8))]) rfl dX5_beginPiece_13 (fun H locs V => ?_)
  refine lv_aload_n hx hb dX5_beginPiece_14 rfl (lv_at hl 0 rfl) ?_
  refine g_get hC V (ci := 5) uwX5 0 rfl rfl 12 (by decide) w_80 rfl rfl dX5_beginPiece_15 ?_
  refine lv_iload_n hx hb dX5_beginPiece_18 rfl (lv_at hl 1 rfl) ?_
  refine lv_iconst (v := (nI 0)) hx hb dX5_beginPiece_19 (by decide +kernel) ?_
  refine g_iast hC V 3 rfl (vp_in_nI (by omega) (by omega)) (f' := (upd af8 j (nI 0))) (by rw [nI_clamp (by omega)]) (ws' := [(a0, .inr (5, [.int (nI an), .int am, .int al, .int ao, .int au, .ref a1, .ref a2, .ref a3, .ref a4, .ref a5, .ref a6, .ref a7, .ref a8, .ref a9, .ref a10])), (a6, .inl (T 0, 10, .inl (upd af6 j v))), (a7, .inl (T 0, 10, .inl (upd af7 j (nI 0)))), (a8, .inl (T 0, 10, .inl (upd af8 j (nI 0))))]) rfl dX5_beginPiece_20 (fun H locs V => ?_)
  exact g_vret (Qr := (q_s_beginPiece T a0 j v an am al ao au a1 a2 a3 a4 a5 a6 a7 a8 a9 a10 af6 af7 af8)) hC V ⟨(Nat.le_of_ble_eq_true rfl), (Nat.le_of_ble_eq_true rfl)⟩ ⟨(upd af6 j v), (upd af7 j (nI 0)), (upd af8 j (nI 0)), rfl, rfl, rfl, rfl, rfl⟩ dX5_beginPiece_21

def q_s_isDone (T : Nat → ClassId) (a0 : Nat) (j : Nat) (an : Nat) (am : Int32) (al : Int32) (ao : Int32) (au : Int32) (a1 : Nat) (a2 : Nat) (a3 : Nat) (a4 : Nat) (a5 : Nat) (a6 : Nat) (a7 : Nat) (a8 : Nat) (a9 : Nat) (a10 : Nat) (af6 : Nat → Int32) (af7 : Nat → Int32) : Option Value → va_W → Prop := fun rr ww => (rr = some (.int (nI 1)) ∧ ww = [(a0, .inr (5, [.int (nI an), .int am, .int al, .int ao, .int au, .ref a1, .ref a2, .ref a3, .ref a4, .ref a5, .ref a6, .ref a7, .ref a8, .ref a9, .ref a10])), (a6, .inl (T 0, 10, .inl af6)), (a7, .inl (T 0, 10, .inl af7))] ∧ ¬ af7 j < af6 j) ∨ (rr = some (.int (nI 0)) ∧ ww = [(a0, .inr (5, [.int (nI an), .int am, .int al, .int ao, .int au, .ref a1, .ref a2, .ref a3, .ref a4, .ref a5, .ref a6, .ref a7, .ref a8, .ref a9, .ref a10])), (a6, .inl (T 0, 10, .inl af6)), (a7, .inl (T 0, 10, .inl af7))] ∧ af7 j < af6 j)
set_option maxHeartbeats 4000000 in
set_option maxRecDepth 100000 in
theorem s_isDone (l : Launch) (D : va_G) (T : Nat → ClassId) (a0 : Nat) (j : Nat) (an : Nat) (am : Int32) (al : Int32) (ao : Int32) (au : Int32) (a1 : Nat) (a2 : Nat) (a3 : Nat) (a4 : Nat) (a5 : Nat) (a6 : Nat) (a7 : Nat) (a8 : Nat) (a9 : Nat) (a10 : Nat) (af6 : Nat → Int32) (af7 : Nat → Int32) (h_j : j < 10) : Ct l yX5_isDone cX5_isDone 2 (some .boolean) 0 0 0 D T [.ref a0, .int (nI j)] [(a0, .inr (5, [.int (nI an), .int am, .int al, .int ao, .int au, .ref a1, .ref a2, .ref a3, .ref a4, .ref a5, .ref a6, .ref a7, .ref a8, .ref a9, .ref a10])), (a6, .inl (T 0, 10, .inl af6)), (a7, .inl (T 0, 10, .inl af7))] (q_s_isDone T a0 j an am al ao au a1 a2 a3 a4 a5 a6 a7 a8 a9 a10 af6 af7) := by
  refine Ct.of (cc := cX5_isDone) (maxL := 2) (ret := (some .boolean)) (by decide) (Nat.le_of_ble_eq_true rfl) ?_
  intro p e s m args below meth c A ls hC hnm V hl
  obtain ⟨hx, hb, hr, hml, hown, hts, hlocks⟩ := id hC
  generalize hH : s.heap = H at V ⊢
  clear hH
  have hl : lv_has ls 2 [(0, .ref a0), (1, .int (nI j))] := hl
  generalize hlo : ([] : List Loc) = locs at V ⊢
  clear hlo
  refine lv_aload_n hx hb dX5_isDone_0 rfl (lv_at hl 0 rfl) ?_
  refine g_get hC V (ci := 5) uwX5 0 rfl rfl 11 (by decide) w_77 rfl rfl dX5_isDone_1 ?_
  refine lv_iload_n hx hb dX5_isDone_4 rfl (lv_at hl 1 rfl) ?_
  refine g_iald hC V 2 rfl (vp_in_nI (by omega) (by omega)) (v := (af7 j)) (congrArg _ (nI_clamp (by omega))) dX5_isDone_5 ?_
  refine lv_aload_n hx hb dX5_isDone_6 rfl (lv_at hl 0 rfl) ?_
  refine g_get hC V (ci := 5) uwX5 0 rfl rfl 10 (by decide) w_74 rfl rfl dX5_isDone_7 ?_
  refine lv_iload_n hx hb dX5_isDone_10 rfl (lv_at hl 1 rfl) ?_
  refine g_iald hC V 1 rfl (vp_in_nI (by omega) (by omega)) (v := (af6 j)) (congrArg _ (nI_clamp (by omega))) dX5_isDone_11 ?_
  refine lv_icmp_lt (tgt := 19) hx hb dX5_isDone_12 (by decide) (fun c_1 => ?_) (fun c_1 => ?_)
  · skip
    refine lv_iconst (v := (nI 0)) hx hb dX5_isDone_19 (by decide +kernel) ?_
    exact g_zret (Qr := (q_s_isDone T a0 j an am al ao au a1 a2 a3 a4 a5 a6 a7 a8 a9 a10 af6 af7)) hC V ⟨(Nat.le_of_ble_eq_true rfl), (Nat.le_of_ble_eq_true rfl)⟩ (by first | decide +kernel | exact rfl) (.inr ⟨rfl, rfl, (by assumption)⟩) dX5_isDone_20
  · skip
    refine lv_iconst (v := (nI 1)) hx hb dX5_isDone_15 (by decide +kernel) ?_
    refine lv_goto (tgt := 20) hx hb dX5_isDone_16 (by decide) ?_
    exact g_zret (Qr := (q_s_isDone T a0 j an am al ao au a1 a2 a3 a4 a5 a6 a7 a8 a9 a10 af6 af7)) hC V ⟨(Nat.le_of_ble_eq_true rfl), (Nat.le_of_ble_eq_true rfl)⟩ (by first | decide +kernel | exact rfl) (.inl ⟨rfl, rfl, (by assumption)⟩) dX5_isDone_20

def q_s_isWorkableAt (T : Nat → ClassId) (a0 : Nat) (j : Nat) (h : Int32) (an : Nat) (am : Int32) (al : Int32) (ao : Int32) (au : Int32) (a1 : Nat) (a2 : Nat) (a3 : Nat) (a4 : Nat) (a5 : Nat) (a6 : Nat) (a7 : Nat) (a8 : Nat) (a9 : Nat) (a10 : Nat) (af4 : Nat → Int32) (af5 : Nat → Int32) : Option Value → va_W → Prop := fun rr ww => (rr = some (.int (nI 1)) ∧ ww = [(a0, .inr (5, [.int (nI an), .int am, .int al, .int ao, .int au, .ref a1, .ref a2, .ref a3, .ref a4, .ref a5, .ref a6, .ref a7, .ref a8, .ref a9, .ref a10])), (a4, .inl (T 0, 10, .inl af4)), (a5, .inl (T 0, 10, .inl af5))] ∧ ¬ h < af4 j ∧ ¬ af5 j < h) ∨ (rr = some (.int (nI 0)) ∧ ww = [(a0, .inr (5, [.int (nI an), .int am, .int al, .int ao, .int au, .ref a1, .ref a2, .ref a3, .ref a4, .ref a5, .ref a6, .ref a7, .ref a8, .ref a9, .ref a10])), (a4, .inl (T 0, 10, .inl af4)), (a5, .inl (T 0, 10, .inl af5))] ∧ (h < af4 j ∨ af5 j < h))
set_option maxHeartbeats 4000000 in
set_option maxRecDepth 100000 in
theorem s_isWorkableAt (l : Launch) (D : va_G) (T : Nat → ClassId) (a0 : Nat) (j : Nat) (h : Int32) (an : Nat) (am : Int32) (al : Int32) (ao : Int32) (au : Int32) (a1 : Nat) (a2 : Nat) (a3 : Nat) (a4 : Nat) (a5 : Nat) (a6 : Nat) (a7 : Nat) (a8 : Nat) (a9 : Nat) (a10 : Nat) (af4 : Nat → Int32) (af5 : Nat → Int32) (h_j : j < 10) : Ct l yX5_isWorkableAt cX5_isWorkableAt 3 (some .boolean) 0 0 0 D T [.ref a0, .int (nI j), .int h] [(a0, .inr (5, [.int (nI an), .int am, .int al, .int ao, .int au, .ref a1, .ref a2, .ref a3, .ref a4, .ref a5, .ref a6, .ref a7, .ref a8, .ref a9, .ref a10])), (a4, .inl (T 0, 10, .inl af4)), (a5, .inl (T 0, 10, .inl af5))] (q_s_isWorkableAt T a0 j h an am al ao au a1 a2 a3 a4 a5 a6 a7 a8 a9 a10 af4 af5) := by
  refine Ct.of (cc := cX5_isWorkableAt) (maxL := 3) (ret := (some .boolean)) (by decide) (Nat.le_of_ble_eq_true rfl) ?_
  intro p e s m args below meth c A ls hC hnm V hl
  obtain ⟨hx, hb, hr, hml, hown, hts, hlocks⟩ := id hC
  generalize hH : s.heap = H at V ⊢
  clear hH
  have hl : lv_has ls 3 [(0, .ref a0), (1, .int (nI j)), (2, .int h)] := hl
  generalize hlo : ([] : List Loc) = locs at V ⊢
  clear hlo
  refine lv_iload_n hx hb dX5_isWorkableAt_0 rfl (lv_at hl 2 rfl) ?_
  refine lv_aload_n hx hb dX5_isWorkableAt_1 rfl (lv_at hl 0 rfl) ?_
  refine g_get hC V (ci := 5) uwX5 0 rfl rfl 8 (by decide) w_67 rfl rfl dX5_isWorkableAt_2 ?_
  refine lv_iload_n hx hb dX5_isWorkableAt_5 rfl (lv_at hl 1 rfl) ?_
  refine g_iald hC V 1 rfl (vp_in_nI (by omega) (by omega)) (v := (af4 j)) (congrArg _ (nI_clamp (by omega))) dX5_isWorkableAt_6 ?_
  refine lv_icmp_lt (tgt := 24) hx hb dX5_isWorkableAt_7 (by decide) (fun c_1 => ?_) (fun c_1 => ?_)
  · skip
    refine lv_iconst (v := (nI 0)) hx hb dX5_isWorkableAt_24 (by decide +kernel) ?_
    exact g_zret (Qr := (q_s_isWorkableAt T a0 j h an am al ao au a1 a2 a3 a4 a5 a6 a7 a8 a9 a10 af4 af5)) hC V ⟨(Nat.le_of_ble_eq_true rfl), (Nat.le_of_ble_eq_true rfl)⟩ (by first | decide +kernel | exact rfl) (.inr ⟨rfl, rfl, (by first | exact Or.inl (by assumption) | exact Or.inr (by assumption))⟩) dX5_isWorkableAt_25
  · skip
    refine lv_iload_n hx hb dX5_isWorkableAt_10 rfl (lv_at hl 2 rfl) ?_
    refine lv_aload_n hx hb dX5_isWorkableAt_11 rfl (lv_at hl 0 rfl) ?_
    refine g_get hC V (ci := 5) uwX5 0 rfl rfl 9 (by decide) w_70 rfl rfl dX5_isWorkableAt_12 ?_
    refine lv_iload_n hx hb dX5_isWorkableAt_15 rfl (lv_at hl 1 rfl) ?_
    refine g_iald hC V 2 rfl (vp_in_nI (by omega) (by omega)) (v := (af5 j)) (congrArg _ (nI_clamp (by omega))) dX5_isWorkableAt_16 ?_
    refine lv_icmp_gt (tgt := 24) hx hb dX5_isWorkableAt_17 (by decide) (fun c_2 => ?_) (fun c_2 => ?_)
    · skip
      refine lv_iconst (v := (nI 0)) hx hb dX5_isWorkableAt_24 (by decide +kernel) ?_
      exact g_zret (Qr := (q_s_isWorkableAt T a0 j h an am al ao au a1 a2 a3 a4 a5 a6 a7 a8 a9 a10 af4 af5)) hC V ⟨(Nat.le_of_ble_eq_true rfl), (Nat.le_of_ble_eq_true rfl)⟩ (by first | decide +kernel | exact rfl) (.inr ⟨rfl, rfl, (by first | exact Or.inl (by assumption) | exact Or.inr (by assumption))⟩) dX5_isWorkableAt_25
    · skip
      refine lv_iconst (v := (nI 1)) hx hb dX5_isWorkableAt_20 (by decide +kernel) ?_
      refine lv_goto (tgt := 25) hx hb dX5_isWorkableAt_21 (by decide) ?_
      exact g_zret (Qr := (q_s_isWorkableAt T a0 j h an am al ao au a1 a2 a3 a4 a5 a6 a7 a8 a9 a10 af4 af5)) hC V ⟨(Nat.le_of_ble_eq_true rfl), (Nat.le_of_ble_eq_true rfl)⟩ (by first | decide +kernel | exact rfl) (.inl ⟨rfl, rfl, (by assumption), (by assumption)⟩) dX5_isWorkableAt_25

def q_s_canStrike (T : Nat → ClassId) (a0 : Nat) (j : Nat) (an : Nat) (am : Int32) (al : Int32) (ao : Int32) (au : Int32) (a1 : Nat) (a2 : Nat) (a3 : Nat) (a4 : Nat) (a5 : Nat) (a6 : Nat) (a7 : Nat) (a8 : Nat) (a9 : Nat) (a10 : Nat) (af3 : Nat → Int32) (af4 : Nat → Int32) (af5 : Nat → Int32) (af6 : Nat → Int32) (af7 : Nat → Int32) : Option Value → va_W → Prop := fun rr ww => (rr = some (.int (nI 1)) ∧ ww = [(a0, .inr (5, [.int (nI an), .int am, .int al, .int ao, .int au, .ref a1, .ref a2, .ref a3, .ref a4, .ref a5, .ref a6, .ref a7, .ref a8, .ref a9, .ref a10])), (a3, .inl (T 0, 10, .inl af3)), (a4, .inl (T 0, 10, .inl af4)), (a5, .inl (T 0, 10, .inl af5)), (a6, .inl (T 0, 10, .inl af6)), (a7, .inl (T 0, 10, .inl af7))] ∧ af7 j < af6 j ∧ ¬ af3 j < af4 j ∧ ¬ af5 j < af3 j) ∨ (rr = some (.int (nI 0)) ∧ ww = [(a0, .inr (5, [.int (nI an), .int am, .int al, .int ao, .int au, .ref a1, .ref a2, .ref a3, .ref a4, .ref a5, .ref a6, .ref a7, .ref a8, .ref a9, .ref a10])), (a3, .inl (T 0, 10, .inl af3)), (a4, .inl (T 0, 10, .inl af4)), (a5, .inl (T 0, 10, .inl af5)), (a6, .inl (T 0, 10, .inl af6)), (a7, .inl (T 0, 10, .inl af7))] ∧ (¬ af7 j < af6 j ∨ af3 j < af4 j ∨ af5 j < af3 j))
set_option maxHeartbeats 4000000 in
set_option maxRecDepth 100000 in
theorem s_canStrike (l : Launch) (D : va_G) (T : Nat → ClassId) (a0 : Nat) (j : Nat) (an : Nat) (am : Int32) (al : Int32) (ao : Int32) (au : Int32) (a1 : Nat) (a2 : Nat) (a3 : Nat) (a4 : Nat) (a5 : Nat) (a6 : Nat) (a7 : Nat) (a8 : Nat) (a9 : Nat) (a10 : Nat) (af3 : Nat → Int32) (af4 : Nat → Int32) (af5 : Nat → Int32) (af6 : Nat → Int32) (af7 : Nat → Int32) (h_j : j < 10) : Ct l yX5_canStrike cX5_canStrike 2 (some .boolean) 1 0 0 D T [.ref a0, .int (nI j)] [(a0, .inr (5, [.int (nI an), .int am, .int al, .int ao, .int au, .ref a1, .ref a2, .ref a3, .ref a4, .ref a5, .ref a6, .ref a7, .ref a8, .ref a9, .ref a10])), (a3, .inl (T 0, 10, .inl af3)), (a4, .inl (T 0, 10, .inl af4)), (a5, .inl (T 0, 10, .inl af5)), (a6, .inl (T 0, 10, .inl af6)), (a7, .inl (T 0, 10, .inl af7))] (q_s_canStrike T a0 j an am al ao au a1 a2 a3 a4 a5 a6 a7 a8 a9 a10 af3 af4 af5 af6 af7) := by
  refine Ct.of (cc := cX5_canStrike) (maxL := 2) (ret := (some .boolean)) (by decide) (Nat.le_of_ble_eq_true rfl) ?_
  intro p e s m args below meth c A ls hC hnm V hl
  obtain ⟨hx, hb, hr, hml, hown, hts, hlocks⟩ := id hC
  generalize hH : s.heap = H at V ⊢
  clear hH
  have hl : lv_has ls 2 [(0, .ref a0), (1, .int (nI j))] := hl
  generalize hlo : ([] : List Loc) = locs at V ⊢
  clear hlo
  refine lv_aload_n hx hb dX5_canStrike_0 rfl (lv_at hl 0 rfl) ?_
  refine lv_iload_n hx hb dX5_canStrike_1 rfl (lv_at hl 1 rfl) ?_
  refine g_callVU (nA := 1) hC V hl.1 (s_isDone l D T a0 j an am al ao au a1 a2 a3 a4 a5 a6 a7 a8 a9 a10 af6 af7 (by first | assumption | omega)) w_477 w_430 w_431 w_3 w_432 (by decide +kernel) rfl ⟨(Nat.le_of_ble_eq_true rfl), (Nat.le_of_ble_eq_true rfl)⟩ 0 (ci := 5) rfl rfl [0, 4, 5] rfl rfl (Nat.le_of_ble_eq_true rfl) dX5_canStrike_2 ⟨(Nat.le_of_ble_eq_true rfl), (Nat.le_of_ble_eq_true rfl)⟩ rfl (fun r w1 H locs hQ V => ?_)
  rcases hQ with ⟨rfl, rfl, f_1⟩ | ⟨rfl, rfl, f_2⟩
  · have V : gW D T A s [(a0, .inr (5, [.int (nI an), .int am, .int al, .int ao, .int au, .ref a1, .ref a2, .ref a3, .ref a4, .ref a5, .ref a6, .ref a7, .ref a8, .ref a9, .ref a10])), (a3, .inl (T 0, 10, .inl af3)), (a4, .inl (T 0, 10, .inl af4)), (a5, .inl (T 0, 10, .inl af5)), (a6, .inl (T 0, 10, .inl af6)), (a7, .inl (T 0, 10, .inl af7))] H locs := V _ [0, 3, 0] rfl rfl rfl (by decide +kernel) rfl
    show W p l e _ s m args below meth c H locs _ _ _ (F0 m 5 ls [.int (nI 1)])
    refine lv_if_ne (tgt := 26) hx hb dX5_canStrike_5 (by decide) (fun _ => ?_) (fun c => absurd (show (nI 1) = 0 from c) (by decide +kernel))
    refine lv_iconst (v := (nI 0)) hx hb dX5_canStrike_26 (by decide +kernel) ?_
    exact g_zret (Qr := (q_s_canStrike T a0 j an am al ao au a1 a2 a3 a4 a5 a6 a7 a8 a9 a10 af3 af4 af5 af6 af7)) hC V ⟨(Nat.le_of_ble_eq_true rfl), (Nat.le_of_ble_eq_true rfl)⟩ (by first | decide +kernel | exact rfl) (.inr ⟨rfl, rfl, (by first | exact Or.inl (by assumption) | exact Or.inr (by assumption))⟩) dX5_canStrike_27
  · have V : gW D T A s [(a0, .inr (5, [.int (nI an), .int am, .int al, .int ao, .int au, .ref a1, .ref a2, .ref a3, .ref a4, .ref a5, .ref a6, .ref a7, .ref a8, .ref a9, .ref a10])), (a3, .inl (T 0, 10, .inl af3)), (a4, .inl (T 0, 10, .inl af4)), (a5, .inl (T 0, 10, .inl af5)), (a6, .inl (T 0, 10, .inl af6)), (a7, .inl (T 0, 10, .inl af7))] H locs := V _ [0, 3, 0] rfl rfl rfl (by decide +kernel) rfl
    show W p l e _ s m args below meth c H locs _ _ _ (F0 m 5 ls [.int (nI 0)])
    refine lv_if_ne (tgt := 26) hx hb dX5_canStrike_5 (by decide) (fun c => absurd (show (nI 0) = 0 by decide +kernel) c) (fun _ => ?_)
    refine lv_aload_n hx hb dX5_canStrike_8 rfl (lv_at hl 0 rfl) ?_
    refine lv_iload_n hx hb dX5_canStrike_9 rfl (lv_at hl 1 rfl) ?_
    refine lv_aload_n hx hb dX5_canStrike_10 rfl (lv_at hl 0 rfl) ?_
    refine g_get hC V (ci := 5) uwX5 0 rfl rfl 7 (by decide) w_62 rfl rfl dX5_canStrike_11 ?_
    refine lv_iload_n hx hb dX5_canStrike_14 rfl (lv_at hl 1 rfl) ?_
    refine g_iald hC V 1 rfl (vp_in_nI (by omega) (by omega)) (v := (af3 j)) (congrArg _ (nI_clamp (by omega))) dX5_canStrike_15 ?_
    refine g_callVU (nA := 2) hC V hl.1 (s_isWorkableAt l D T a0 j (af3 j) an am al ao au a1 a2 a3 a4 a5 a6 a7 a8 a9 a10 af4 af5 (by first | assumption | omega)) w_478 w_479 w_480 w_3 w_481 (by decide +kernel) rfl ⟨(Nat.le_of_ble_eq_true rfl), (Nat.le_of_ble_eq_true rfl)⟩ 0 (ci := 5) rfl rfl [0, 2, 3] rfl rfl (Nat.le_of_ble_eq_true rfl) dX5_canStrike_16 ⟨(Nat.le_of_ble_eq_true rfl), (Nat.le_of_ble_eq_true rfl)⟩ rfl (fun r w1 H locs hQ V => ?_)
    rcases hQ with ⟨rfl, rfl, f_3, f_4⟩ | ⟨rfl, rfl, f_5⟩
    · have V : gW D T A s [(a0, .inr (5, [.int (nI an), .int am, .int al, .int ao, .int au, .ref a1, .ref a2, .ref a3, .ref a4, .ref a5, .ref a6, .ref a7, .ref a8, .ref a9, .ref a10])), (a3, .inl (T 0, 10, .inl af3)), (a4, .inl (T 0, 10, .inl af4)), (a5, .inl (T 0, 10, .inl af5)), (a6, .inl (T 0, 10, .inl af6)), (a7, .inl (T 0, 10, .inl af7))] H locs := V _ [0, 1, 0] rfl rfl rfl (by decide +kernel) rfl
      show W p l e _ s m args below meth c H locs _ _ _ (F0 m 19 ls [.int (nI 1)])
      refine lv_if_eq (tgt := 26) hx hb dX5_canStrike_19 (by decide) (fun c => absurd (show (nI 1) = 0 from c) (by decide +kernel)) (fun _ => ?_)
      refine lv_iconst (v := (nI 1)) hx hb dX5_canStrike_22 (by decide +kernel) ?_
      refine lv_goto (tgt := 27) hx hb dX5_canStrike_23 (by decide) ?_
      exact g_zret (Qr := (q_s_canStrike T a0 j an am al ao au a1 a2 a3 a4 a5 a6 a7 a8 a9 a10 af3 af4 af5 af6 af7)) hC V ⟨(Nat.le_of_ble_eq_true rfl), (Nat.le_of_ble_eq_true rfl)⟩ (by first | decide +kernel | exact rfl) (.inl ⟨rfl, rfl, (by assumption), (by assumption), (by assumption)⟩) dX5_canStrike_27
    · have V : gW D T A s [(a0, .inr (5, [.int (nI an), .int am, .int al, .int ao, .int au, .ref a1, .ref a2, .ref a3, .ref a4, .ref a5, .ref a6, .ref a7, .ref a8, .ref a9, .ref a10])), (a3, .inl (T 0, 10, .inl af3)), (a4, .inl (T 0, 10, .inl af4)), (a5, .inl (T 0, 10, .inl af5)), (a6, .inl (T 0, 10, .inl af6)), (a7, .inl (T 0, 10, .inl af7))] H locs := V _ [0, 1, 0] rfl rfl rfl (by decide +kernel) rfl
      show W p l e _ s m args below meth c H locs _ _ _ (F0 m 19 ls [.int (nI 0)])
      refine lv_if_eq (tgt := 26) hx hb dX5_canStrike_19 (by decide) (fun _ => ?_) (fun c => absurd (show (nI 0) = 0 by decide +kernel) c)
      refine lv_iconst (v := (nI 0)) hx hb dX5_canStrike_26 (by decide +kernel) ?_
      exact g_zret (Qr := (q_s_canStrike T a0 j an am al ao au a1 a2 a3 a4 a5 a6 a7 a8 a9 a10 af3 af4 af5 af6 af7)) hC V ⟨(Nat.le_of_ble_eq_true rfl), (Nat.le_of_ble_eq_true rfl)⟩ (by first | decide +kernel | exact rfl) (.inr ⟨rfl, rfl, (by first | exact Or.inl (by assumption) | exact Or.inr (by assumption))⟩) dX5_canStrike_27

def q_s_blastOn (T : Nat → ClassId) (a0 : Nat) (fi : Int32) (pl : Int32) (an : Nat) (am : Int32) (al : Int32) (ao : Int32) (au : Int32) (a1 : Nat) (a2 : Nat) (a3 : Nat) (a4 : Nat) (a5 : Nat) (a6 : Nat) (a7 : Nat) (a8 : Nat) (a9 : Nat) (a10 : Nat) (af1 : Nat → Int32) (af9 : Nat → Int32) : Option Value → va_W → Prop := fun rr ww => (∃ (z : Int32), rr = some (.int z) ∧ ww = [(a0, .inr (5, [.int (nI an), .int am, .int al, .int ao, .int au, .ref a1, .ref a2, .ref a3, .ref a4, .ref a5, .ref a6, .ref a7, .ref a8, .ref a9, .ref a10])), (a1, .inl (T 0, 10, .inl af1)), (a9, .inl (T 0, 10, .inl af9))])
set_option maxHeartbeats 4000000 in
set_option maxRecDepth 100000 in
theorem s_blastOn (l : Launch) (D : va_G) (T : Nat → ClassId) (a0 : Nat) (fi : Int32) (pl : Int32) (an : Nat) (am : Int32) (al : Int32) (ao : Int32) (au : Int32) (a1 : Nat) (a2 : Nat) (a3 : Nat) (a4 : Nat) (a5 : Nat) (a6 : Nat) (a7 : Nat) (a8 : Nat) (a9 : Nat) (a10 : Nat) (af1 : Nat → Int32) (af9 : Nat → Int32) (h_n : an ≤ 10) : Ct l yX5_blastOn cX5_blastOn 5 (some .int) 1 0 0 D T [.ref a0, .int fi, .int pl] [(a0, .inr (5, [.int (nI an), .int am, .int al, .int ao, .int au, .ref a1, .ref a2, .ref a3, .ref a4, .ref a5, .ref a6, .ref a7, .ref a8, .ref a9, .ref a10])), (a1, .inl (T 0, 10, .inl af1)), (a9, .inl (T 0, 10, .inl af9))] (q_s_blastOn T a0 fi pl an am al ao au a1 a2 a3 a4 a5 a6 a7 a8 a9 a10 af1 af9) := by
  refine Ct.of (cc := cX5_blastOn) (maxL := 5) (ret := (some .int)) (by decide) (Nat.le_of_ble_eq_true rfl) ?_
  intro p e s m args below meth c A ls hC hnm V hl
  obtain ⟨hx, hb, hr, hml, hown, hts, hlocks⟩ := id hC
  generalize hH : s.heap = H at V ⊢
  clear hH
  have hl : lv_has ls 5 [(0, .ref a0), (1, .int fi), (2, .int pl)] := hl
  generalize hlo : ([] : List Loc) = locs at V ⊢
  clear hlo
  refine lv_iconst (v := (nI 0)) hx hb dX5_blastOn_0 (by decide +kernel) ?_
  refine lv_istore_n (lv' := [(3, .int (nI 0)), (0, .ref a0), (1, .int fi), (2, .int pl)]) hx hb dX5_blastOn_1 rfl hl (by decide) rfl (fun ls hl => ?_)
  refine lv_iconst (v := (nI 0)) hx hb dX5_blastOn_2 (by decide +kernel) ?_
  refine lv_istore (lv' := [(4, .int (nI 0)), (3, .int (nI 0)), (0, .ref a0), (1, .int fi), (2, .int pl)]) hx hb dX5_blastOn_3 hl (by decide) rfl (fun ls hl => ?_)
  have L_1 : ∀ (fu : Nat) (k5 : Nat) (x5_3 : Int32), k5 ≤ an → an - k5 < fu → ∀ (H : Heap) (locs : List Loc) (ls : Array Slot), gW D T A s [(a0, .inr (5, [.int (nI an), .int am, .int al, .int ao, .int au, .ref a1, .ref a2, .ref a3, .ref a4, .ref a5, .ref a6, .ref a7, .ref a8, .ref a9, .ref a10])), (a1, .inl (T 0, 10, .inl af1)), (a9, .inl (T 0, 10, .inl af9))] H locs → lv_has ls 5 [(4, .int (nI k5)), (3, .int x5_3), (0, .ref a0), (1, .int fi), (2, .int pl)] → W p l e (rmD 1 0 0) s m args below meth c H locs 0 0 (MQ below (gQ D A (q_s_blastOn T a0 fi pl an am al ao au a1 a2 a3 a4 a5 a6 a7 a8 a9 a10 af1 af9)) args s 0 0 A) (F0 m 5 ls []) := by
    intro fu_5
    induction fu_5 with
    | zero => intro k5 x5_3 hk5 hmu; exact absurd hmu (Nat.not_lt_zero _)
    | succ fu_5 ih_5 =>
      intro k5 x5_3 hk5 hmu_5 H locs ls V hl
      refine lv_iload hx hb dX5_blastOn_5 (lv_at hl 0 rfl) ?_
      refine lv_aload_n hx hb dX5_blastOn_7 rfl (lv_at hl 2 rfl) ?_
      refine g_get hC V (ci := 5) uwX5 0 rfl rfl 0 (by decide) w_33 rfl rfl dX5_blastOn_8 ?_
      refine lv_icmp_ge (tgt := 50) hx hb dX5_blastOn_11 (by decide) (fun c_2 => ?_) (fun c_2 => ?_)
      · skip
        have c_2 := b_le (by omega) (by omega) c_2
        refine lv_iload_n hx hb dX5_blastOn_50 rfl (lv_at hl 1 rfl) ?_
        exact g_iret (Qr := (q_s_blastOn T a0 fi pl an am al ao au a1 a2 a3 a4 a5 a6 a7 a8 a9 a10 af1 af9)) hC V ⟨(Nat.le_of_ble_eq_true rfl), (Nat.le_of_ble_eq_true rfl)⟩ ⟨x5_3, rfl, rfl⟩ dX5_blastOn_51
      · skip
        have c_2 := b_nle (by omega) (by omega) c_2
        refine lv_aload_n hx hb dX5_blastOn_14 rfl (lv_at hl 2 rfl) ?_
        refine g_get hC V (ci := 5) uwX5 0 rfl rfl 13 (by decide) w_82 rfl rfl dX5_blastOn_15 ?_
        refine lv_iload hx hb dX5_blastOn_18 (lv_at hl 0 rfl) ?_
        refine g_iald hC V 2 rfl (vp_in_nI (by omega) (by omega)) (v := (af9 k5)) (congrArg _ (nI_clamp (by omega))) dX5_blastOn_20 ?_
        refine lv_iload_n hx hb dX5_blastOn_21 rfl (lv_at hl 3 rfl) ?_
        refine lv_icmp_ne (tgt := 44) hx hb dX5_blastOn_22 (by decide) (fun c_3 => ?_) (fun c_3 => ?_)
        · skip
          refine lv_iinc (v := (nI (k5 + 1))) (lv' := [(4, .int (nI (k5 + 1))), (3, .int x5_3), (0, .ref a0), (1, .int fi), (2, .int pl)]) hx hb dX5_blastOn_44 hl (k := 0) rfl (nI_1 _) (by decide) rfl (fun ls hl => ?_)
          refine lv_goto (tgt := 5) hx hb dX5_blastOn_47 (by decide) ?_
          exact ih_5 (k5 + 1) x5_3 (by omega) (by omega) _ _ _ V (lv_sub hl [0, 1, 2, 3, 4] rfl)
        · skip
          refine lv_iload_n hx hb dX5_blastOn_25 rfl (lv_at hl 4 rfl) ?_
          refine lv_iload hx hb dX5_blastOn_26 (lv_at hl 0 rfl) ?_
          refine g_callSNU (nA := 2) (host := RX7) hC V hl.1 (c_isIn l D T pl (nI k5)) w_472 (List.mem_of_getElem? (i := 13) rfl) w_2 w_471 (by decide +kernel) rfl ⟨(Nat.le_of_ble_eq_true rfl), (Nat.le_of_ble_eq_true rfl)⟩ [] rfl rfl (Nat.le_of_ble_eq_true rfl) dX5_blastOn_28 ⟨(Nat.le_of_ble_eq_true rfl), (Nat.le_of_ble_eq_true rfl)⟩ rfl (fun r w1 H locs hQ V => ?_)
          rcases hQ with ⟨rfl, rfl⟩ | ⟨rfl, rfl⟩
          · have V : gW D T A s [(a0, .inr (5, [.int (nI an), .int am, .int al, .int ao, .int au, .ref a1, .ref a2, .ref a3, .ref a4, .ref a5, .ref a6, .ref a7, .ref a8, .ref a9, .ref a10])), (a1, .inl (T 0, 10, .inl af1)), (a9, .inl (T 0, 10, .inl af9))] H locs := V _ [] rfl rfl rfl (by decide +kernel) rfl
            show W p l e _ s m args below meth c H locs _ _ _ (F0 m 31 ls [.int (nI 1)])
            refine lv_if_eq (tgt := 44) hx hb dX5_blastOn_31 (by decide) (fun c => absurd (show (nI 1) = 0 from c) (by decide +kernel)) (fun _ => ?_)
            refine lv_iload_n hx hb dX5_blastOn_34 rfl (lv_at hl 1 rfl) ?_
            refine lv_aload_n hx hb dX5_blastOn_35 rfl (lv_at hl 2 rfl) ?_
            refine g_get hC V (ci := 5) uwX5 0 rfl rfl 5 (by decide) w_51 rfl rfl dX5_blastOn_36 ?_
            refine lv_iload hx hb dX5_blastOn_39 (lv_at hl 0 rfl) ?_
            refine g_iald hC V 1 rfl (vp_in_nI (by omega) (by omega)) (v := (af1 k5)) (congrArg _ (nI_clamp (by omega))) dX5_blastOn_41 ?_
            refine lv_iadd hx hb dX5_blastOn_42 ?_
            refine lv_istore_n (lv' := [(3, .int (x5_3 + (af1 k5))), (4, .int (nI k5)), (0, .ref a0), (1, .int fi), (2, .int pl)]) hx hb dX5_blastOn_43 rfl hl (by decide) rfl (fun ls hl => ?_)
            refine lv_iinc (v := (nI (k5 + 1))) (lv' := [(4, .int (nI (k5 + 1))), (3, .int (x5_3 + (af1 k5))), (0, .ref a0), (1, .int fi), (2, .int pl)]) hx hb dX5_blastOn_44 hl (k := 1) rfl (nI_1 _) (by decide) rfl (fun ls hl => ?_)
            refine lv_goto (tgt := 5) hx hb dX5_blastOn_47 (by decide) ?_
            exact ih_5 (k5 + 1) (x5_3 + (af1 k5)) (by omega) (by omega) _ _ _ V (lv_sub hl [0, 1, 2, 3, 4] rfl)
          · have V : gW D T A s [(a0, .inr (5, [.int (nI an), .int am, .int al, .int ao, .int au, .ref a1, .ref a2, .ref a3, .ref a4, .ref a5, .ref a6, .ref a7, .ref a8, .ref a9, .ref a10])), (a1, .inl (T 0, 10, .inl af1)), (a9, .inl (T 0, 10, .inl af9))] H locs := V _ [] rfl rfl rfl (by decide +kernel) rfl
            show W p l e _ s m args below meth c H locs _ _ _ (F0 m 31 ls [.int (nI 0)])
            refine lv_if_eq (tgt := 44) hx hb dX5_blastOn_31 (by decide) (fun _ => ?_) (fun c => absurd (show (nI 0) = 0 by decide +kernel) c)
            refine lv_iinc (v := (nI (k5 + 1))) (lv' := [(4, .int (nI (k5 + 1))), (3, .int x5_3), (0, .ref a0), (1, .int fi), (2, .int pl)]) hx hb dX5_blastOn_44 hl (k := 0) rfl (nI_1 _) (by decide) rfl (fun ls hl => ?_)
            refine lv_goto (tgt := 5) hx hb dX5_blastOn_47 (by decide) ?_
            exact ih_5 (k5 + 1) x5_3 (by omega) (by omega) _ _ _ V (lv_sub hl [0, 1, 2, 3, 4] rfl)
  exact L_1 _ 0 (nI 0) (by omega) (Nat.lt_succ_self _) _ _ _ V (lv_sub hl [0, 1, 2, 3, 4] rfl)

def q_s_piecesDone (T : Nat → ClassId) (a0 : Nat) (an : Nat) (am : Int32) (al : Int32) (ao : Int32) (au : Int32) (a1 : Nat) (a2 : Nat) (a3 : Nat) (a4 : Nat) (a5 : Nat) (a6 : Nat) (a7 : Nat) (a8 : Nat) (a9 : Nat) (a10 : Nat) (af6 : Nat → Int32) (af7 : Nat → Int32) : Option Value → va_W → Prop := fun rr ww => (∃ (z : Int32), rr = some (.int z) ∧ ww = [(a0, .inr (5, [.int (nI an), .int am, .int al, .int ao, .int au, .ref a1, .ref a2, .ref a3, .ref a4, .ref a5, .ref a6, .ref a7, .ref a8, .ref a9, .ref a10])), (a6, .inl (T 0, 10, .inl af6)), (a7, .inl (T 0, 10, .inl af7))])
set_option maxHeartbeats 4000000 in
set_option maxRecDepth 100000 in
theorem s_piecesDone (l : Launch) (D : va_G) (T : Nat → ClassId) (a0 : Nat) (an : Nat) (am : Int32) (al : Int32) (ao : Int32) (au : Int32) (a1 : Nat) (a2 : Nat) (a3 : Nat) (a4 : Nat) (a5 : Nat) (a6 : Nat) (a7 : Nat) (a8 : Nat) (a9 : Nat) (a10 : Nat) (af6 : Nat → Int32) (af7 : Nat → Int32) (h_n : an ≤ 10) : Ct l yX5_piecesDone cX5_piecesDone 3 (some .int) 1 0 0 D T [.ref a0] [(a0, .inr (5, [.int (nI an), .int am, .int al, .int ao, .int au, .ref a1, .ref a2, .ref a3, .ref a4, .ref a5, .ref a6, .ref a7, .ref a8, .ref a9, .ref a10])), (a6, .inl (T 0, 10, .inl af6)), (a7, .inl (T 0, 10, .inl af7))] (q_s_piecesDone T a0 an am al ao au a1 a2 a3 a4 a5 a6 a7 a8 a9 a10 af6 af7) := by
  refine Ct.of (cc := cX5_piecesDone) (maxL := 3) (ret := (some .int)) (by decide) (Nat.le_of_ble_eq_true rfl) ?_
  intro p e s m args below meth c A ls hC hnm V hl
  obtain ⟨hx, hb, hr, hml, hown, hts, hlocks⟩ := id hC
  generalize hH : s.heap = H at V ⊢
  clear hH
  have hl : lv_has ls 3 [(0, .ref a0)] := hl
  generalize hlo : ([] : List Loc) = locs at V ⊢
  clear hlo
  refine lv_iconst (v := (nI 0)) hx hb dX5_piecesDone_0 (by decide +kernel) ?_
  refine lv_istore_n (lv' := [(1, .int (nI 0)), (0, .ref a0)]) hx hb dX5_piecesDone_1 rfl hl (by decide) rfl (fun ls hl => ?_)
  refine lv_iconst (v := (nI 0)) hx hb dX5_piecesDone_2 (by decide +kernel) ?_
  refine lv_istore_n (lv' := [(2, .int (nI 0)), (1, .int (nI 0)), (0, .ref a0)]) hx hb dX5_piecesDone_3 rfl hl (by decide) rfl (fun ls hl => ?_)
  have L_1 : ∀ (fu : Nat) (k4 : Nat) (x4_1 : Int32), k4 ≤ an → an - k4 < fu → ∀ (H : Heap) (locs : List Loc) (ls : Array Slot), gW D T A s [(a0, .inr (5, [.int (nI an), .int am, .int al, .int ao, .int au, .ref a1, .ref a2, .ref a3, .ref a4, .ref a5, .ref a6, .ref a7, .ref a8, .ref a9, .ref a10])), (a6, .inl (T 0, 10, .inl af6)), (a7, .inl (T 0, 10, .inl af7))] H locs → lv_has ls 3 [(2, .int (nI k4)), (1, .int x4_1), (0, .ref a0)] → W p l e (rmD 1 0 0) s m args below meth c H locs 0 0 (MQ below (gQ D A (q_s_piecesDone T a0 an am al ao au a1 a2 a3 a4 a5 a6 a7 a8 a9 a10 af6 af7)) args s 0 0 A) (F0 m 4 ls []) := by
    intro fu_4
    induction fu_4 with
    | zero => intro k4 x4_1 hk4 hmu; exact absurd hmu (Nat.not_lt_zero _)
    | succ fu_4 ih_4 =>
      intro k4 x4_1 hk4 hmu_4 H locs ls V hl
      refine lv_iload_n hx hb dX5_piecesDone_4 rfl (lv_at hl 0 rfl) ?_
      refine lv_aload_n hx hb dX5_piecesDone_5 rfl (lv_at hl 2 rfl) ?_
      refine g_get hC V (ci := 5) uwX5 0 rfl rfl 0 (by decide) w_33 rfl rfl dX5_piecesDone_6 ?_
      refine lv_icmp_ge (tgt := 34) hx hb dX5_piecesDone_9 (by decide) (fun c_2 => ?_) (fun c_2 => ?_)
      · skip
        have c_2 := b_le (by omega) (by omega) c_2
        refine lv_iload_n hx hb dX5_piecesDone_34 rfl (lv_at hl 1 rfl) ?_
        exact g_iret (Qr := (q_s_piecesDone T a0 an am al ao au a1 a2 a3 a4 a5 a6 a7 a8 a9 a10 af6 af7)) hC V ⟨(Nat.le_of_ble_eq_true rfl), (Nat.le_of_ble_eq_true rfl)⟩ ⟨x4_1, rfl, rfl⟩ dX5_piecesDone_35
      · skip
        have c_2 := b_nle (by omega) (by omega) c_2
        refine lv_iload_n hx hb dX5_piecesDone_12 rfl (lv_at hl 1 rfl) ?_
        refine lv_aload_n hx hb dX5_piecesDone_13 rfl (lv_at hl 2 rfl) ?_
        refine lv_iload_n hx hb dX5_piecesDone_14 rfl (lv_at hl 0 rfl) ?_
        refine g_callV (wr := []) (nA := 1) hC V hl.1 (s_isDone l D T a0 k4 an am al ao au a1 a2 a3 a4 a5 a6 a7 a8 a9 a10 af6 af7 (by first | assumption | omega)) w_477 w_430 w_431 w_3 w_432 (by decide +kernel) rfl ⟨(Nat.le_of_ble_eq_true rfl), (Nat.le_of_ble_eq_true rfl)⟩ 0 (ci := 5) rfl rfl [0, 1, 2] [] rfl rfl rfl rfl (by decide) (Nat.le_of_ble_eq_true rfl) dX5_piecesDone_15 ⟨(Nat.le_of_ble_eq_true rfl), (Nat.le_of_ble_eq_true rfl)⟩ rfl (fun r w1 H locs hQ V => ?_)
        rcases hQ with ⟨rfl, rfl, f_3⟩ | ⟨rfl, rfl, f_4⟩
        · have V : gW D T A s [(a0, .inr (5, [.int (nI an), .int am, .int al, .int ao, .int au, .ref a1, .ref a2, .ref a3, .ref a4, .ref a5, .ref a6, .ref a7, .ref a8, .ref a9, .ref a10])), (a6, .inl (T 0, 10, .inl af6)), (a7, .inl (T 0, 10, .inl af7))] H locs := V
          show W p l e _ s m args below meth c H locs _ _ _ (F0 m 18 ls [.int (nI 1), .int x4_1])
          refine lv_if_eq (tgt := 25) hx hb dX5_piecesDone_18 (by decide) (fun c => absurd (show (nI 1) = 0 from c) (by decide +kernel)) (fun _ => ?_)
          refine lv_iconst (v := (nI 1)) hx hb dX5_piecesDone_21 (by decide +kernel) ?_
          refine lv_goto (tgt := 26) hx hb dX5_piecesDone_22 (by decide) ?_
          refine lv_iadd hx hb dX5_piecesDone_26 ?_
          refine lv_istore_n (lv' := [(1, .int (x4_1 + (nI 1))), (2, .int (nI k4)), (0, .ref a0)]) hx hb dX5_piecesDone_27 rfl hl (by decide) rfl (fun ls hl => ?_)
          refine lv_iinc (v := (nI (k4 + 1))) (lv' := [(2, .int (nI (k4 + 1))), (1, .int (x4_1 + (nI 1))), (0, .ref a0)]) hx hb dX5_piecesDone_28 hl (k := 1) rfl (nI_1 _) (by decide) rfl (fun ls hl => ?_)
          refine lv_goto (tgt := 4) hx hb dX5_piecesDone_31 (by decide) ?_
          exact ih_4 (k4 + 1) (x4_1 + (nI 1)) (by omega) (by omega) _ _ _ V (lv_sub hl [0, 1, 2] rfl)
        · have V : gW D T A s [(a0, .inr (5, [.int (nI an), .int am, .int al, .int ao, .int au, .ref a1, .ref a2, .ref a3, .ref a4, .ref a5, .ref a6, .ref a7, .ref a8, .ref a9, .ref a10])), (a6, .inl (T 0, 10, .inl af6)), (a7, .inl (T 0, 10, .inl af7))] H locs := V
          show W p l e _ s m args below meth c H locs _ _ _ (F0 m 18 ls [.int (nI 0), .int x4_1])
          refine lv_if_eq (tgt := 25) hx hb dX5_piecesDone_18 (by decide) (fun _ => ?_) (fun c => absurd (show (nI 0) = 0 by decide +kernel) c)
          refine lv_iconst (v := (nI 0)) hx hb dX5_piecesDone_25 (by decide +kernel) ?_
          refine lv_iadd hx hb dX5_piecesDone_26 ?_
          refine lv_istore_n (lv' := [(1, .int (x4_1 + (nI 0))), (2, .int (nI k4)), (0, .ref a0)]) hx hb dX5_piecesDone_27 rfl hl (by decide) rfl (fun ls hl => ?_)
          refine lv_iinc (v := (nI (k4 + 1))) (lv' := [(2, .int (nI (k4 + 1))), (1, .int (x4_1 + (nI 0))), (0, .ref a0)]) hx hb dX5_piecesDone_28 hl (k := 1) rfl (nI_1 _) (by decide) rfl (fun ls hl => ?_)
          refine lv_goto (tgt := 4) hx hb dX5_piecesDone_31 (by decide) ?_
          exact ih_4 (k4 + 1) (x4_1 + (nI 0)) (by omega) (by omega) _ _ _ V (lv_sub hl [0, 1, 2] rfl)
  exact L_1 _ 0 (nI 0) (by omega) (Nat.lt_succ_self _) _ _ _ V (lv_sub hl [0, 1, 2] rfl)

def q_s_heatTogether (T : Nat → ClassId) (a0 : Nat) (an : Nat) (am : Int32) (al : Int32) (ao : Int32) (au : Int32) (a1 : Nat) (a2 : Nat) (a3 : Nat) (a4 : Nat) (a5 : Nat) (a6 : Nat) (a7 : Nat) (a8 : Nat) (a9 : Nat) (a10 : Nat) (af3 : Nat → Int32) : Option Value → va_W → Prop := fun rr ww => (∃ (z : Int32), rr = some (.int z) ∧ ww = [(a0, .inr (5, [.int (nI an), .int am, .int al, .int ao, .int au, .ref a1, .ref a2, .ref a3, .ref a4, .ref a5, .ref a6, .ref a7, .ref a8, .ref a9, .ref a10])), (a3, .inl (T 0, 10, .inl af3))])
set_option maxHeartbeats 4000000 in
set_option maxRecDepth 100000 in
theorem s_heatTogether (l : Launch) (D : va_G) (T : Nat → ClassId) (a0 : Nat) (an : Nat) (am : Int32) (al : Int32) (ao : Int32) (au : Int32) (a1 : Nat) (a2 : Nat) (a3 : Nat) (a4 : Nat) (a5 : Nat) (a6 : Nat) (a7 : Nat) (a8 : Nat) (a9 : Nat) (a10 : Nat) (af3 : Nat → Int32) (h_n : an ≤ 10) : Ct l yX5_heatTogether cX5_heatTogether 3 (some .int) 0 0 0 D T [.ref a0] [(a0, .inr (5, [.int (nI an), .int am, .int al, .int ao, .int au, .ref a1, .ref a2, .ref a3, .ref a4, .ref a5, .ref a6, .ref a7, .ref a8, .ref a9, .ref a10])), (a3, .inl (T 0, 10, .inl af3))] (q_s_heatTogether T a0 an am al ao au a1 a2 a3 a4 a5 a6 a7 a8 a9 a10 af3) := by
  refine Ct.of (cc := cX5_heatTogether) (maxL := 3) (ret := (some .int)) (by decide) (Nat.le_of_ble_eq_true rfl) ?_
  intro p e s m args below meth c A ls hC hnm V hl
  obtain ⟨hx, hb, hr, hml, hown, hts, hlocks⟩ := id hC
  generalize hH : s.heap = H at V ⊢
  clear hH
  have hl : lv_has ls 3 [(0, .ref a0)] := hl
  generalize hlo : ([] : List Loc) = locs at V ⊢
  clear hlo
  refine lv_iconst (v := (nI 0)) hx hb dX5_heatTogether_0 (by decide +kernel) ?_
  refine lv_istore_n (lv' := [(1, .int (nI 0)), (0, .ref a0)]) hx hb dX5_heatTogether_1 rfl hl (by decide) rfl (fun ls hl => ?_)
  refine lv_iconst (v := (nI 0)) hx hb dX5_heatTogether_2 (by decide +kernel) ?_
  refine lv_istore_n (lv' := [(2, .int (nI 0)), (1, .int (nI 0)), (0, .ref a0)]) hx hb dX5_heatTogether_3 rfl hl (by decide) rfl (fun ls hl => ?_)
  have L_1 : ∀ (fu : Nat) (k4 : Nat) (x4_1 : Int32), k4 ≤ an → an - k4 < fu → ∀ (H : Heap) (locs : List Loc) (ls : Array Slot), gW D T A s [(a0, .inr (5, [.int (nI an), .int am, .int al, .int ao, .int au, .ref a1, .ref a2, .ref a3, .ref a4, .ref a5, .ref a6, .ref a7, .ref a8, .ref a9, .ref a10])), (a3, .inl (T 0, 10, .inl af3))] H locs → lv_has ls 3 [(2, .int (nI k4)), (1, .int x4_1), (0, .ref a0)] → W p l e (rmD 0 0 0) s m args below meth c H locs 0 0 (MQ below (gQ D A (q_s_heatTogether T a0 an am al ao au a1 a2 a3 a4 a5 a6 a7 a8 a9 a10 af3)) args s 0 0 A) (F0 m 4 ls []) := by
    intro fu_4
    induction fu_4 with
    | zero => intro k4 x4_1 hk4 hmu; exact absurd hmu (Nat.not_lt_zero _)
    | succ fu_4 ih_4 =>
      intro k4 x4_1 hk4 hmu_4 H locs ls V hl
      refine lv_iload_n hx hb dX5_heatTogether_4 rfl (lv_at hl 0 rfl) ?_
      refine lv_aload_n hx hb dX5_heatTogether_5 rfl (lv_at hl 2 rfl) ?_
      refine g_get hC V (ci := 5) uwX5 0 rfl rfl 0 (by decide) w_33 rfl rfl dX5_heatTogether_6 ?_
      refine lv_icmp_ge (tgt := 27) hx hb dX5_heatTogether_9 (by decide) (fun c_2 => ?_) (fun c_2 => ?_)
      · skip
        have c_2 := b_le (by omega) (by omega) c_2
        refine lv_iload_n hx hb dX5_heatTogether_27 rfl (lv_at hl 1 rfl) ?_
        exact g_iret (Qr := (q_s_heatTogether T a0 an am al ao au a1 a2 a3 a4 a5 a6 a7 a8 a9 a10 af3)) hC V ⟨(Nat.le_of_ble_eq_true rfl), (Nat.le_of_ble_eq_true rfl)⟩ ⟨x4_1, rfl, rfl⟩ dX5_heatTogether_28
      · skip
        have c_2 := b_nle (by omega) (by omega) c_2
        refine lv_iload_n hx hb dX5_heatTogether_12 rfl (lv_at hl 1 rfl) ?_
        refine lv_aload_n hx hb dX5_heatTogether_13 rfl (lv_at hl 2 rfl) ?_
        refine g_get hC V (ci := 5) uwX5 0 rfl rfl 7 (by decide) w_62 rfl rfl dX5_heatTogether_14 ?_
        refine lv_iload_n hx hb dX5_heatTogether_17 rfl (lv_at hl 0 rfl) ?_
        refine g_iald hC V 1 rfl (vp_in_nI (by omega) (by omega)) (v := (af3 k4)) (congrArg _ (nI_clamp (by omega))) dX5_heatTogether_18 ?_
        refine lv_iadd hx hb dX5_heatTogether_19 ?_
        refine lv_istore_n (lv' := [(1, .int (x4_1 + (af3 k4))), (2, .int (nI k4)), (0, .ref a0)]) hx hb dX5_heatTogether_20 rfl hl (by decide) rfl (fun ls hl => ?_)
        refine lv_iinc (v := (nI (k4 + 1))) (lv' := [(2, .int (nI (k4 + 1))), (1, .int (x4_1 + (af3 k4))), (0, .ref a0)]) hx hb dX5_heatTogether_21 hl (k := 1) rfl (nI_1 _) (by decide) rfl (fun ls hl => ?_)
        refine lv_goto (tgt := 4) hx hb dX5_heatTogether_24 (by decide) ?_
        exact ih_4 (k4 + 1) (x4_1 + (af3 k4)) (by omega) (by omega) _ _ _ V (lv_sub hl [0, 1, 2] rfl)
  exact L_1 _ 0 (nI 0) (by omega) (Nat.lt_succ_self _) _ _ _ V (lv_sub hl [0, 1, 2] rfl)

def q_s_workable (T : Nat → ClassId) (a0 : Nat) (an : Nat) (am : Int32) (al : Int32) (ao : Int32) (au : Int32) (a1 : Nat) (a2 : Nat) (a3 : Nat) (a4 : Nat) (a5 : Nat) (a6 : Nat) (a7 : Nat) (a8 : Nat) (a9 : Nat) (a10 : Nat) (af3 : Nat → Int32) (af4 : Nat → Int32) (af5 : Nat → Int32) : Option Value → va_W → Prop := fun rr ww => (∃ (z : Int32), rr = some (.int z) ∧ ww = [(a0, .inr (5, [.int (nI an), .int am, .int al, .int ao, .int au, .ref a1, .ref a2, .ref a3, .ref a4, .ref a5, .ref a6, .ref a7, .ref a8, .ref a9, .ref a10])), (a3, .inl (T 0, 10, .inl af3)), (a4, .inl (T 0, 10, .inl af4)), (a5, .inl (T 0, 10, .inl af5))])
set_option maxHeartbeats 4000000 in
set_option maxRecDepth 100000 in
theorem s_workable (l : Launch) (D : va_G) (T : Nat → ClassId) (a0 : Nat) (an : Nat) (am : Int32) (al : Int32) (ao : Int32) (au : Int32) (a1 : Nat) (a2 : Nat) (a3 : Nat) (a4 : Nat) (a5 : Nat) (a6 : Nat) (a7 : Nat) (a8 : Nat) (a9 : Nat) (a10 : Nat) (af3 : Nat → Int32) (af4 : Nat → Int32) (af5 : Nat → Int32) (h_n : an ≤ 10) : Ct l yX5_workable cX5_workable 3 (some .int) 1 0 0 D T [.ref a0] [(a0, .inr (5, [.int (nI an), .int am, .int al, .int ao, .int au, .ref a1, .ref a2, .ref a3, .ref a4, .ref a5, .ref a6, .ref a7, .ref a8, .ref a9, .ref a10])), (a3, .inl (T 0, 10, .inl af3)), (a4, .inl (T 0, 10, .inl af4)), (a5, .inl (T 0, 10, .inl af5))] (q_s_workable T a0 an am al ao au a1 a2 a3 a4 a5 a6 a7 a8 a9 a10 af3 af4 af5) := by
  refine Ct.of (cc := cX5_workable) (maxL := 3) (ret := (some .int)) (by decide) (Nat.le_of_ble_eq_true rfl) ?_
  intro p e s m args below meth c A ls hC hnm V hl
  obtain ⟨hx, hb, hr, hml, hown, hts, hlocks⟩ := id hC
  generalize hH : s.heap = H at V ⊢
  clear hH
  have hl : lv_has ls 3 [(0, .ref a0)] := hl
  generalize hlo : ([] : List Loc) = locs at V ⊢
  clear hlo
  refine lv_iconst (v := (nI 0)) hx hb dX5_workable_0 (by decide +kernel) ?_
  refine lv_istore_n (lv' := [(1, .int (nI 0)), (0, .ref a0)]) hx hb dX5_workable_1 rfl hl (by decide) rfl (fun ls hl => ?_)
  refine lv_iconst (v := (nI 0)) hx hb dX5_workable_2 (by decide +kernel) ?_
  refine lv_istore_n (lv' := [(2, .int (nI 0)), (1, .int (nI 0)), (0, .ref a0)]) hx hb dX5_workable_3 rfl hl (by decide) rfl (fun ls hl => ?_)
  have L_1 : ∀ (fu : Nat) (k4 : Nat) (x4_1 : Int32), k4 ≤ an → an - k4 < fu → ∀ (H : Heap) (locs : List Loc) (ls : Array Slot), gW D T A s [(a0, .inr (5, [.int (nI an), .int am, .int al, .int ao, .int au, .ref a1, .ref a2, .ref a3, .ref a4, .ref a5, .ref a6, .ref a7, .ref a8, .ref a9, .ref a10])), (a3, .inl (T 0, 10, .inl af3)), (a4, .inl (T 0, 10, .inl af4)), (a5, .inl (T 0, 10, .inl af5))] H locs → lv_has ls 3 [(2, .int (nI k4)), (1, .int x4_1), (0, .ref a0)] → W p l e (rmD 1 0 0) s m args below meth c H locs 0 0 (MQ below (gQ D A (q_s_workable T a0 an am al ao au a1 a2 a3 a4 a5 a6 a7 a8 a9 a10 af3 af4 af5)) args s 0 0 A) (F0 m 4 ls []) := by
    intro fu_4
    induction fu_4 with
    | zero => intro k4 x4_1 hk4 hmu; exact absurd hmu (Nat.not_lt_zero _)
    | succ fu_4 ih_4 =>
      intro k4 x4_1 hk4 hmu_4 H locs ls V hl
      refine lv_iload_n hx hb dX5_workable_4 rfl (lv_at hl 0 rfl) ?_
      refine lv_aload_n hx hb dX5_workable_5 rfl (lv_at hl 2 rfl) ?_
      refine g_get hC V (ci := 5) uwX5 0 rfl rfl 0 (by decide) w_33 rfl rfl dX5_workable_6 ?_
      refine lv_icmp_ge (tgt := 42) hx hb dX5_workable_9 (by decide) (fun c_2 => ?_) (fun c_2 => ?_)
      · skip
        have c_2 := b_le (by omega) (by omega) c_2
        refine lv_iload_n hx hb dX5_workable_42 rfl (lv_at hl 1 rfl) ?_
        exact g_iret (Qr := (q_s_workable T a0 an am al ao au a1 a2 a3 a4 a5 a6 a7 a8 a9 a10 af3 af4 af5)) hC V ⟨(Nat.le_of_ble_eq_true rfl), (Nat.le_of_ble_eq_true rfl)⟩ ⟨x4_1, rfl, rfl⟩ dX5_workable_43
      · skip
        have c_2 := b_nle (by omega) (by omega) c_2
        refine lv_iload_n hx hb dX5_workable_12 rfl (lv_at hl 1 rfl) ?_
        refine lv_aload_n hx hb dX5_workable_13 rfl (lv_at hl 2 rfl) ?_
        refine lv_iload_n hx hb dX5_workable_14 rfl (lv_at hl 0 rfl) ?_
        refine lv_aload_n hx hb dX5_workable_15 rfl (lv_at hl 2 rfl) ?_
        refine g_get hC V (ci := 5) uwX5 0 rfl rfl 7 (by decide) w_62 rfl rfl dX5_workable_16 ?_
        refine lv_iload_n hx hb dX5_workable_19 rfl (lv_at hl 0 rfl) ?_
        refine g_iald hC V 1 rfl (vp_in_nI (by omega) (by omega)) (v := (af3 k4)) (congrArg _ (nI_clamp (by omega))) dX5_workable_20 ?_
        refine g_callVU (nA := 2) hC V hl.1 (s_isWorkableAt l D T a0 k4 (af3 k4) an am al ao au a1 a2 a3 a4 a5 a6 a7 a8 a9 a10 af4 af5 (by first | assumption | omega)) w_478 w_479 w_480 w_3 w_481 (by decide +kernel) rfl ⟨(Nat.le_of_ble_eq_true rfl), (Nat.le_of_ble_eq_true rfl)⟩ 0 (ci := 5) rfl rfl [0, 2, 3] rfl rfl (Nat.le_of_ble_eq_true rfl) dX5_workable_21 ⟨(Nat.le_of_ble_eq_true rfl), (Nat.le_of_ble_eq_true rfl)⟩ rfl (fun r w1 H locs hQ V => ?_)
        rcases hQ with ⟨rfl, rfl, f_3, f_4⟩ | ⟨rfl, rfl, f_5⟩
        · have V : gW D T A s [(a0, .inr (5, [.int (nI an), .int am, .int al, .int ao, .int au, .ref a1, .ref a2, .ref a3, .ref a4, .ref a5, .ref a6, .ref a7, .ref a8, .ref a9, .ref a10])), (a3, .inl (T 0, 10, .inl af3)), (a4, .inl (T 0, 10, .inl af4)), (a5, .inl (T 0, 10, .inl af5))] H locs := V _ [0, 1, 0] rfl rfl rfl (by decide +kernel) rfl
          show W p l e _ s m args below meth c H locs _ _ _ (F0 m 24 ls [.int (nI 1), .int x4_1])
          refine lv_if_eq (tgt := 33) hx hb dX5_workable_24 (by decide) (fun c => absurd (show (nI 1) = 0 from c) (by decide +kernel)) (fun _ => ?_)
          refine lv_iconst (v := (nI 1)) hx hb dX5_workable_27 (by decide +kernel) ?_
          refine lv_iload_n hx hb dX5_workable_28 rfl (lv_at hl 0 rfl) ?_
          refine lv_ishl hx hb dX5_workable_29 ?_
          refine lv_goto (tgt := 34) hx hb dX5_workable_30 (by decide) ?_
          refine lv_ior hx hb dX5_workable_34 ?_
          refine lv_istore_n (lv' := [(1, .int (x4_1 ||| ((nI 1) <<< ((nI k4) &&& 31)))), (2, .int (nI k4)), (0, .ref a0)]) hx hb dX5_workable_35 rfl hl (by decide) rfl (fun ls hl => ?_)
          refine lv_iinc (v := (nI (k4 + 1))) (lv' := [(2, .int (nI (k4 + 1))), (1, .int (x4_1 ||| ((nI 1) <<< ((nI k4) &&& 31)))), (0, .ref a0)]) hx hb dX5_workable_36 hl (k := 1) rfl (nI_1 _) (by decide) rfl (fun ls hl => ?_)
          refine lv_goto (tgt := 4) hx hb dX5_workable_39 (by decide) ?_
          exact ih_4 (k4 + 1) (x4_1 ||| ((nI 1) <<< ((nI k4) &&& 31))) (by omega) (by omega) _ _ _ V (lv_sub hl [0, 1, 2] rfl)
        · have V : gW D T A s [(a0, .inr (5, [.int (nI an), .int am, .int al, .int ao, .int au, .ref a1, .ref a2, .ref a3, .ref a4, .ref a5, .ref a6, .ref a7, .ref a8, .ref a9, .ref a10])), (a3, .inl (T 0, 10, .inl af3)), (a4, .inl (T 0, 10, .inl af4)), (a5, .inl (T 0, 10, .inl af5))] H locs := V _ [0, 1, 0] rfl rfl rfl (by decide +kernel) rfl
          show W p l e _ s m args below meth c H locs _ _ _ (F0 m 24 ls [.int (nI 0), .int x4_1])
          refine lv_if_eq (tgt := 33) hx hb dX5_workable_24 (by decide) (fun _ => ?_) (fun c => absurd (show (nI 0) = 0 by decide +kernel) c)
          refine lv_iconst (v := (nI 0)) hx hb dX5_workable_33 (by decide +kernel) ?_
          refine lv_ior hx hb dX5_workable_34 ?_
          refine lv_istore_n (lv' := [(1, .int (x4_1 ||| (nI 0))), (2, .int (nI k4)), (0, .ref a0)]) hx hb dX5_workable_35 rfl hl (by decide) rfl (fun ls hl => ?_)
          refine lv_iinc (v := (nI (k4 + 1))) (lv' := [(2, .int (nI (k4 + 1))), (1, .int (x4_1 ||| (nI 0))), (0, .ref a0)]) hx hb dX5_workable_36 hl (k := 1) rfl (nI_1 _) (by decide) rfl (fun ls hl => ?_)
          refine lv_goto (tgt := 4) hx hb dX5_workable_39 (by decide) ?_
          exact ih_4 (k4 + 1) (x4_1 ||| (nI 0)) (by omega) (by omega) _ _ _ V (lv_sub hl [0, 1, 2] rfl)
  exact L_1 _ 0 (nI 0) (by omega) (Nat.lt_succ_self _) _ _ _ V (lv_sub hl [0, 1, 2] rfl)
