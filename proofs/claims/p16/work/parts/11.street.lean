def q_s_isSmith (T : Nat → ClassId) (a0 : Nat) (i : Int32) (an : Nat) (am : Int32) (al : Int32) (ao : Int32) (au : Int32) (a1 : Nat) (a2 : Nat) (a3 : Nat) (a4 : Nat) (a5 : Nat) (a6 : Nat) (a7 : Nat) (a8 : Nat) (a9 : Nat) (a10 : Nat) : Option Value → va_W → Prop := fun rr ww => (∃ (j : Nat), rr = some (.int (nI 1)) ∧ ww = [(a0, .inr (5, [.int (nI an), .int am, .int al, .int ao, .int au, .ref a1, .ref a2, .ref a3, .ref a4, .ref a5, .ref a6, .ref a7, .ref a8, .ref a9, .ref a10]))] ∧ i = nI j ∧ j < an) ∨ (rr = some (.int (nI 0)) ∧ ww = [(a0, .inr (5, [.int (nI an), .int am, .int al, .int ao, .int au, .ref a1, .ref a2, .ref a3, .ref a4, .ref a5, .ref a6, .ref a7, .ref a8, .ref a9, .ref a10]))] ∧ (i < 0 ∨ nI an ≤ i))
set_option maxHeartbeats 4000000 in
set_option maxRecDepth 100000 in
theorem s_isSmith (l : Launch) (D : va_G) (T : Nat → ClassId) (a0 : Nat) (i : Int32) (an : Nat) (am : Int32) (al : Int32) (ao : Int32) (au : Int32) (a1 : Nat) (a2 : Nat) (a3 : Nat) (a4 : Nat) (a5 : Nat) (a6 : Nat) (a7 : Nat) (a8 : Nat) (a9 : Nat) (a10 : Nat) (h_n : an ≤ 10) : Ct l yX5_isSmith cX5_isSmith 2 (some .boolean) 0 0 0 D T [.ref a0, .int i] [(a0, .inr (5, [.int (nI an), .int am, .int al, .int ao, .int au, .ref a1, .ref a2, .ref a3, .ref a4, .ref a5, .ref a6, .ref a7, .ref a8, .ref a9, .ref a10]))] (q_s_isSmith T a0 i an am al ao au a1 a2 a3 a4 a5 a6 a7 a8 a9 a10) := by
  refine Ct.of (cc := cX5_isSmith) (maxL := 2) (ret := (some .boolean)) (by decide) (Nat.le_of_ble_eq_true rfl) ?_
  intro p e s m args below meth c A ls hC hnm V hl
  obtain ⟨hx, hb, hr, hml, hown, hts, hlocks⟩ := id hC
  generalize hH : s.heap = H at V ⊢
  clear hH
  have hl : lv_has ls 2 [(0, .ref a0), (1, .int i)] := hl
  generalize hlo : ([] : List Loc) = locs at V ⊢
  clear hlo
  refine lv_iload_n hx hb dX5_isSmith_0 rfl (lv_at hl 1 rfl) ?_
  refine lv_if_lt (tgt := 16) hx hb dX5_isSmith_1 (by decide) (fun c_1 => ?_) (fun c_1 => ?_)
  · skip
    refine lv_iconst (v := (nI 0)) hx hb dX5_isSmith_16 (by decide +kernel) ?_
    exact g_zret (Qr := (q_s_isSmith T a0 i an am al ao au a1 a2 a3 a4 a5 a6 a7 a8 a9 a10)) hC V ⟨(Nat.le_of_ble_eq_true rfl), (Nat.le_of_ble_eq_true rfl)⟩ (by first | decide +kernel | exact rfl) (.inr ⟨rfl, rfl, (by first | exact Or.inl (by assumption) | exact Or.inr (by assumption))⟩) dX5_isSmith_17
  · skip
    refine lv_iload_n hx hb dX5_isSmith_4 rfl (lv_at hl 1 rfl) ?_
    refine lv_aload_n hx hb dX5_isSmith_5 rfl (lv_at hl 0 rfl) ?_
    refine g_get hC V (ci := 5) uwX5 0 rfl rfl 0 (by decide) w_33 rfl rfl dX5_isSmith_6 ?_
    refine lv_icmp_ge (tgt := 16) hx hb dX5_isSmith_9 (by decide) (fun c_2 => ?_) (fun c_2 => ?_)
    · skip
      refine lv_iconst (v := (nI 0)) hx hb dX5_isSmith_16 (by decide +kernel) ?_
      exact g_zret (Qr := (q_s_isSmith T a0 i an am al ao au a1 a2 a3 a4 a5 a6 a7 a8 a9 a10)) hC V ⟨(Nat.le_of_ble_eq_true rfl), (Nat.le_of_ble_eq_true rfl)⟩ (by first | decide +kernel | exact rfl) (.inr ⟨rfl, rfl, (by first | exact Or.inl (by assumption) | exact Or.inr (by assumption))⟩) dX5_isSmith_17
    · skip
      obtain ⟨j, hj, ej⟩ := g_idx (by omega) c_1 c_2
      refine lv_iconst (v := (nI 1)) hx hb dX5_isSmith_12 (by decide +kernel) ?_
      refine lv_goto (tgt := 17) hx hb dX5_isSmith_13 (by decide) ?_
      exact g_zret (Qr := (q_s_isSmith T a0 i an am al ao au a1 a2 a3 a4 a5 a6 a7 a8 a9 a10)) hC V ⟨(Nat.le_of_ble_eq_true rfl), (Nat.le_of_ble_eq_true rfl)⟩ (by first | decide +kernel | exact rfl) (.inl ⟨j, rfl, rfl, ej, hj⟩) dX5_isSmith_17

def q_s_everyone (T : Nat → ClassId) (a0 : Nat) (an : Nat) (am : Int32) (al : Int32) (ao : Int32) (au : Int32) (a1 : Nat) (a2 : Nat) (a3 : Nat) (a4 : Nat) (a5 : Nat) (a6 : Nat) (a7 : Nat) (a8 : Nat) (a9 : Nat) (a10 : Nat) : Option Value → va_W → Prop := fun rr ww => (rr = some (.int (nI (2 ^ an - 1))) ∧ ww = [(a0, .inr (5, [.int (nI an), .int am, .int al, .int ao, .int au, .ref a1, .ref a2, .ref a3, .ref a4, .ref a5, .ref a6, .ref a7, .ref a8, .ref a9, .ref a10]))])
set_option maxHeartbeats 4000000 in
set_option maxRecDepth 100000 in
theorem s_everyone (l : Launch) (D : va_G) (T : Nat → ClassId) (a0 : Nat) (an : Nat) (am : Int32) (al : Int32) (ao : Int32) (au : Int32) (a1 : Nat) (a2 : Nat) (a3 : Nat) (a4 : Nat) (a5 : Nat) (a6 : Nat) (a7 : Nat) (a8 : Nat) (a9 : Nat) (a10 : Nat) (h_n : an ≤ 10) : Ct l yX5_everyone cX5_everyone 1 (some .int) 0 0 0 D T [.ref a0] [(a0, .inr (5, [.int (nI an), .int am, .int al, .int ao, .int au, .ref a1, .ref a2, .ref a3, .ref a4, .ref a5, .ref a6, .ref a7, .ref a8, .ref a9, .ref a10]))] (q_s_everyone T a0 an am al ao au a1 a2 a3 a4 a5 a6 a7 a8 a9 a10) := by
  refine Ct.of (cc := cX5_everyone) (maxL := 1) (ret := (some .int)) (by decide) (Nat.le_of_ble_eq_true rfl) ?_
  intro p e s m args below meth c A ls hC hnm V hl
  obtain ⟨hx, hb, hr, hml, hown, hts, hlocks⟩ := id hC
  generalize hH : s.heap = H at V ⊢
  clear hH
  have hl : lv_has ls 1 [(0, .ref a0)] := hl
  generalize hlo : ([] : List Loc) = locs at V ⊢
  clear hlo
  refine lv_iconst (v := (nI 1)) hx hb dX5_everyone_0 (by decide +kernel) ?_
  refine lv_aload_n hx hb dX5_everyone_1 rfl (lv_at hl 0 rfl) ?_
  refine g_get hC V (ci := 5) uwX5 0 rfl rfl 0 (by decide) w_33 rfl rfl dX5_everyone_2 ?_
  refine lv_ishl hx hb dX5_everyone_5 ?_
  refine g_vi (y := (nI (2 ^ an))) (shl_pow (by omega)) ?_
  refine lv_iconst (v := (nI 1)) hx hb dX5_everyone_6 (by decide +kernel) ?_
  refine lv_isub hx hb dX5_everyone_7 ?_
  refine g_vi (y := (nI (2 ^ an - 1))) (nI_sub (pw10 h_n).1) ?_
  exact g_iret (Qr := (q_s_everyone T a0 an am al ao au a1 a2 a3 a4 a5 a6 a7 a8 a9 a10)) hC V ⟨(Nat.le_of_ble_eq_true rfl), (Nat.le_of_ble_eq_true rfl)⟩ ⟨rfl, rfl⟩ dX5_everyone_8

def q_s_takeFrom (T : Nat → ClassId) (a0 : Nat) (b0 : Nat) (an : Int32) (am : Int32) (al : Int32) (ao : Int32) (au : Int32) (a1 : Nat) (a2 : Nat) (a3 : Nat) (a4 : Nat) (a5 : Nat) (a6 : Nat) (a7 : Nat) (a8 : Nat) (a9 : Nat) (a10 : Nat) (af1 : Nat → Int32) (af2 : Nat → Int32) (af3 : Nat → Int32) (af4 : Nat → Int32) (af5 : Nat → Int32) (af6 : Nat → Int32) (af7 : Nat → Int32) (af8 : Nat → Int32) (af9 : Nat → Int32) (bn : Nat) (bm : Int32) (bl : Int32) (bo : Int32) (bu : Int32) (b1 : Nat) (b2 : Nat) (b3 : Nat) (b4 : Nat) (b5 : Nat) (b6 : Nat) (b7 : Nat) (b8 : Nat) (b9 : Nat) (b10 : Nat) (bf1 : Nat → Int32) (bf2 : Nat → Int32) (bf3 : Nat → Int32) (bf4 : Nat → Int32) (bf5 : Nat → Int32) (bf6 : Nat → Int32) (bf7 : Nat → Int32) (bf8 : Nat → Int32) (bf9 : Nat → Int32) : Option Value → va_W → Prop := fun rr ww => (∃ (g1 : Nat → Int32) (g2 : Nat → Int32) (g3 : Nat → Int32) (g4 : Nat → Int32) (g5 : Nat → Int32) (g6 : Nat → Int32) (g7 : Nat → Int32) (g8 : Nat → Int32) (g9 : Nat → Int32), rr = none ∧ ww = [(a0, .inr (5, [.int (nI bn), .int bm, .int bl, .int bo, .int bu, .ref a1, .ref a2, .ref a3, .ref a4, .ref a5, .ref a6, .ref a7, .ref a8, .ref a9, .ref a10])), (a1, .inl (T 0, 10, .inl g1)), (a2, .inl (T 0, 10, .inl g2)), (a3, .inl (T 0, 10, .inl g3)), (a4, .inl (T 0, 10, .inl g4)), (a5, .inl (T 0, 10, .inl g5)), (a6, .inl (T 0, 10, .inl g6)), (a7, .inl (T 0, 10, .inl g7)), (a8, .inl (T 0, 10, .inl g8)), (a9, .inl (T 0, 10, .inl g9)), (b0, .inr (5, [.int (nI bn), .int bm, .int bl, .int bo, .int bu, .ref b1, .ref b2, .ref b3, .ref b4, .ref b5, .ref b6, .ref b7, .ref b8, .ref b9, .ref b10])), (b1, .inl (T 0, 10, .inl bf1)), (b2, .inl (T 0, 10, .inl bf2)), (b3, .inl (T 0, 10, .inl bf3)), (b4, .inl (T 0, 10, .inl bf4)), (b5, .inl (T 0, 10, .inl bf5)), (b6, .inl (T 0, 10, .inl bf6)), (b7, .inl (T 0, 10, .inl bf7)), (b8, .inl (T 0, 10, .inl bf8)), (b9, .inl (T 0, 10, .inl bf9))] ∧ (∀ i, i < bn → g1 i = bf1 i) ∧ (∀ i, i < bn → g2 i = bf2 i) ∧ (∀ i, i < bn → g3 i = bf3 i) ∧ (∀ i, i < bn → g4 i = bf4 i) ∧ (∀ i, i < bn → g5 i = bf5 i) ∧ (∀ i, i < bn → g6 i = bf6 i) ∧ (∀ i, i < bn → g7 i = bf7 i) ∧ (∀ i, i < bn → g8 i = bf8 i) ∧ (∀ i, i < bn → g9 i = bf9 i))
set_option maxHeartbeats 4000000 in
set_option maxRecDepth 100000 in
theorem s_takeFrom (l : Launch) (D : va_G) (T : Nat → ClassId) (a0 : Nat) (b0 : Nat) (an : Int32) (am : Int32) (al : Int32) (ao : Int32) (au : Int32) (a1 : Nat) (a2 : Nat) (a3 : Nat) (a4 : Nat) (a5 : Nat) (a6 : Nat) (a7 : Nat) (a8 : Nat) (a9 : Nat) (a10 : Nat) (af1 : Nat → Int32) (af2 : Nat → Int32) (af3 : Nat → Int32) (af4 : Nat → Int32) (af5 : Nat → Int32) (af6 : Nat → Int32) (af7 : Nat → Int32) (af8 : Nat → Int32) (af9 : Nat → Int32) (bn : Nat) (bm : Int32) (bl : Int32) (bo : Int32) (bu : Int32) (b1 : Nat) (b2 : Nat) (b3 : Nat) (b4 : Nat) (b5 : Nat) (b6 : Nat) (b7 : Nat) (b8 : Nat) (b9 : Nat) (b10 : Nat) (bf1 : Nat → Int32) (bf2 : Nat → Int32) (bf3 : Nat → Int32) (bf4 : Nat → Int32) (bf5 : Nat → Int32) (bf6 : Nat → Int32) (bf7 : Nat → Int32) (bf8 : Nat → Int32) (bf9 : Nat → Int32) (h_n : bn ≤ 10) : Ct l yX5_takeFrom cX5_takeFrom 3 none 0 0 0 D T [.ref a0, .ref b0] [(a0, .inr (5, [.int an, .int am, .int al, .int ao, .int au, .ref a1, .ref a2, .ref a3, .ref a4, .ref a5, .ref a6, .ref a7, .ref a8, .ref a9, .ref a10])), (a1, .inl (T 0, 10, .inl af1)), (a2, .inl (T 0, 10, .inl af2)), (a3, .inl (T 0, 10, .inl af3)), (a4, .inl (T 0, 10, .inl af4)), (a5, .inl (T 0, 10, .inl af5)), (a6, .inl (T 0, 10, .inl af6)), (a7, .inl (T 0, 10, .inl af7)), (a8, .inl (T 0, 10, .inl af8)), (a9, .inl (T 0, 10, .inl af9)), (b0, .inr (5, [.int (nI bn), .int bm, .int bl, .int bo, .int bu, .ref b1, .ref b2, .ref b3, .ref b4, .ref b5, .ref b6, .ref b7, .ref b8, .ref b9, .ref b10])), (b1, .inl (T 0, 10, .inl bf1)), (b2, .inl (T 0, 10, .inl bf2)), (b3, .inl (T 0, 10, .inl bf3)), (b4, .inl (T 0, 10, .inl bf4)), (b5, .inl (T 0, 10, .inl bf5)), (b6, .inl (T 0, 10, .inl bf6)), (b7, .inl (T 0, 10, .inl bf7)), (b8, .inl (T 0, 10, .inl bf8)), (b9, .inl (T 0, 10, .inl bf9))] (q_s_takeFrom T a0 b0 an am al ao au a1 a2 a3 a4 a5 a6 a7 a8 a9 a10 af1 af2 af3 af4 af5 af6 af7 af8 af9 bn bm bl bo bu b1 b2 b3 b4 b5 b6 b7 b8 b9 b10 bf1 bf2 bf3 bf4 bf5 bf6 bf7 bf8 bf9) := by
  refine Ct.of (cc := cX5_takeFrom) (maxL := 3) (ret := none) (by decide) (Nat.le_of_ble_eq_true rfl) ?_
  intro p e s m args below meth c A ls hC hnm V hl
  obtain ⟨hx, hb, hr, hml, hown, hts, hlocks⟩ := id hC
  generalize hH : s.heap = H at V ⊢
  clear hH
  have hl : lv_has ls 3 [(0, .ref a0), (1, .ref b0)] := hl
  generalize hlo : ([] : List Loc) = locs at V ⊢
  clear hlo
  refine lv_aload_n hx hb dX5_takeFrom_0 rfl (lv_at hl 0 rfl) ?_
  refine lv_aload_n hx hb dX5_takeFrom_1 rfl (lv_at hl 1 rfl) ?_
  refine g_get hC V (ci := 5) uwX5 10 rfl rfl 0 (by decide) w_33 rfl rfl dX5_takeFrom_2 ?_
  refine g_put hC V (ci := 5) uwX5 tyX5 tyX5_ok nmX5 0 rfl rfl 0 (by decide) w_33 rfl rfl rfl rfl (Nat.le_of_ble_eq_true rfl) (ws' := [(a0, .inr (5, [.int (nI bn), .int am, .int al, .int ao, .int au, .ref a1, .ref a2, .ref a3, .ref a4, .ref a5, .ref a6, .ref a7, .ref a8, .ref a9, .ref a10])), (a1, .inl (T 0, 10, .inl af1)), (a2, .inl (T 0, 10, .inl af2)), (a3, .inl (T 0, 10, .inl af3)), (a4, .inl (T 0, 10, .inl af4)), (a5, .inl (T 0, 10, .inl af5)), (a6, .inl (T 0, 10, .inl af6)), (a7, .inl (T 0, 10, .inl af7)), (a8, .inl (T 0, 10, .inl af8)), (a9, .inl (T 0, 10, .inl af9)), (b0, .inr (5, [.int (nI bn), .int bm, .int bl, .int bo, .int bu, .ref b1, .ref b2, .ref b3, .ref b4, .ref b5, .ref b6, .ref b7, .ref b8, .ref b9, .ref b10])), (b1, .inl (T 0, 10, .inl bf1)), (b2, .inl (T 0, 10, .inl bf2)), (b3, .inl (T 0, 10, .inl bf3)), (b4, .inl (T 0, 10, .inl bf4)), (b5, .inl (T 0, 10, .inl bf5)), (b6, .inl (T 0, 10, .inl bf6)), (b7, .inl (T 0, 10, .inl bf7)), (b8, .inl (T 0, 10, .inl bf8)), (b9, .inl (T 0, 10, .inl bf9))]) rfl dX5_takeFrom_5 (fun H locs V => ?_)
  refine lv_aload_n hx hb dX5_takeFrom_8 rfl (lv_at hl 0 rfl) ?_
  refine lv_aload_n hx hb dX5_takeFrom_9 rfl (lv_at hl 1 rfl) ?_
  refine g_get hC V (ci := 5) uwX5 10 rfl rfl 1 (by decide) w_39 rfl rfl dX5_takeFrom_10 ?_
  refine g_put hC V (ci := 5) uwX5 tyX5 tyX5_ok nmX5 0 rfl rfl 1 (by decide) w_39 rfl rfl rfl rfl (Nat.le_of_ble_eq_true rfl) (ws' := [(a0, .inr (5, [.int (nI bn), .int bm, .int al, .int ao, .int au, .ref a1, .ref a2, .ref a3, .ref a4, .ref a5, .ref a6, .ref a7, .ref a8, .ref a9, .ref a10])), (a1, .inl (T 0, 10, .inl af1)), (a2, .inl (T 0, 10, .inl af2)), (a3, .inl (T 0, 10, .inl af3)), (a4, .inl (T 0, 10, .inl af4)), (a5, .inl (T 0, 10, .inl af5)), (a6, .inl (T 0, 10, .inl af6)), (a7, .inl (T 0, 10, .inl af7)), (a8, .inl (T 0, 10, .inl af8)), (a9, .inl (T 0, 10, .inl af9)), (b0, .inr (5, [.int (nI bn), .int bm, .int bl, .int bo, .int bu, .ref b1, .ref b2, .ref b3, .ref b4, .ref b5, .ref b6, .ref b7, .ref b8, .ref b9, .ref b10])), (b1, .inl (T 0, 10, .inl bf1)), (b2, .inl (T 0, 10, .inl bf2)), (b3, .inl (T 0, 10, .inl bf3)), (b4, .inl (T 0, 10, .inl bf4)), (b5, .inl (T 0, 10, .inl bf5)), (b6, .inl (T 0, 10, .inl bf6)), (b7, .inl (T 0, 10, .inl bf7)), (b8, .inl (T 0, 10, .inl bf8)), (b9, .inl (T 0, 10, .inl bf9))]) rfl dX5_takeFrom_13 (fun H locs V => ?_)
  refine lv_aload_n hx hb dX5_takeFrom_16 rfl (lv_at hl 0 rfl) ?_
  refine lv_aload_n hx hb dX5_takeFrom_17 rfl (lv_at hl 1 rfl) ?_
  refine g_get hC V (ci := 5) uwX5 10 rfl rfl 2 (by decide) w_42 rfl rfl dX5_takeFrom_18 ?_
  refine g_put hC V (ci := 5) uwX5 tyX5 tyX5_ok nmX5 0 rfl rfl 2 (by decide) w_42 rfl rfl rfl rfl (Nat.le_of_ble_eq_true rfl) (ws' := [(a0, .inr (5, [.int (nI bn), .int bm, .int bl, .int ao, .int au, .ref a1, .ref a2, .ref a3, .ref a4, .ref a5, .ref a6, .ref a7, .ref a8, .ref a9, .ref a10])), (a1, .inl (T 0, 10, .inl af1)), (a2, .inl (T 0, 10, .inl af2)), (a3, .inl (T 0, 10, .inl af3)), (a4, .inl (T 0, 10, .inl af4)), (a5, .inl (T 0, 10, .inl af5)), (a6, .inl (T 0, 10, .inl af6)), (a7, .inl (T 0, 10, .inl af7)), (a8, .inl (T 0, 10, .inl af8)), (a9, .inl (T 0, 10, .inl af9)), (b0, .inr (5, [.int (nI bn), .int bm, .int bl, .int bo, .int bu, .ref b1, .ref b2, .ref b3, .ref b4, .ref b5, .ref b6, .ref b7, .ref b8, .ref b9, .ref b10])), (b1, .inl (T 0, 10, .inl bf1)), (b2, .inl (T 0, 10, .inl bf2)), (b3, .inl (T 0, 10, .inl bf3)), (b4, .inl (T 0, 10, .inl bf4)), (b5, .inl (T 0, 10, .inl bf5)), (b6, .inl (T 0, 10, .inl bf6)), (b7, .inl (T 0, 10, .inl bf7)), (b8, .inl (T 0, 10, .inl bf8)), (b9, .inl (T 0, 10, .inl bf9))]) rfl dX5_takeFrom_21 (fun H locs V => ?_)
  refine lv_aload_n hx hb dX5_takeFrom_24 rfl (lv_at hl 0 rfl) ?_
  refine lv_aload_n hx hb dX5_takeFrom_25 rfl (lv_at hl 1 rfl) ?_
  refine g_get hC V (ci := 5) uwX5 10 rfl rfl 3 (by decide) w_45 rfl rfl dX5_takeFrom_26 ?_
  refine g_put hC V (ci := 5) uwX5 tyX5 tyX5_ok nmX5 0 rfl rfl 3 (by decide) w_45 rfl rfl rfl rfl (Nat.le_of_ble_eq_true rfl) (ws' := [(a0, .inr (5, [.int (nI bn), .int bm, .int bl, .int bo, .int au, .ref a1, .ref a2, .ref a3, .ref a4, .ref a5, .ref a6, .ref a7, .ref a8, .ref a9, .ref a10])), (a1, .inl (T 0, 10, .inl af1)), (a2, .inl (T 0, 10, .inl af2)), (a3, .inl (T 0, 10, .inl af3)), (a4, .inl (T 0, 10, .inl af4)), (a5, .inl (T 0, 10, .inl af5)), (a6, .inl (T 0, 10, .inl af6)), (a7, .inl (T 0, 10, .inl af7)), (a8, .inl (T 0, 10, .inl af8)), (a9, .inl (T 0, 10, .inl af9)), (b0, .inr (5, [.int (nI bn), .int bm, .int bl, .int bo, .int bu, .ref b1, .ref b2, .ref b3, .ref b4, .ref b5, .ref b6, .ref b7, .ref b8, .ref b9, .ref b10])), (b1, .inl (T 0, 10, .inl bf1)), (b2, .inl (T 0, 10, .inl bf2)), (b3, .inl (T 0, 10, .inl bf3)), (b4, .inl (T 0, 10, .inl bf4)), (b5, .inl (T 0, 10, .inl bf5)), (b6, .inl (T 0, 10, .inl bf6)), (b7, .inl (T 0, 10, .inl bf7)), (b8, .inl (T 0, 10, .inl bf8)), (b9, .inl (T 0, 10, .inl bf9))]) rfl dX5_takeFrom_29 (fun H locs V => ?_)
  refine lv_aload_n hx hb dX5_takeFrom_32 rfl (lv_at hl 0 rfl) ?_
  refine lv_aload_n hx hb dX5_takeFrom_33 rfl (lv_at hl 1 rfl) ?_
  refine g_get hC V (ci := 5) uwX5 10 rfl rfl 4 (by decide) w_49 rfl rfl dX5_takeFrom_34 ?_
  refine g_put hC V (ci := 5) uwX5 tyX5 tyX5_ok nmX5 0 rfl rfl 4 (by decide) w_49 rfl rfl rfl rfl (Nat.le_of_ble_eq_true rfl) (ws' := [(a0, .inr (5, [.int (nI bn), .int bm, .int bl, .int bo, .int bu, .ref a1, .ref a2, .ref a3, .ref a4, .ref a5, .ref a6, .ref a7, .ref a8, .ref a9, .ref a10])), (a1, .inl (T 0, 10, .inl af1)), (a2, .inl (T 0, 10, .inl af2)), (a3, .inl (T 0, 10, .inl af3)), (a4, .inl (T 0, 10, .inl af4)), (a5, .inl (T 0, 10, .inl af5)), (a6, .inl (T 0, 10, .inl af6)), (a7, .inl (T 0, 10, .inl af7)), (a8, .inl (T 0, 10, .inl af8)), (a9, .inl (T 0, 10, .inl af9)), (b0, .inr (5, [.int (nI bn), .int bm, .int bl, .int bo, .int bu, .ref b1, .ref b2, .ref b3, .ref b4, .ref b5, .ref b6, .ref b7, .ref b8, .ref b9, .ref b10])), (b1, .inl (T 0, 10, .inl bf1)), (b2, .inl (T 0, 10, .inl bf2)), (b3, .inl (T 0, 10, .inl bf3)), (b4, .inl (T 0, 10, .inl bf4)), (b5, .inl (T 0, 10, .inl bf5)), (b6, .inl (T 0, 10, .inl bf6)), (b7, .inl (T 0, 10, .inl bf7)), (b8, .inl (T 0, 10, .inl bf8)), (b9, .inl (T 0, 10, .inl bf9))]) rfl dX5_takeFrom_37 (fun H locs V => ?_)
  refine lv_iconst (v := (nI 0)) hx hb dX5_takeFrom_40 (by decide +kernel) ?_
  refine lv_istore_n (lv' := [(2, .int (nI 0)), (0, .ref a0), (1, .ref b0)]) hx hb dX5_takeFrom_41 rfl hl (by decide) rfl (fun ls hl => ?_)
  have L_1 : ∀ (fu : Nat) (k : Nat) (g1 : Nat → Int32) (g2 : Nat → Int32) (g3 : Nat → Int32) (g4 : Nat → Int32) (g5 : Nat → Int32) (g6 : Nat → Int32) (g7 : Nat → Int32) (g8 : Nat → Int32) (g9 : Nat → Int32), k ≤ bn → (∀ i, i < k → g1 i = bf1 i) → (∀ i, i < k → g2 i = bf2 i) → (∀ i, i < k → g3 i = bf3 i) → (∀ i, i < k → g4 i = bf4 i) → (∀ i, i < k → g5 i = bf5 i) → (∀ i, i < k → g6 i = bf6 i) → (∀ i, i < k → g7 i = bf7 i) → (∀ i, i < k → g8 i = bf8 i) → (∀ i, i < k → g9 i = bf9 i) → bn - k < fu → ∀ (H : Heap) (locs : List Loc) (ls : Array Slot), gW D T A s [(a0, .inr (5, [.int (nI bn), .int bm, .int bl, .int bo, .int bu, .ref a1, .ref a2, .ref a3, .ref a4, .ref a5, .ref a6, .ref a7, .ref a8, .ref a9, .ref a10])), (a1, .inl (T 0, 10, .inl g1)), (a2, .inl (T 0, 10, .inl g2)), (a3, .inl (T 0, 10, .inl g3)), (a4, .inl (T 0, 10, .inl g4)), (a5, .inl (T 0, 10, .inl g5)), (a6, .inl (T 0, 10, .inl g6)), (a7, .inl (T 0, 10, .inl g7)), (a8, .inl (T 0, 10, .inl g8)), (a9, .inl (T 0, 10, .inl g9)), (b0, .inr (5, [.int (nI bn), .int bm, .int bl, .int bo, .int bu, .ref b1, .ref b2, .ref b3, .ref b4, .ref b5, .ref b6, .ref b7, .ref b8, .ref b9, .ref b10])), (b1, .inl (T 0, 10, .inl bf1)), (b2, .inl (T 0, 10, .inl bf2)), (b3, .inl (T 0, 10, .inl bf3)), (b4, .inl (T 0, 10, .inl bf4)), (b5, .inl (T 0, 10, .inl bf5)), (b6, .inl (T 0, 10, .inl bf6)), (b7, .inl (T 0, 10, .inl bf7)), (b8, .inl (T 0, 10, .inl bf8)), (b9, .inl (T 0, 10, .inl bf9))] H locs → lv_has ls 3 [(2, .int (nI k)), (0, .ref a0), (1, .ref b0)] → W p l e (rmD 0 0 0) s m args below meth c H locs 0 0 (MQ below (gQ D A (q_s_takeFrom T a0 b0 an am al ao au a1 a2 a3 a4 a5 a6 a7 a8 a9 a10 af1 af2 af3 af4 af5 af6 af7 af8 af9 bn bm bl bo bu b1 b2 b3 b4 b5 b6 b7 b8 b9 b10 bf1 bf2 bf3 bf4 bf5 bf6 bf7 bf8 bf9)) args s 0 0 A) (F0 m 42 ls []) := by
    intro fu_42
    induction fu_42 with
    | zero => intro k g1 g2 g3 g4 g5 g6 g7 g8 g9 hk hc1 hc2 hc3 hc4 hc5 hc6 hc7 hc8 hc9 hmu; exact absurd hmu (Nat.not_lt_zero _)
    | succ fu_42 ih_42 =>
      intro k g1 g2 g3 g4 g5 g6 g7 g8 g9 hk hc1 hc2 hc3 hc4 hc5 hc6 hc7 hc8 hc9 hmu_42 H locs ls V hl
      refine lv_iload_n hx hb dX5_takeFrom_42 rfl (lv_at hl 0 rfl) ?_
      refine lv_aload_n hx hb dX5_takeFrom_43 rfl (lv_at hl 1 rfl) ?_
      refine g_get hC V (ci := 5) uwX5 0 rfl rfl 0 (by decide) w_33 rfl rfl dX5_takeFrom_44 ?_
      refine lv_icmp_ge (tgt := 164) hx hb dX5_takeFrom_47 (by decide) (fun c_2 => ?_) (fun c_2 => ?_)
      · skip
        have c_2 := b_le (by omega) (by omega) c_2
        exact g_vret (Qr := (q_s_takeFrom T a0 b0 an am al ao au a1 a2 a3 a4 a5 a6 a7 a8 a9 a10 af1 af2 af3 af4 af5 af6 af7 af8 af9 bn bm bl bo bu b1 b2 b3 b4 b5 b6 b7 b8 b9 b10 bf1 bf2 bf3 bf4 bf5 bf6 bf7 bf8 bf9)) hC V ⟨(Nat.le_of_ble_eq_true rfl), (Nat.le_of_ble_eq_true rfl)⟩ ⟨g1, g2, g3, g4, g5, g6, g7, g8, g9, rfl, rfl, (fun i h => hc1 i (by omega)), (fun i h => hc2 i (by omega)), (fun i h => hc3 i (by omega)), (fun i h => hc4 i (by omega)), (fun i h => hc5 i (by omega)), (fun i h => hc6 i (by omega)), (fun i h => hc7 i (by omega)), (fun i h => hc8 i (by omega)), (fun i h => hc9 i (by omega))⟩ dX5_takeFrom_164
      · skip
        have c_2 := b_nle (by omega) (by omega) c_2
        refine lv_aload_n hx hb dX5_takeFrom_50 rfl (lv_at hl 1 rfl) ?_
        refine g_get hC V (ci := 5) uwX5 0 rfl rfl 5 (by decide) w_51 rfl rfl dX5_takeFrom_51 ?_
        refine lv_iload_n hx hb dX5_takeFrom_54 rfl (lv_at hl 0 rfl) ?_
        refine lv_aload_n hx hb dX5_takeFrom_55 rfl (lv_at hl 2 rfl) ?_
        refine g_get hC V (ci := 5) uwX5 10 rfl rfl 5 (by decide) w_51 rfl rfl dX5_takeFrom_56 ?_
        refine lv_iload_n hx hb dX5_takeFrom_59 rfl (lv_at hl 0 rfl) ?_
        refine g_iald hC V 11 rfl (vp_in_nI (by omega) (by omega)) (v := (bf1 k)) (congrArg _ (nI_clamp (by omega))) dX5_takeFrom_60 ?_
        refine g_iast hC V 1 rfl (vp_in_nI (by omega) (by omega)) (f' := (upd g1 k (bf1 k))) (by rw [nI_clamp (by omega)]) (ws' := [(a0, .inr (5, [.int (nI bn), .int bm, .int bl, .int bo, .int bu, .ref a1, .ref a2, .ref a3, .ref a4, .ref a5, .ref a6, .ref a7, .ref a8, .ref a9, .ref a10])), (a1, .inl (T 0, 10, .inl (upd g1 k (bf1 k)))), (a2, .inl (T 0, 10, .inl g2)), (a3, .inl (T 0, 10, .inl g3)), (a4, .inl (T 0, 10, .inl g4)), (a5, .inl (T 0, 10, .inl g5)), (a6, .inl (T 0, 10, .inl g6)), (a7, .inl (T 0, 10, .inl g7)), (a8, .inl (T 0, 10, .inl g8)), (a9, .inl (T 0, 10, .inl g9)), (b0, .inr (5, [.int (nI bn), .int bm, .int bl, .int bo, .int bu, .ref b1, .ref b2, .ref b3, .ref b4, .ref b5, .ref b6, .ref b7, .ref b8, .ref b9, .ref b10])), (b1, .inl (T 0, 10, .inl bf1)), (b2, .inl (T 0, 10, .inl bf2)), (b3, .inl (T 0, 10, .inl bf3)), (b4, .inl (T 0, 10, .inl bf4)), (b5, .inl (T 0, 10, .inl bf5)), (b6, .inl (T 0, 10, .inl bf6)), (b7, .inl (T 0, 10, .inl bf7)), (b8, .inl (T 0, 10, .inl bf8)), (b9, .inl (T 0, 10, .inl bf9))]) rfl dX5_takeFrom_61 (fun H locs V => ?_)
        refine lv_aload_n hx hb dX5_takeFrom_62 rfl (lv_at hl 1 rfl) ?_
        refine g_get hC V (ci := 5) uwX5 0 rfl rfl 6 (by decide) w_56 rfl rfl dX5_takeFrom_63 ?_
        refine lv_iload_n hx hb dX5_takeFrom_66 rfl (lv_at hl 0 rfl) ?_
        refine lv_aload_n hx hb dX5_takeFrom_67 rfl (lv_at hl 2 rfl) ?_
        refine g_get hC V (ci := 5) uwX5 10 rfl rfl 6 (by decide) w_56 rfl rfl dX5_takeFrom_68 ?_
        refine lv_iload_n hx hb dX5_takeFrom_71 rfl (lv_at hl 0 rfl) ?_
        refine g_iald hC V 12 rfl (vp_in_nI (by omega) (by omega)) (v := (bf2 k)) (congrArg _ (nI_clamp (by omega))) dX5_takeFrom_72 ?_
        refine g_iast hC V 2 rfl (vp_in_nI (by omega) (by omega)) (f' := (upd g2 k (bf2 k))) (by rw [nI_clamp (by omega)]) (ws' := [(a0, .inr (5, [.int (nI bn), .int bm, .int bl, .int bo, .int bu, .ref a1, .ref a2, .ref a3, .ref a4, .ref a5, .ref a6, .ref a7, .ref a8, .ref a9, .ref a10])), (a1, .inl (T 0, 10, .inl (upd g1 k (bf1 k)))), (a2, .inl (T 0, 10, .inl (upd g2 k (bf2 k)))), (a3, .inl (T 0, 10, .inl g3)), (a4, .inl (T 0, 10, .inl g4)), (a5, .inl (T 0, 10, .inl g5)), (a6, .inl (T 0, 10, .inl g6)), (a7, .inl (T 0, 10, .inl g7)), (a8, .inl (T 0, 10, .inl g8)), (a9, .inl (T 0, 10, .inl g9)), (b0, .inr (5, [.int (nI bn), .int bm, .int bl, .int bo, .int bu, .ref b1, .ref b2, .ref b3, .ref b4, .ref b5, .ref b6, .ref b7, .ref b8, .ref b9, .ref b10])), (b1, .inl (T 0, 10, .inl bf1)), (b2, .inl (T 0, 10, .inl bf2)), (b3, .inl (T 0, 10, .inl bf3)), (b4, .inl (T 0, 10, .inl bf4)), (b5, .inl (T 0, 10, .inl bf5)), (b6, .inl (T 0, 10, .inl bf6)), (b7, .inl (T 0, 10, .inl bf7)), (b8, .inl (T 0, 10, .inl bf8)), (b9, .inl (T 0, 10, .inl bf9))]) rfl dX5_takeFrom_73 (fun H locs V => ?_)
        refine lv_aload_n hx hb dX5_takeFrom_74 rfl (lv_at hl 1 rfl) ?_
        refine g_get hC V (ci := 5) uwX5 0 rfl rfl 7 (by decide) w_62 rfl rfl dX5_takeFrom_75 ?_
        refine lv_iload_n hx hb dX5_takeFrom_78 rfl (lv_at hl 0 rfl) ?_
        refine lv_aload_n hx hb dX5_takeFrom_79 rfl (lv_at hl 2 rfl) ?_
        refine g_get hC V (ci := 5) uwX5 10 rfl rfl 7 (by decide) w_62 rfl rfl dX5_takeFrom_80 ?_
        refine lv_iload_n hx hb dX5_takeFrom_83 rfl (lv_at hl 0 rfl) ?_
        refine g_iald hC V 13 rfl (vp_in_nI (by omega) (by omega)) (v := (bf3 k)) (congrArg _ (nI_clamp (by omega))) dX5_takeFrom_84 ?_
        refine g_iast hC V 3 rfl (vp_in_nI (by omega) (by omega)) (f' := (upd g3 k (bf3 k))) (by rw [nI_clamp (by omega)]) (ws' := [(a0, .inr (5, [.int (nI bn), .int bm, .int bl, .int bo, .int bu, .ref a1, .ref a2, .ref a3, .ref a4, .ref a5, .ref a6, .ref a7, .ref a8, .ref a9, .ref a10])), (a1, .inl (T 0, 10, .inl (upd g1 k (bf1 k)))), (a2, .inl (T 0, 10, .inl (upd g2 k (bf2 k)))), (a3, .inl (T 0, 10, .inl (upd g3 k (bf3 k)))), (a4, .inl (T 0, 10, .inl g4)), (a5, .inl (T 0, 10, .inl g5)), (a6, .inl (T 0, 10, .inl g6)), (a7, .inl (T 0, 10, .inl g7)), (a8, .inl (T 0, 10, .inl g8)), (a9, .inl (T 0, 10, .inl g9)), (b0, .inr (5, [.int (nI bn), .int bm, .int bl, .int bo, .int bu, .ref b1, .ref b2, .ref b3, .ref b4, .ref b5, .ref b6, .ref b7, .ref b8, .ref b9, .ref b10])), (b1, .inl (T 0, 10, .inl bf1)), (b2, .inl (T 0, 10, .inl bf2)), (b3, .inl (T 0, 10, .inl bf3)), (b4, .inl (T 0, 10, .inl bf4)), (b5, .inl (T 0, 10, .inl bf5)), (b6, .inl (T 0, 10, .inl bf6)), (b7, .inl (T 0, 10, .inl bf7)), (b8, .inl (T 0, 10, .inl bf8)), (b9, .inl (T 0, 10, .inl bf9))]) rfl dX5_takeFrom_85 (fun H locs V => ?_)
        refine lv_aload_n hx hb dX5_takeFrom_86 rfl (lv_at hl 1 rfl) ?_
        refine g_get hC V (ci := 5) uwX5 0 rfl rfl 8 (by decide) w_67 rfl rfl dX5_takeFrom_87 ?_
        refine lv_iload_n hx hb dX5_takeFrom_90 rfl (lv_at hl 0 rfl) ?_
        refine lv_aload_n hx hb dX5_takeFrom_91 rfl (lv_at hl 2 rfl) ?_
        refine g_get hC V (ci := 5) uwX5 10 rfl rfl 8 (by decide) w_67 rfl rfl dX5_takeFrom_92 ?_
        refine lv_iload_n hx hb dX5_takeFrom_95 rfl (lv_at hl 0 rfl) ?_
        refine g_iald hC V 14 rfl (vp_in_nI (by omega) (by omega)) (v := (bf4 k)) (congrArg _ (nI_clamp (by omega))) dX5_takeFrom_96 ?_
        refine g_iast hC V 4 rfl (vp_in_nI (by omega) (by omega)) (f' := (upd g4 k (bf4 k))) (by rw [nI_clamp (by omega)]) (ws' := [(a0, .inr (5, [.int (nI bn), .int bm, .int bl, .int bo, .int bu, .ref a1, .ref a2, .ref a3, .ref a4, .ref a5, .ref a6, .ref a7, .ref a8, .ref a9, .ref a10])), (a1, .inl (T 0, 10, .inl (upd g1 k (bf1 k)))), (a2, .inl (T 0, 10, .inl (upd g2 k (bf2 k)))), (a3, .inl (T 0, 10, .inl (upd g3 k (bf3 k)))), (a4, .inl (T 0, 10, .inl (upd g4 k (bf4 k)))), (a5, .inl (T 0, 10, .inl g5)), (a6, .inl (T 0, 10, .inl g6)), (a7, .inl (T 0, 10, .inl g7)), (a8, .inl (T 0, 10, .inl g8)), (a9, .inl (T 0, 10, .inl g9)), (b0, .inr (5, [.int (nI bn), .int bm, .int bl, .int bo, .int bu, .ref b1, .ref b2, .ref b3, .ref b4, .ref b5, .ref b6, .ref b7, .ref b8, .ref b9, .ref b10])), (b1, .inl (T 0, 10, .inl bf1)), (b2, .inl (T 0, 10, .inl bf2)), (b3, .inl (T 0, 10, .inl bf3)), (b4, .inl (T 0, 10, .inl bf4)), (b5, .inl (T 0, 10, .inl bf5)), (b6, .inl (T 0, 10, .inl bf6)), (b7, .inl (T 0, 10, .inl bf7)), (b8, .inl (T 0, 10, .inl bf8)), (b9, .inl (T 0, 10, .inl bf9))]) rfl dX5_takeFrom_97 (fun H locs V => ?_)
        refine lv_aload_n hx hb dX5_takeFrom_98 rfl (lv_at hl 1 rfl) ?_
        refine g_get hC V (ci := 5) uwX5 0 rfl rfl 9 (by decide) w_70 rfl rfl dX5_takeFrom_99 ?_
        refine lv_iload_n hx hb dX5_takeFrom_102 rfl (lv_at hl 0 rfl) ?_
        refine lv_aload_n hx hb dX5_takeFrom_103 rfl (lv_at hl 2 rfl) ?_
        refine g_get hC V (ci := 5) uwX5 10 rfl rfl 9 (by decide) w_70 rfl rfl dX5_takeFrom_104 ?_
        refine lv_iload_n hx hb dX5_takeFrom_107 rfl (lv_at hl 0 rfl) ?_
        refine g_iald hC V 15 rfl (vp_in_nI (by omega) (by omega)) (v := (bf5 k)) (congrArg _ (nI_clamp (by omega))) dX5_takeFrom_108 ?_
        refine g_iast hC V 5 rfl (vp_in_nI (by omega) (by omega)) (f' := (upd g5 k (bf5 k))) (by rw [nI_clamp (by omega)]) (ws' := [(a0, .inr (5, [.int (nI bn), .int bm, .int bl, .int bo, .int bu, .ref a1, .ref a2, .ref a3, .ref a4, .ref a5, .ref a6, .ref a7, .ref a8, .ref a9, .ref a10])), (a1, .inl (T 0, 10, .inl (upd g1 k (bf1 k)))), (a2, .inl (T 0, 10, .inl (upd g2 k (bf2 k)))), (a3, .inl (T 0, 10, .inl (upd g3 k (bf3 k)))), (a4, .inl (T 0, 10, .inl (upd g4 k (bf4 k)))), (a5, .inl (T 0, 10, .inl (upd g5 k (bf5 k)))), (a6, .inl (T 0, 10, .inl g6)), (a7, .inl (T 0, 10, .inl g7)), (a8, .inl (T 0, 10, .inl g8)), (a9, .inl (T 0, 10, .inl g9)), (b0, .inr (5, [.int (nI bn), .int bm, .int bl, .int bo, .int bu, .ref b1, .ref b2, .ref b3, .ref b4, .ref b5, .ref b6, .ref b7, .ref b8, .ref b9, .ref b10])), (b1, .inl (T 0, 10, .inl bf1)), (b2, .inl (T 0, 10, .inl bf2)), (b3, .inl (T 0, 10, .inl bf3)), (b4, .inl (T 0, 10, .inl bf4)), (b5, .inl (T 0, 10, .inl bf5)), (b6, .inl (T 0, 10, .inl bf6)), (b7, .inl (T 0, 10, .inl bf7)), (b8, .inl (T 0, 10, .inl bf8)), (b9, .inl (T 0, 10, .inl bf9))]) rfl dX5_takeFrom_109 (fun H locs V => ?_)
        refine lv_aload_n hx hb dX5_takeFrom_110 rfl (lv_at hl 1 rfl) ?_
        refine g_get hC V (ci := 5) uwX5 0 rfl rfl 10 (by decide) w_74 rfl rfl dX5_takeFrom_111 ?_
        refine lv_iload_n hx hb dX5_takeFrom_114 rfl (lv_at hl 0 rfl) ?_
        refine lv_aload_n hx hb dX5_takeFrom_115 rfl (lv_at hl 2 rfl) ?_
        refine g_get hC V (ci := 5) uwX5 10 rfl rfl 10 (by decide) w_74 rfl rfl dX5_takeFrom_116 ?_
        refine lv_iload_n hx hb dX5_takeFrom_119 rfl (lv_at hl 0 rfl) ?_
        refine g_iald hC V 16 rfl (vp_in_nI (by omega) (by omega)) (v := (bf6 k)) (congrArg _ (nI_clamp (by omega))) dX5_takeFrom_120 ?_
        refine g_iast hC V 6 rfl (vp_in_nI (by omega) (by omega)) (f' := (upd g6 k (bf6 k))) (by rw [nI_clamp (by omega)]) (ws' := [(a0, .inr (5, [.int (nI bn), .int bm, .int bl, .int bo, .int bu, .ref a1, .ref a2, .ref a3, .ref a4, .ref a5, .ref a6, .ref a7, .ref a8, .ref a9, .ref a10])), (a1, .inl (T 0, 10, .inl (upd g1 k (bf1 k)))), (a2, .inl (T 0, 10, .inl (upd g2 k (bf2 k)))), (a3, .inl (T 0, 10, .inl (upd g3 k (bf3 k)))), (a4, .inl (T 0, 10, .inl (upd g4 k (bf4 k)))), (a5, .inl (T 0, 10, .inl (upd g5 k (bf5 k)))), (a6, .inl (T 0, 10, .inl (upd g6 k (bf6 k)))), (a7, .inl (T 0, 10, .inl g7)), (a8, .inl (T 0, 10, .inl g8)), (a9, .inl (T 0, 10, .inl g9)), (b0, .inr (5, [.int (nI bn), .int bm, .int bl, .int bo, .int bu, .ref b1, .ref b2, .ref b3, .ref b4, .ref b5, .ref b6, .ref b7, .ref b8, .ref b9, .ref b10])), (b1, .inl (T 0, 10, .inl bf1)), (b2, .inl (T 0, 10, .inl bf2)), (b3, .inl (T 0, 10, .inl bf3)), (b4, .inl (T 0, 10, .inl bf4)), (b5, .inl (T 0, 10, .inl bf5)), (b6, .inl (T 0, 10, .inl bf6)), (b7, .inl (T 0, 10, .inl bf7)), (b8, .inl (T 0, 10, .inl bf8)), (b9, .inl (T 0, 10, .inl bf9))]) rfl dX5_takeFrom_121 (fun H locs V => ?_)
        refine lv_aload_n hx hb dX5_takeFrom_122 rfl (lv_at hl 1 rfl) ?_
        refine g_get hC V (ci := 5) uwX5 0 rfl rfl 11 (by decide) w_77 rfl rfl dX5_takeFrom_123 ?_
        refine lv_iload_n hx hb dX5_takeFrom_126 rfl (lv_at hl 0 rfl) ?_
        refine lv_aload_n hx hb dX5_takeFrom_127 rfl (lv_at hl 2 rfl) ?_
        refine g_get hC V (ci := 5) uwX5 10 rfl rfl 11 (by decide) w_77 rfl rfl dX5_takeFrom_128 ?_
        refine lv_iload_n hx hb dX5_takeFrom_131 rfl (lv_at hl 0 rfl) ?_
        refine g_iald hC V 17 rfl (vp_in_nI (by omega) (by omega)) (v := (bf7 k)) (congrArg _ (nI_clamp (by omega))) dX5_takeFrom_132 ?_
        refine g_iast hC V 7 rfl (vp_in_nI (by omega) (by omega)) (f' := (upd g7 k (bf7 k))) (by rw [nI_clamp (by omega)]) (ws' := [(a0, .inr (5, [.int (nI bn), .int bm, .int bl, .int bo, .int bu, .ref a1, .ref a2, .ref a3, .ref a4, .ref a5, .ref a6, .ref a7, .ref a8, .ref a9, .ref a10])), (a1, .inl (T 0, 10, .inl (upd g1 k (bf1 k)))), (a2, .inl (T 0, 10, .inl (upd g2 k (bf2 k)))), (a3, .inl (T 0, 10, .inl (upd g3 k (bf3 k)))), (a4, .inl (T 0, 10, .inl (upd g4 k (bf4 k)))), (a5, .inl (T 0, 10, .inl (upd g5 k (bf5 k)))), (a6, .inl (T 0, 10, .inl (upd g6 k (bf6 k)))), (a7, .inl (T 0, 10, .inl (upd g7 k (bf7 k)))), (a8, .inl (T 0, 10, .inl g8)), (a9, .inl (T 0, 10, .inl g9)), (b0, .inr (5, [.int (nI bn), .int bm, .int bl, .int bo, .int bu, .ref b1, .ref b2, .ref b3, .ref b4, .ref b5, .ref b6, .ref b7, .ref b8, .ref b9, .ref b10])), (b1, .inl (T 0, 10, .inl bf1)), (b2, .inl (T 0, 10, .inl bf2)), (b3, .inl (T 0, 10, .inl bf3)), (b4, .inl (T 0, 10, .inl bf4)), (b5, .inl (T 0, 10, .inl bf5)), (b6, .inl (T 0, 10, .inl bf6)), (b7, .inl (T 0, 10, .inl bf7)), (b8, .inl (T 0, 10, .inl bf8)), (b9, .inl (T 0, 10, .inl bf9))]) rfl dX5_takeFrom_133 (fun H locs V => ?_)
        refine lv_aload_n hx hb dX5_takeFrom_134 rfl (lv_at hl 1 rfl) ?_
        refine g_get hC V (ci := 5) uwX5 0 rfl rfl 12 (by decide) w_80 rfl rfl dX5_takeFrom_135 ?_
        refine lv_iload_n hx hb dX5_takeFrom_138 rfl (lv_at hl 0 rfl) ?_
        refine lv_aload_n hx hb dX5_takeFrom_139 rfl (lv_at hl 2 rfl) ?_
        refine g_get hC V (ci := 5) uwX5 10 rfl rfl 12 (by decide) w_80 rfl rfl dX5_takeFrom_140 ?_
        refine lv_iload_n hx hb dX5_takeFrom_143 rfl (lv_at hl 0 rfl) ?_
        refine g_iald hC V 18 rfl (vp_in_nI (by omega) (by omega)) (v := (bf8 k)) (congrArg _ (nI_clamp (by omega))) dX5_takeFrom_144 ?_
        refine g_iast hC V 8 rfl (vp_in_nI (by omega) (by omega)) (f' := (upd g8 k (bf8 k))) (by rw [nI_clamp (by omega)]) (ws' := [(a0, .inr (5, [.int (nI bn), .int bm, .int bl, .int bo, .int bu, .ref a1, .ref a2, .ref a3, .ref a4, .ref a5, .ref a6, .ref a7, .ref a8, .ref a9, .ref a10])), (a1, .inl (T 0, 10, .inl (upd g1 k (bf1 k)))), (a2, .inl (T 0, 10, .inl (upd g2 k (bf2 k)))), (a3, .inl (T 0, 10, .inl (upd g3 k (bf3 k)))), (a4, .inl (T 0, 10, .inl (upd g4 k (bf4 k)))), (a5, .inl (T 0, 10, .inl (upd g5 k (bf5 k)))), (a6, .inl (T 0, 10, .inl (upd g6 k (bf6 k)))), (a7, .inl (T 0, 10, .inl (upd g7 k (bf7 k)))), (a8, .inl (T 0, 10, .inl (upd g8 k (bf8 k)))), (a9, .inl (T 0, 10, .inl g9)), (b0, .inr (5, [.int (nI bn), .int bm, .int bl, .int bo, .int bu, .ref b1, .ref b2, .ref b3, .ref b4, .ref b5, .ref b6, .ref b7, .ref b8, .ref b9, .ref b10])), (b1, .inl (T 0, 10, .inl bf1)), (b2, .inl (T 0, 10, .inl bf2)), (b3, .inl (T 0, 10, .inl bf3)), (b4, .inl (T 0, 10, .inl bf4)), (b5, .inl (T 0, 10, .inl bf5)), (b6, .inl (T 0, 10, .inl bf6)), (b7, .inl (T 0, 10, .inl bf7)), (b8, .inl (T 0, 10, .inl bf8)), (b9, .inl (T 0, 10, .inl bf9))]) rfl dX5_takeFrom_145 (fun H locs V => ?_)
        refine lv_aload_n hx hb dX5_takeFrom_146 rfl (lv_at hl 1 rfl) ?_
        refine g_get hC V (ci := 5) uwX5 0 rfl rfl 13 (by decide) w_82 rfl rfl dX5_takeFrom_147 ?_
        refine lv_iload_n hx hb dX5_takeFrom_150 rfl (lv_at hl 0 rfl) ?_
        refine lv_aload_n hx hb dX5_takeFrom_151 rfl (lv_at hl 2 rfl) ?_
        refine g_get hC V (ci := 5) uwX5 10 rfl rfl 13 (by decide) w_82 rfl rfl dX5_takeFrom_152 ?_
        refine lv_iload_n hx hb dX5_takeFrom_155 rfl (lv_at hl 0 rfl) ?_
        refine g_iald hC V 19 rfl (vp_in_nI (by omega) (by omega)) (v := (bf9 k)) (congrArg _ (nI_clamp (by omega))) dX5_takeFrom_156 ?_
        refine g_iast hC V 9 rfl (vp_in_nI (by omega) (by omega)) (f' := (upd g9 k (bf9 k))) (by rw [nI_clamp (by omega)]) (ws' := [(a0, .inr (5, [.int (nI bn), .int bm, .int bl, .int bo, .int bu, .ref a1, .ref a2, .ref a3, .ref a4, .ref a5, .ref a6, .ref a7, .ref a8, .ref a9, .ref a10])), (a1, .inl (T 0, 10, .inl (upd g1 k (bf1 k)))), (a2, .inl (T 0, 10, .inl (upd g2 k (bf2 k)))), (a3, .inl (T 0, 10, .inl (upd g3 k (bf3 k)))), (a4, .inl (T 0, 10, .inl (upd g4 k (bf4 k)))), (a5, .inl (T 0, 10, .inl (upd g5 k (bf5 k)))), (a6, .inl (T 0, 10, .inl (upd g6 k (bf6 k)))), (a7, .inl (T 0, 10, .inl (upd g7 k (bf7 k)))), (a8, .inl (T 0, 10, .inl (upd g8 k (bf8 k)))), (a9, .inl (T 0, 10, .inl (upd g9 k (bf9 k)))), (b0, .inr (5, [.int (nI bn), .int bm, .int bl, .int bo, .int bu, .ref b1, .ref b2, .ref b3, .ref b4, .ref b5, .ref b6, .ref b7, .ref b8, .ref b9, .ref b10])), (b1, .inl (T 0, 10, .inl bf1)), (b2, .inl (T 0, 10, .inl bf2)), (b3, .inl (T 0, 10, .inl bf3)), (b4, .inl (T 0, 10, .inl bf4)), (b5, .inl (T 0, 10, .inl bf5)), (b6, .inl (T 0, 10, .inl bf6)), (b7, .inl (T 0, 10, .inl bf7)), (b8, .inl (T 0, 10, .inl bf8)), (b9, .inl (T 0, 10, .inl bf9))]) rfl dX5_takeFrom_157 (fun H locs V => ?_)
        refine lv_iinc (v := (nI (k + 1))) (lv' := [(2, .int (nI (k + 1))), (0, .ref a0), (1, .ref b0)]) hx hb dX5_takeFrom_158 hl (k := 0) rfl (nI_1 _) (by decide) rfl (fun ls hl => ?_)
        refine lv_goto (tgt := 42) hx hb dX5_takeFrom_161 (by decide) ?_
        exact ih_42 (k + 1) (upd g1 k (bf1 k)) (upd g2 k (bf2 k)) (upd g3 k (bf3 k)) (upd g4 k (bf4 k)) (upd g5 k (bf5 k)) (upd g6 k (bf6 k)) (upd g7 k (bf7 k)) (upd g8 k (bf8 k)) (upd g9 k (bf9 k)) (by omega) (up_one (p := fun i x => x = bf1 i) hc1 rfl) (up_one (p := fun i x => x = bf2 i) hc2 rfl) (up_one (p := fun i x => x = bf3 i) hc3 rfl) (up_one (p := fun i x => x = bf4 i) hc4 rfl) (up_one (p := fun i x => x = bf5 i) hc5 rfl) (up_one (p := fun i x => x = bf6 i) hc6 rfl) (up_one (p := fun i x => x = bf7 i) hc7 rfl) (up_one (p := fun i x => x = bf8 i) hc8 rfl) (up_one (p := fun i x => x = bf9 i) hc9 rfl) (by omega) _ _ _ V (lv_sub hl [0, 1, 2] rfl)
  exact L_1 _ 0 af1 af2 af3 af4 af5 af6 af7 af8 af9 (by omega) (fun i h => absurd h (Nat.not_lt_zero _)) (fun i h => absurd h (Nat.not_lt_zero _)) (fun i h => absurd h (Nat.not_lt_zero _)) (fun i h => absurd h (Nat.not_lt_zero _)) (fun i h => absurd h (Nat.not_lt_zero _)) (fun i h => absurd h (Nat.not_lt_zero _)) (fun i h => absurd h (Nat.not_lt_zero _)) (fun i h => absurd h (Nat.not_lt_zero _)) (fun i h => absurd h (Nat.not_lt_zero _)) (Nat.lt_succ_self _) _ _ _ V (lv_sub hl [0, 1, 2] rfl)

def q_s_clear (T : Nat → ClassId) (a0 : Nat) (an : Int32) (am : Int32) (al : Int32) (ao : Int32) (au : Int32) (a1 : Nat) (a2 : Nat) (a3 : Nat) (a4 : Nat) (a5 : Nat) (a6 : Nat) (a7 : Nat) (a8 : Nat) (a9 : Nat) (a10 : Nat) : Option Value → va_W → Prop := fun rr ww => (rr = none ∧ ww = [(a0, .inr (5, [.int (nI 0), .int (nI 0), .int (nI 0), .int (nI 20), .int (nI 0), .ref a1, .ref a2, .ref a3, .ref a4, .ref a5, .ref a6, .ref a7, .ref a8, .ref a9, .ref a10]))])
set_option maxHeartbeats 4000000 in
set_option maxRecDepth 100000 in
theorem s_clear (l : Launch) (D : va_G) (T : Nat → ClassId) (a0 : Nat) (an : Int32) (am : Int32) (al : Int32) (ao : Int32) (au : Int32) (a1 : Nat) (a2 : Nat) (a3 : Nat) (a4 : Nat) (a5 : Nat) (a6 : Nat) (a7 : Nat) (a8 : Nat) (a9 : Nat) (a10 : Nat) : Ct l yX5_clear cX5_clear 1 none 0 0 0 D T [.ref a0] [(a0, .inr (5, [.int an, .int am, .int al, .int ao, .int au, .ref a1, .ref a2, .ref a3, .ref a4, .ref a5, .ref a6, .ref a7, .ref a8, .ref a9, .ref a10]))] (q_s_clear T a0 an am al ao au a1 a2 a3 a4 a5 a6 a7 a8 a9 a10) := by
  refine Ct.of (cc := cX5_clear) (maxL := 1) (ret := none) (by decide) (Nat.le_of_ble_eq_true rfl) ?_
  intro p e s m args below meth c A ls hC hnm V hl
  obtain ⟨hx, hb, hr, hml, hown, hts, hlocks⟩ := id hC
  generalize hH : s.heap = H at V ⊢
  clear hH
  have hl : lv_has ls 1 [(0, .ref a0)] := hl
  generalize hlo : ([] : List Loc) = locs at V ⊢
  clear hlo
  refine lv_aload_n hx hb dX5_clear_0 rfl (lv_at hl 0 rfl) ?_
  refine lv_iconst (v := (nI 0)) hx hb dX5_clear_1 (by decide +kernel) ?_
  refine g_put hC V (ci := 5) uwX5 tyX5 tyX5_ok nmX5 0 rfl rfl 0 (by decide) w_33 rfl rfl rfl rfl (Nat.le_of_ble_eq_true rfl) (ws' := [(a0, .inr (5, [.int (nI 0), .int am, .int al, .int ao, .int au, .ref a1, .ref a2, .ref a3, .ref a4, .ref a5, .ref a6, .ref a7, .ref a8, .ref a9, .ref a10]))]) rfl dX5_clear_2 (fun H locs V => ?_)
  refine lv_aload_n hx hb dX5_clear_5 rfl (lv_at hl 0 rfl) ?_
  refine lv_iconst (v := (nI 0)) hx hb dX5_clear_6 (by decide +kernel) ?_
  refine g_put hC V (ci := 5) uwX5 tyX5 tyX5_ok nmX5 0 rfl rfl 1 (by decide) w_39 rfl rfl rfl rfl (Nat.le_of_ble_eq_true rfl) (ws' := [(a0, .inr (5, [.int (nI 0), .int (nI 0), .int al, .int ao, .int au, .ref a1, .ref a2, .ref a3, .ref a4, .ref a5, .ref a6, .ref a7, .ref a8, .ref a9, .ref a10]))]) rfl dX5_clear_7 (fun H locs V => ?_)
  refine lv_aload_n hx hb dX5_clear_10 rfl (lv_at hl 0 rfl) ?_
  refine lv_iconst (v := (nI 0)) hx hb dX5_clear_11 (by decide +kernel) ?_
  refine g_put hC V (ci := 5) uwX5 tyX5 tyX5_ok nmX5 0 rfl rfl 2 (by decide) w_42 rfl rfl rfl rfl (Nat.le_of_ble_eq_true rfl) (ws' := [(a0, .inr (5, [.int (nI 0), .int (nI 0), .int (nI 0), .int ao, .int au, .ref a1, .ref a2, .ref a3, .ref a4, .ref a5, .ref a6, .ref a7, .ref a8, .ref a9, .ref a10]))]) rfl dX5_clear_12 (fun H locs V => ?_)
  refine lv_aload_n hx hb dX5_clear_15 rfl (lv_at hl 0 rfl) ?_
  refine lv_bipush (v := (nI 20)) hx hb dX5_clear_16 (by decide +kernel) ?_
  refine g_put hC V (ci := 5) uwX5 tyX5 tyX5_ok nmX5 0 rfl rfl 3 (by decide) w_45 rfl rfl rfl rfl (Nat.le_of_ble_eq_true rfl) (ws' := [(a0, .inr (5, [.int (nI 0), .int (nI 0), .int (nI 0), .int (nI 20), .int au, .ref a1, .ref a2, .ref a3, .ref a4, .ref a5, .ref a6, .ref a7, .ref a8, .ref a9, .ref a10]))]) rfl dX5_clear_18 (fun H locs V => ?_)
  refine lv_aload_n hx hb dX5_clear_21 rfl (lv_at hl 0 rfl) ?_
  refine lv_iconst (v := (nI 0)) hx hb dX5_clear_22 (by decide +kernel) ?_
  refine g_put hC V (ci := 5) uwX5 tyX5 tyX5_ok nmX5 0 rfl rfl 4 (by decide) w_49 rfl rfl rfl rfl (Nat.le_of_ble_eq_true rfl) (ws' := [(a0, .inr (5, [.int (nI 0), .int (nI 0), .int (nI 0), .int (nI 20), .int (nI 0), .ref a1, .ref a2, .ref a3, .ref a4, .ref a5, .ref a6, .ref a7, .ref a8, .ref a9, .ref a10]))]) rfl dX5_clear_23 (fun H locs V => ?_)
  exact g_vret (Qr := (q_s_clear T a0 an am al ao au a1 a2 a3 a4 a5 a6 a7 a8 a9 a10)) hC V ⟨(Nat.le_of_ble_eq_true rfl), (Nat.le_of_ble_eq_true rfl)⟩ ⟨rfl, rfl⟩ dX5_clear_26

def q_s_beginPiece (T : Nat → ClassId) (a0 : Nat) (j : Nat) (v : Int32) (an : Nat) (am : Int32) (al : Int32) (ao : Int32) (au : Int32) (a1 : Nat) (a2 : Nat) (a3 : Nat) (a4 : Nat) (a5 : Nat) (a6 : Nat) (a7 : Nat) (a8 : Nat) (a9 : Nat) (a10 : Nat) (af6 : Nat → Int32) (af7 : Nat → Int32) (af8 : Nat → Int32) : Option Value → va_W → Prop := fun rr ww => (∃ (g6 : Nat → Int32) (g7 : Nat → Int32) (g8 : Nat → Int32), rr = none ∧ ww = [(a0, .inr (5, [.int (nI an), .int am, .int al, .int ao, .int au, .ref a1, .ref a2, .ref a3, .ref a4, .ref a5, .ref a6, .ref a7, .ref a8, .ref a9, .ref a10])), (a6, .inl (T 0, 10, .inl g6)), (a7, .inl (T 0, 10, .inl g7)), (a8, .inl (T 0, 10, .inl g8))] ∧ g6 = upd af6 j v ∧ g7 = upd af7 j (nI 0) ∧ g8 = upd af8 j (nI 0))
set_option maxHeartbeats 4000000 in
set_option maxRecDepth 100000 in
theorem s_beginPiece (l : Launch) (D : va_G) (T : Nat → ClassId) (a0 : Nat) (j : Nat) (v : Int32) (an : Nat) (am : Int32) (al : Int32) (ao : Int32) (au : Int32) (a1 : Nat) (a2 : Nat) (a3 : Nat) (a4 : Nat) (a5 : Nat) (a6 : Nat) (a7 : Nat) (a8 : Nat) (a9 : Nat) (a10 : Nat) (af6 : Nat → Int32) (af7 : Nat → Int32) (af8 : Nat → Int32) (h_j : j < 10) : Ct l yX5_beginPiece cX5_beginPiece 3 none 0 0 0 D T [.ref a0, .int (nI j), .int v] [(a0, .inr (5, [.int (nI an), .int am, .int al, .int ao, .int au, .ref a1, .ref a2, .ref a3, .ref a4, .ref a5, .ref a6, .ref a7, .ref a8, .ref a9, .ref a10])), (a6, .inl (T 0, 10, .inl af6)), (a7, .inl (T 0, 10, .inl af7)), (a8, .inl (T 0, 10, .inl af8))] (q_s_beginPiece T a0 j v an am al ao au a1 a2 a3 a4 a5 a6 a7 a8 a9 a10 af6 af7 af8) := by
  refine Ct.of (cc := cX5_beginPiece) (maxL := 3) (ret := none) (by decide) (Nat.le_of_ble_eq_true rfl) ?_
  intro p e s m args below meth c A ls hC hnm V hl
  obtain ⟨hx, hb, hr, hml, hown, hts, hlocks⟩ := id hC
  generalize hH : s.heap = H at V ⊢
  clear hH
  have hl : lv_has ls 3 [(0, .ref a0), (1, .int (nI j)), (2, .int v)] := hl
  generalize hlo : ([] : List Loc) = locs at V ⊢
  clear hlo
  refine lv_aload_n hx hb dX5_beginPiece_0 rfl (lv_at hl 0 rfl) ?_
  refine g_get hC V (ci := 5) uwX5 0 rfl rfl 10 (by decide) w_74 rfl rfl dX5_beginPiece_1 ?_
  refine lv_iload_n hx hb dX5_beginPiece_4 rfl (lv_at hl 1 rfl) ?_
  refine lv_iload_n hx hb dX5_beginPiece_5 rfl (lv_at hl 2 rfl) ?_
  refine g_iast hC V 1 rfl (vp_in_nI (by omega) (by omega)) (f' := (upd af6 j v)) (by rw [nI_clamp (by omega)]) (ws' := [(a0, .inr (5, [.int (nI an), .int am, .int al, .int ao, .int au, .ref a1, .ref a2, .ref a3, .ref a4, .ref a5, .ref a6, .ref a7, .ref a8, .ref a9, .ref a10])), (a6, .inl (T 0, 10, .inl (upd af6 j v))), (a7, .inl (T 0, 10, .inl af7)), (a8, .inl (T 0, 10, .inl af8))]) rfl dX5_beginPiece_6 (fun H locs V => ?_)
  refine lv_aload_n hx hb dX5_beginPiece_7 rfl (lv_at hl 0 rfl) ?_
  refine g_get hC V (ci := 5) uwX5 0 rfl rfl 11 (by decide) w_77 rfl rfl dX5_beginPiece_8 ?_
  refine lv_iload_n hx hb dX5_beginPiece_11 rfl (lv_at hl 1 rfl) ?_
  refine lv_iconst (v := (nI 0)) hx hb dX5_beginPiece_12 (by decide +kernel) ?_
  refine g_iast hC V 2 rfl (vp_in_nI (by omega) (by omega)) (f' := (upd af7 j (nI 0))) (by rw [nI_clamp (by omega)]) (ws' := [(a0, .inr (5, [.int (nI an), .int am, .int al, .int ao, .int au, .ref a1, .ref a2, .ref a3, .ref a4, .ref a5, .ref a6, .ref a7, .ref a8, .ref a9, .ref a10])), (a6, .inl (T 0, 10, .inl (upd af6 j v))), (a7, .inl (T 0, 10, .inl (upd af7 j (nI 0)))), (a8, .inl (T 0, 10, .inl af8))]) rfl dX5_beginPiece_13 (fun H locs V => ?_)
  refine lv_aload_n hx hb dX5_beginPiece_14 rfl (lv_at hl 0 rfl) ?_
  refine g_get hC V (ci := 5) uwX5 0 rfl rfl 12 (by decide) w_80 rfl rfl dX5_beginPiece_15 ?_
  refine lv_iload_n hx hb dX5_beginPiece_18 rfl (lv_at hl 1 rfl) ?_
  refine lv_iconst (v := (nI 0)) hx hb dX5_beginPiece_19 (by decide +kernel) ?_
  refine g_iast hC V 3 rfl (vp_in_nI (by omega) (by omega)) (f' := (upd af8 j (nI 0))) (by rw [nI_clamp (by omega)]) (ws' := [(a0, .inr (5, [.int (nI an), .int am, .int al, .int ao, .int au, .ref a1, .ref a2, .ref a3, .ref a4, .ref a5, .ref a6, .ref a7, .ref a8, .ref a9, .ref a10])), (a6, .inl (T 0, 10, .inl (upd af6 j v))), (a7, .inl (T 0, 10, .inl (upd af7 j (nI 0)))), (a8, .inl (T 0, 10, .inl (upd af8 j (nI 0))))]) rfl dX5_beginPiece_20 (fun H locs V => ?_)
  exact g_vret (Qr := (q_s_beginPiece T a0 j v an am al ao au a1 a2 a3 a4 a5 a6 a7 a8 a9 a10 af6 af7 af8)) hC V ⟨(Nat.le_of_ble_eq_true rfl), (Nat.le_of_ble_eq_true rfl)⟩ ⟨(upd af6 j v), (upd af7 j (nI 0)), (upd af8 j (nI 0)), rfl, rfl, rfl, rfl, rfl⟩ dX5_beginPiece_21

def q_s_isDone (T : Nat → ClassId) (a0 : Nat) (j : Nat) (an : Nat) (am : Int32) (al : Int32) (ao : Int32) (au : Int32) (a1 : Nat) (a2 : Nat) (a3 : Nat) (a4 : Nat) (a5 : Nat) (a6 : Nat) (a7 : Nat) (a8 : Nat) (a9 : Nat) (a10 : Nat) (af6 : Nat → Int32) (af7 : Nat → Int32) : Option Value → va_W → Prop := fun rr ww => (rr = some (.int (nI 1)) ∧ ww = [(a0, .inr (5, [.int (nI an), .int am, .int al, .int ao, .int au, .ref a1, .ref a2, .ref a3, .ref a4, .ref a5, .ref a6, .ref a7, .ref a8, .ref a9, .ref a10])), (a6, .inl (T 0, 10, .inl af6)), (a7, .inl (T 0, 10, .inl af7))] ∧ ¬ af7 j < af6 j) ∨ (rr = some (.int (nI 0)) ∧ ww = [(a0, .inr (5, [.int (nI an), .int am, .int al, .int ao, .int au, .ref a1, .ref a2, .ref a3, .ref a4, .ref a5, .ref a6, .ref a7, .ref a8, .ref a9, .ref a10])), (a6, .inl (T 0, 10, .inl af6)), (a7, .inl (T 0, 10, .inl af7))] ∧ af7 j < af6 j)
set_option maxHeartbeats 4000000 in
set_option maxRecDepth 100000 in
theorem s_isDone (l : Launch) (D : va_G) (T : Nat → ClassId) (a0 : Nat) (j : Nat) (an : Nat) (am : Int32) (al : Int32) (ao : Int32) (au : Int32) (a1 : Nat) (a2 : Nat) (a3 : Nat) (a4 : Nat) (a5 : Nat) (a6 : Nat) (a7 : Nat) (a8 : Nat) (a9 : Nat) (a10 : Nat) (af6 : Nat → Int32) (af7 : Nat → Int32) (h_j : j < 10) : Ct l yX5_isDone cX5_isDone 2 (some .boolean) 0 0 0 D T [.ref a0, .int (nI j)] [(a0, .inr (5, [.int (nI an), .int am, .int al, .int ao, .int au, .ref a1, .ref a2, .ref a3, .ref a4, .ref a5, .ref a6, .ref a7, .ref a8, .ref a9, .ref a10])), (a6, .inl (T 0, 10, .inl af6)), (a7, .inl (T 0, 10, .inl af7))] (q_s_isDone T a0 j an am al ao au a1 a2 a3 a4 a5 a6 a7 a8 a9 a10 af6 af7) := by
  refine Ct.of (cc := cX5_isDone) (maxL := 2) (ret := (some .boolean)) (by decide) (Nat.le_of_ble_eq_true rfl) ?_
  intro p e s m args below meth c A ls hC hnm V hl
  obtain ⟨hx, hb, hr, hml, hown, hts, hlocks⟩ := id hC
  generalize hH : s.heap = H at V ⊢
  clear hH
  have hl : lv_has ls 2 [(0, .ref a0), (1, .int (nI j))] := hl
  generalize hlo : ([] : List Loc) = locs at V ⊢
  clear hlo
  refine lv_aload_n hx hb dX5_isDone_0 rfl (lv_at hl 0 rfl) ?_
  refine g_get hC V (ci := 5) uwX5 0 rfl rfl 11 (by decide) w_77 rfl rfl dX5_isDone_1 ?_
  refine lv_iload_n hx hb dX5_isDone_4 rfl (lv_at hl 1 rfl) ?_
  refine g_iald hC V 2 rfl (vp_in_nI (by omega) (by omega)) (v := (af7 j)) (congrArg _ (nI_clamp (by omega))) dX5_isDone_5 ?_
  refine lv_aload_n hx hb dX5_isDone_6 rfl (lv_at hl 0 rfl) ?_
  refine g_get hC V (ci := 5) uwX5 0 rfl rfl 10 (by decide) w_74 rfl rfl dX5_isDone_7 ?_
  refine lv_iload_n hx hb dX5_isDone_10 rfl (lv_at hl 1 rfl) ?_
  refine g_iald hC V 1 rfl (vp_in_nI (by omega) (by omega)) (v := (af6 j)) (congrArg _ (nI_clamp (by omega))) dX5_isDone_11 ?_
  refine lv_icmp_lt (tgt := 19) hx hb dX5_isDone_12 (by decide) (fun c_1 => ?_) (fun c_1 => ?_)
  · skip
    refine lv_iconst (v := (nI 0)) hx hb dX5_isDone_19 (by decide +kernel) ?_
    exact g_zret (Qr := (q_s_isDone T a0 j an am al ao au a1 a2 a3 a4 a5 a6 a7 a8 a9 a10 af6 af7)) hC V ⟨(Nat.le_of_ble_eq_true rfl), (Nat.le_of_ble_eq_true rfl)⟩ (by first | decide +kernel | exact rfl) (.inr ⟨rfl, rfl, (by assumption)⟩) dX5_isDone_20
  · skip
    refine lv_iconst (v := (nI 1)) hx hb dX5_isDone_15 (by decide +kernel) ?_
    refine lv_goto (tgt := 20) hx hb dX5_isDone_16 (by decide) ?_
    exact g_zret (Qr := (q_s_isDone T a0 j an am al ao au a1 a2 a3 a4 a5 a6 a7 a8 a9 a10 af6 af7)) hC V ⟨(Nat.le_of_ble_eq_true rfl), (Nat.le_of_ble_eq_true rfl)⟩ (by first | decide +kernel | exact rfl) (.inl ⟨rfl, rfl, (by assumption)⟩) dX5_isDone_20

def q_s_isWorkableAt (T : Nat → ClassId) (a0 : Nat) (j : Nat) (h : Int32) (an : Nat) (am : Int32) (al : Int32) (ao : Int32) (au : Int32) (a1 : Nat) (a2 : Nat) (a3 : Nat) (a4 : Nat) (a5 : Nat) (a6 : Nat) (a7 : Nat) (a8 : Nat) (a9 : Nat) (a10 : Nat) (af4 : Nat → Int32) (af5 : Nat → Int32) : Option Value → va_W → Prop := fun rr ww => (rr = some (.int (nI 1)) ∧ ww = [(a0, .inr (5, [.int (nI an), .int am, .int al, .int ao, .int au, .ref a1, .ref a2, .ref a3, .ref a4, .ref a5, .ref a6, .ref a7, .ref a8, .ref a9, .ref a10])), (a4, .inl (T 0, 10, .inl af4)), (a5, .inl (T 0, 10, .inl af5))] ∧ ¬ h < af4 j ∧ ¬ af5 j < h) ∨ (rr = some (.int (nI 0)) ∧ ww = [(a0, .inr (5, [.int (nI an), .int am, .int al, .int ao, .int au, .ref a1, .ref a2, .ref a3, .ref a4, .ref a5, .ref a6, .ref a7, .ref a8, .ref a9, .ref a10])), (a4, .inl (T 0, 10, .inl af4)), (a5, .inl (T 0, 10, .inl af5))] ∧ (h < af4 j ∨ af5 j < h))
set_option maxHeartbeats 4000000 in
set_option maxRecDepth 100000 in
theorem s_isWorkableAt (l : Launch) (D : va_G) (T : Nat → ClassId) (a0 : Nat) (j : Nat) (h : Int32) (an : Nat) (am : Int32) (al : Int32) (ao : Int32) (au : Int32) (a1 : Nat) (a2 : Nat) (a3 : Nat) (a4 : Nat) (a5 : Nat) (a6 : Nat) (a7 : Nat) (a8 : Nat) (a9 : Nat) (a10 : Nat) (af4 : Nat → Int32) (af5 : Nat → Int32) (h_j : j < 10) : Ct l yX5_isWorkableAt cX5_isWorkableAt 3 (some .boolean) 0 0 0 D T [.ref a0, .int (nI j), .int h] [(a0, .inr (5, [.int (nI an), .int am, .int al, .int ao, .int au, .ref a1, .ref a2, .ref a3, .ref a4, .ref a5, .ref a6, .ref a7, .ref a8, .ref a9, .ref a10])), (a4, .inl (T 0, 10, .inl af4)), (a5, .inl (T 0, 10, .inl af5))] (q_s_isWorkableAt T a0 j h an am al ao au a1 a2 a3 a4 a5 a6 a7 a8 a9 a10 af4 af5) := by
  refine Ct.of (cc := cX5_isWorkableAt) (maxL := 3) (ret := (some .boolean)) (by decide) (Nat.le_of_ble_eq_true rfl) ?_
  intro p e s m args below meth c A ls hC hnm V hl
  obtain ⟨hx, hb, hr, hml, hown, hts, hlocks⟩ := id hC
  generalize hH : s.heap = H at V ⊢
  clear hH
  have hl : lv_has ls 3 [(0, .ref a0), (1, .int (nI j)), (2, .int h)] := hl
  generalize hlo : ([] : List Loc) = locs at V ⊢
  clear hlo
  refine lv_iload_n hx hb dX5_isWorkableAt_0 rfl (lv_at hl 2 rfl) ?_
  refine lv_aload_n hx hb dX5_isWorkableAt_1 rfl (lv_at hl 0 rfl) ?_
  refine g_get hC V (ci := 5) uwX5 0 rfl rfl 8 (by decide) w_67 rfl rfl dX5_isWorkableAt_2 ?_
  refine lv_iload_n hx hb dX5_isWorkableAt_5 rfl (lv_at hl 1 rfl) ?_
  refine g_iald hC V 1 rfl (vp_in_nI (by omega) (by omega)) (v := (af4 j)) (congrArg _ (nI_clamp (by omega))) dX5_isWorkableAt_6 ?_
  refine lv_icmp_lt (tgt := 24) hx hb dX5_isWorkableAt_7 (by decide) (fun c_1 => ?_) (fun c_1 => ?_)
  · skip
    refine lv_iconst (v := (nI 0)) hx hb dX5_isWorkableAt_24 (by decide +kernel) ?_
    exact g_zret (Qr := (q_s_isWorkableAt T a0 j h an am al ao au a1 a2 a3 a4 a5 a6 a7 a8 a9 a10 af4 af5)) hC V ⟨(Nat.le_of_ble_eq_true rfl), (Nat.le_of_ble_eq_true rfl)⟩ (by first | decide +kernel | exact rfl) (.inr ⟨rfl, rfl, (by first | exact Or.inl (by assumption) | exact Or.inr (by assumption))⟩) dX5_isWorkableAt_25
  · skip
    refine lv_iload_n hx hb dX5_isWorkableAt_10 rfl (lv_at hl 2 rfl) ?_
    refine lv_aload_n hx hb dX5_isWorkableAt_11 rfl (lv_at hl 0 rfl) ?_
    refine g_get hC V (ci := 5) uwX5 0 rfl rfl 9 (by decide) w_70 rfl rfl dX5_isWorkableAt_12 ?_
    refine lv_iload_n hx hb dX5_isWorkableAt_15 rfl (lv_at hl 1 rfl) ?_
    refine g_iald hC V 2 rfl (vp_in_nI (by omega) (by omega)) (v := (af5 j)) (congrArg _ (nI_clamp (by omega))) dX5_isWorkableAt_16 ?_
    refine lv_icmp_gt (tgt := 24) hx hb dX5_isWorkableAt_17 (by decide) (fun c_2 => ?_) (fun c_2 => ?_)
    · skip
      refine lv_iconst (v := (nI 0)) hx hb dX5_isWorkableAt_24 (by decide +kernel) ?_
      exact g_zret (Qr := (q_s_isWorkableAt T a0 j h an am al ao au a1 a2 a3 a4 a5 a6 a7 a8 a9 a10 af4 af5)) hC V ⟨(Nat.le_of_ble_eq_true rfl), (Nat.le_of_ble_eq_true rfl)⟩ (by first | decide +kernel | exact rfl) (.inr ⟨rfl, rfl, (by first | exact Or.inl (by assumption) | exact Or.inr (by assumption))⟩) dX5_isWorkableAt_25
    · skip
      refine lv_iconst (v := (nI 1)) hx hb dX5_isWorkableAt_20 (by decide +kernel) ?_
      refine lv_goto (tgt := 25) hx hb dX5_isWorkableAt_21 (by decide) ?_
      exact g_zret (Qr := (q_s_isWorkableAt T a0 j h an am al ao au a1 a2 a3 a4 a5 a6 a7 a8 a9 a10 af4 af5)) hC V ⟨(Nat.le_of_ble_eq_true rfl), (Nat.le_of_ble_eq_true rfl)⟩ (by first | decide +kernel | exact rfl) (.inl ⟨rfl, rfl, (by assumption), (by assumption)⟩) dX5_isWorkableAt_25

def q_s_canStrike (T : Nat → ClassId) (a0 : Nat) (j : Nat) (an : Nat) (am : Int32) (al : Int32) (ao : Int32) (au : Int32) (a1 : Nat) (a2 : Nat) (a3 : Nat) (a4 : Nat) (a5 : Nat) (a6 : Nat) (a7 : Nat) (a8 : Nat) (a9 : Nat) (a10 : Nat) (af3 : Nat → Int32) (af4 : Nat → Int32) (af5 : Nat → Int32) (af6 : Nat → Int32) (af7 : Nat → Int32) : Option Value → va_W → Prop := fun rr ww => (rr = some (.int (nI 1)) ∧ ww = [(a0, .inr (5, [.int (nI an), .int am, .int al, .int ao, .int au, .ref a1, .ref a2, .ref a3, .ref a4, .ref a5, .ref a6, .ref a7, .ref a8, .ref a9, .ref a10])), (a3, .inl (T 0, 10, .inl af3)), (a4, .inl (T 0, 10, .inl af4)), (a5, .inl (T 0, 10, .inl af5)), (a6, .inl (T 0, 10, .inl af6)), (a7, .inl (T 0, 10, .inl af7))] ∧ af7 j < af6 j ∧ ¬ af3 j < af4 j ∧ ¬ af5 j < af3 j) ∨ (rr = some (.int (nI 0)) ∧ ww = [(a0, .inr (5, [.int (nI an), .int am, .int al, .int ao, .int au, .ref a1, .ref a2, .ref a3, .ref a4, .ref a5, .ref a6, .ref a7, .ref a8, .ref a9, .ref a10])), (a3, .inl (T 0, 10, .inl af3)), (a4, .inl (T 0, 10, .inl af4)), (a5, .inl (T 0, 10, .inl af5)), (a6, .inl (T 0, 10, .inl af6)), (a7, .inl (T 0, 10, .inl af7))] ∧ (¬ af7 j < af6 j ∨ af3 j < af4 j ∨ af5 j < af3 j))
set_option maxHeartbeats 4000000 in
set_option maxRecDepth 100000 in
theorem s_canStrike (l : Launch) (D : va_G) (T : Nat → ClassId) (a0 : Nat) (j : Nat) (an : Nat) (am : Int32) (al : Int32) (ao : Int32) (au : Int32) (a1 : Nat) (a2 : Nat) (a3 : Nat) (a4 : Nat) (a5 : Nat) (a6 : Nat) (a7 : Nat) (a8 : Nat) (a9 : Nat) (a10 : Nat) (af3 : Nat → Int32) (af4 : Nat → Int32) (af5 : Nat → Int32) (af6 : Nat → Int32) (af7 : Nat → Int32) (h_j : j < 10) : Ct l yX5_canStrike cX5_canStrike 2 (some .boolean) 1 0 0 D T [.ref a0, .int (nI j)] [(a0, .inr (5, [.int (nI an), .int am, .int al, .int ao, .int au, .ref a1, .ref a2, .ref a3, .ref a4, .ref a5, .ref a6, .ref a7, .ref a8, .ref a9, .ref a10])), (a3, .inl (T 0, 10, .inl af3)), (a4, .inl (T 0, 10, .inl af4)), (a5, .inl (T 0, 10, .inl af5)), (a6, .inl (T 0, 10, .inl af6)), (a7, .inl (T 0, 10, .inl af7))] (q_s_canStrike T a0 j an am al ao au a1 a2 a3 a4 a5 a6 a7 a8 a9 a10 af3 af4 af5 af6 af7) := by
  refine Ct.of (cc := cX5_canStrike) (maxL := 2) (ret := (some .boolean)) (by decide) (Nat.le_of_ble_eq_true rfl) ?_
  intro p e s m args below meth c A ls hC hnm V hl
  obtain ⟨hx, hb, hr, hml, hown, hts, hlocks⟩ := id hC
  generalize hH : s.heap = H at V ⊢
  clear hH
  have hl : lv_has ls 2 [(0, .ref a0), (1, .int (nI j))] := hl
  generalize hlo : ([] : List Loc) = locs at V ⊢
  clear hlo
  refine lv_aload_n hx hb dX5_canStrike_0 rfl (lv_at hl 0 rfl) ?_
  refine lv_iload_n hx hb dX5_canStrike_1 rfl (lv_at hl 1 rfl) ?_
  refine g_callVU (nA := 1) hC V hl.1 (s_isDone l D T a0 j an am al ao au a1 a2 a3 a4 a5 a6 a7 a8 a9 a10 af6 af7 (by first | assumption | omega)) w_477 w_430 w_431 w_3 w_432 (by decide +kernel) rfl ⟨(Nat.le_of_ble_eq_true rfl), (Nat.le_of_ble_eq_true rfl)⟩ 0 (ci := 5) rfl rfl [0, 4, 5] rfl rfl (Nat.le_of_ble_eq_true rfl) dX5_canStrike_2 ⟨(Nat.le_of_ble_eq_true rfl), (Nat.le_of_ble_eq_true rfl)⟩ rfl (fun r w1 H locs hQ V => ?_)
  rcases hQ with ⟨rfl, rfl, f_1⟩ | ⟨rfl, rfl, f_2⟩
  · have V : gW D T A s [(a0, .inr (5, [.int (nI an), .int am, .int al, .int ao, .int au, .ref a1, .ref a2, .ref a3, .ref a4, .ref a5, .ref a6, .ref a7, .ref a8, .ref a9, .ref a10])), (a3, .inl (T 0, 10, .inl af3)), (a4, .inl (T 0, 10, .inl af4)), (a5, .inl (T 0, 10, .inl af5)), (a6, .inl (T 0, 10, .inl af6)), (a7, .inl (T 0, 10, .inl af7))] H locs := V _ [0, 3, 0] rfl rfl rfl (by decide +kernel) rfl
    show W p l e _ s m args below meth c H locs _ _ _ (F0 m 5 ls [.int (nI 1)])
    refine lv_if_ne (tgt := 26) hx hb dX5_canStrike_5 (by decide) (fun _ => ?_) (fun c => absurd (show (nI 1) = 0 from c) (by decide +kernel))
    refine lv_iconst (v := (nI 0)) hx hb dX5_canStrike_26 (by decide +kernel) ?_
    exact g_zret (Qr := (q_s_canStrike T a0 j an am al ao au a1 a2 a3 a4 a5 a6 a7 a8 a9 a10 af3 af4 af5 af6 af7)) hC V ⟨(Nat.le_of_ble_eq_true rfl), (Nat.le_of_ble_eq_true rfl)⟩ (by first | decide +kernel | exact rfl) (.inr ⟨rfl, rfl, (by first | exact Or.inl (by assumption) | exact Or.inr (by assumption))⟩) dX5_canStrike_27
  · have V : gW D T A s [(a0, .inr (5, [.int (nI an), .int am, .int al, .int ao, .int au, .ref a1, .ref a2, .ref a3, .ref a4, .ref a5, .ref a6, .ref a7, .ref a8, .ref a9, .ref a10])), (a3, .inl (T 0, 10, .inl af3)), (a4, .inl (T 0, 10, .inl af4)), (a5, .inl (T 0, 10, .inl af5)), (a6, .inl (T 0, 10, .inl af6)), (a7, .inl (T 0, 10, .inl af7))] H locs := V _ [0, 3, 0] rfl rfl rfl (by decide +kernel) rfl
    show W p l e _ s m args below meth c H locs _ _ _ (F0 m 5 ls [.int (nI 0)])
    refine lv_if_ne (tgt := 26) hx hb dX5_canStrike_5 (by decide) (fun c => absurd (show (nI 0) = 0 by decide +kernel) c) (fun _ => ?_)
    refine lv_aload_n hx hb dX5_canStrike_8 rfl (lv_at hl 0 rfl) ?_
    refine lv_iload_n hx hb dX5_canStrike_9 rfl (lv_at hl 1 rfl) ?_
    refine lv_aload_n hx hb dX5_canStrike_10 rfl (lv_at hl 0 rfl) ?_
    refine g_get hC V (ci := 5) uwX5 0 rfl rfl 7 (by decide) w_62 rfl rfl dX5_canStrike_11 ?_
    refine lv_iload_n hx hb dX5_canStrike_14 rfl (lv_at hl 1 rfl) ?_
    refine g_iald hC V 1 rfl (vp_in_nI (by omega) (by omega)) (v := (af3 j)) (congrArg _ (nI_clamp (by omega))) dX5_canStrike_15 ?_
    refine g_callVU (nA := 2) hC V hl.1 (s_isWorkableAt l D T a0 j (af3 j) an am al ao au a1 a2 a3 a4 a5 a6 a7 a8 a9 a10 af4 af5 (by first | assumption | omega)) w_478 w_479 w_480 w_3 w_481 (by decide +kernel) rfl ⟨(Nat.le_of_ble_eq_true rfl), (Nat.le_of_ble_eq_true rfl)⟩ 0 (ci := 5) rfl rfl [0, 2, 3] rfl rfl (Nat.le_of_ble_eq_true rfl) dX5_canStrike_16 ⟨(Nat.le_of_ble_eq_true rfl), (Nat.le_of_ble_eq_true rfl)⟩ rfl (fun r w1 H locs hQ V => ?_)
    rcases hQ with ⟨rfl, rfl, f_3, f_4⟩ | ⟨rfl, rfl, f_5⟩
    · have V : gW D T A s [(a0, .inr (5, [.int (nI an), .int am, .int al, .int ao, .int au, .ref a1, .ref a2, .ref a3, .ref a4, .ref a5, .ref a6, .ref a7, .ref a8, .ref a9, .ref a10])), (a3, .inl (T 0, 10, .inl af3)), (a4, .inl (T 0, 10, .inl af4)), (a5, .inl (T 0, 10, .inl af5)), (a6, .inl (T 0, 10, .inl af6)), (a7, .inl (T 0, 10, .inl af7))] H locs := V _ [0, 1, 0] rfl rfl rfl (by decide +kernel) rfl
      show W p l e _ s m args below meth c H locs _ _ _ (F0 m 19 ls [.int (nI 1)])
      refine lv_if_eq (tgt := 26) hx hb dX5_canStrike_19 (by decide) (fun c => absurd (show (nI 1) = 0 from c) (by decide +kernel)) (fun _ => ?_)
      refine lv_iconst (v := (nI 1)) hx hb dX5_canStrike_22 (by decide +kernel) ?_
      refine lv_goto (tgt := 27) hx hb dX5_canStrike_23 (by decide) ?_
      exact g_zret (Qr := (q_s_canStrike T a0 j an am al ao au a1 a2 a3 a4 a5 a6 a7 a8 a9 a10 af3 af4 af5 af6 af7)) hC V ⟨(Nat.le_of_ble_eq_true rfl), (Nat.le_of_ble_eq_true rfl)⟩ (by first | decide +kernel | exact rfl) (.inl ⟨rfl, rfl, (by assumption), (by assumption), (by assumption)⟩) dX5_canStrike_27
    · have V : gW D T A s [(a0, .inr (5, [.int (nI an), .int am, .int al, .int ao, .int au, .ref a1, .ref a2, .ref a3, .ref a4, .ref a5, .ref a6, .ref a7, .ref a8, .ref a9, .ref a10])), (a3, .inl (T 0, 10, .inl af3)), (a4, .inl (T 0, 10, .inl af4)), (a5, .inl (T 0, 10, .inl af5)), (a6, .inl (T 0, 10, .inl af6)), (a7, .inl (T 0, 10, .inl af7))] H locs := V _ [0, 1, 0] rfl rfl rfl (by decide +kernel) rfl
      show W p l e _ s m args below meth c H locs _ _ _ (F0 m 19 ls [.int (nI 0)])
      refine lv_if_eq (tgt := 26) hx hb dX5_canStrike_19 (by decide) (fun _ => ?_) (fun c => absurd (show (nI 0) = 0 by decide +kernel) c)
      refine lv_iconst (v := (nI 0)) hx hb dX5_canStrike_26 (by decide +kernel) ?_
      exact g_zret (Qr := (q_s_canStrike T a0 j an am al ao au a1 a2 a3 a4 a5 a6 a7 a8 a9 a10 af3 af4 af5 af6 af7)) hC V ⟨(Nat.le_of_ble_eq_true rfl), (Nat.le_of_ble_eq_true rfl)⟩ (by first | decide +kernel | exact rfl) (.inr ⟨rfl, rfl, (by first | exact Or.inl (by assumption) | exact Or.inr (by assumption))⟩) dX5_canStrike_27

def q_s_blastOn (T : Nat → ClassId) (a0 : Nat) (fi : Int32) (pl : Int32) (an : Nat) (am : Int32) (al : Int32) (ao : Int32) (au : Int32) (a1 : Nat) (a2 : Nat) (a3 : Nat) (a4 : Nat) (a5 : Nat) (a6 : Nat) (a7 : Nat) (a8 : Nat) (a9 : Nat) (a10 : Nat) (af1 : Nat → Int32) (af9 : Nat → Int32) : Option Value → va_W → Prop := fun rr ww => (∃ (z : Int32), rr = some (.int z) ∧ ww = [(a0, .inr (5, [.int (nI an), .int am, .int al, .int ao, .int au, .ref a1, .ref a2, .ref a3, .ref a4, .ref a5, .ref a6, .ref a7, .ref a8, .ref a9, .ref a10])), (a1, .inl (T 0, 10, .inl af1)), (a9, .inl (T 0, 10, .inl af9))])
set_option maxHeartbeats 4000000 in
set_option maxRecDepth 100000 in
theorem s_blastOn (l : Launch) (D : va_G) (T : Nat → ClassId) (a0 : Nat) (fi : Int32) (pl : Int32) (an : Nat) (am : Int32) (al : Int32) (ao : Int32) (au : Int32) (a1 : Nat) (a2 : Nat) (a3 : Nat) (a4 : Nat) (a5 : Nat) (a6 : Nat) (a7 : Nat) (a8 : Nat) (a9 : Nat) (a10 : Nat) (af1 : Nat → Int32) (af9 : Nat → Int32) (h_n : an ≤ 10) : Ct l yX5_blastOn cX5_blastOn 5 (some .int) 1 0 0 D T [.ref a0, .int fi, .int pl] [(a0, .inr (5, [.int (nI an), .int am, .int al, .int ao, .int au, .ref a1, .ref a2, .ref a3, .ref a4, .ref a5, .ref a6, .ref a7, .ref a8, .ref a9, .ref a10])), (a1, .inl (T 0, 10, .inl af1)), (a9, .inl (T 0, 10, .inl af9))] (q_s_blastOn T a0 fi pl an am al ao au a1 a2 a3 a4 a5 a6 a7 a8 a9 a10 af1 af9) := by
  refine Ct.of (cc := cX5_blastOn) (maxL := 5) (ret := (some .int)) (by decide) (Nat.le_of_ble_eq_true rfl) ?_
  intro p e s m args below meth c A ls hC hnm V hl
  obtain ⟨hx, hb, hr, hml, hown, hts, hlocks⟩ := id hC
  generalize hH : s.heap = H at V ⊢
  clear hH
  have hl : lv_has ls 5 [(0, .ref a0), (1, .int fi), (2, .int pl)] := hl
  generalize hlo : ([] : List Loc) = locs at V ⊢
  clear hlo
  refine lv_iconst (v := (nI 0)) hx hb dX5_blastOn_0 (by decide +kernel) ?_
  refine lv_istore_n (lv' := [(3, .int (nI 0)), (0, .ref a0), (1, .int fi), (2, .int pl)]) hx hb dX5_blastOn_1 rfl hl (by decide) rfl (fun ls hl => ?_)
  refine lv_iconst (v := (nI 0)) hx hb dX5_blastOn_2 (by decide +kernel) ?_
  refine lv_istore (lv' := [(4, .int (nI 0)), (3, .int (nI 0)), (0, .ref a0), (1, .int fi), (2, .int pl)]) hx hb dX5_blastOn_3 hl (by decide) rfl (fun ls hl => ?_)
  have L_1 : ∀ (fu : Nat) (k5 : Nat) (x5_3 : Int32), k5 ≤ an → an - k5 < fu → ∀ (H : Heap) (locs : List Loc) (ls : Array Slot), gW D T A s [(a0, .inr (5, [.int (nI an), .int am, .int al, .int ao, .int au, .ref a1, .ref a2, .ref a3, .ref a4, .ref a5, .ref a6, .ref a7, .ref a8, .ref a9, .ref a10])), (a1, .inl (T 0, 10, .inl af1)), (a9, .inl (T 0, 10, .inl af9))] H locs → lv_has ls 5 [(4, .int (nI k5)), (3, .int x5_3), (0, .ref a0), (1, .int fi), (2, .int pl)] → W p l e (rmD 1 0 0) s m args below meth c H locs 0 0 (MQ below (gQ D A (q_s_blastOn T a0 fi pl an am al ao au a1 a2 a3 a4 a5 a6 a7 a8 a9 a10 af1 af9)) args s 0 0 A) (F0 m 5 ls []) := by
    intro fu_5
    induction fu_5 with
    | zero => intro k5 x5_3 hk5 hmu; exact absurd hmu (Nat.not_lt_zero _)
    | succ fu_5 ih_5 =>
      intro k5 x5_3 hk5 hmu_5 H locs ls V hl
      refine lv_iload hx hb dX5_blastOn_5 (lv_at hl 0 rfl) ?_
      refine lv_aload_n hx hb dX5_blastOn_7 rfl (lv_at hl 2 rfl) ?_
      refine g_get hC V (ci := 5) uwX5 0 rfl rfl 0 (by decide) w_33 rfl rfl dX5_blastOn_8 ?_
      refine lv_icmp_ge (tgt := 50) hx hb dX5_blastOn_11 (by decide) (fun c_2 => ?_) (fun c_2 => ?_)
      · skip
        have c_2 := b_le (by omega) (by omega) c_2
        refine lv_iload_n hx hb dX5_blastOn_50 rfl (lv_at hl 1 rfl) ?_
        exact g_iret (Qr := (q_s_blastOn T a0 fi pl an am al ao au a1 a2 a3 a4 a5 a6 a7 a8 a9 a10 af1 af9)) hC V ⟨(Nat.le_of_ble_eq_true rfl), (Nat.le_of_ble_eq_true rfl)⟩ ⟨x5_3, rfl, rfl⟩ dX5_blastOn_51
      · skip
        have c_2 := b_nle (by omega) (by omega) c_2
        refine lv_aload_n hx hb dX5_blastOn_14 rfl (lv_at hl 2 rfl) ?_
        refine g_get hC V (ci := 5) uwX5 0 rfl rfl 13 (by decide) w_82 rfl rfl dX5_blastOn_15 ?_
        refine lv_iload hx hb dX5_blastOn_18 (lv_at hl 0 rfl) ?_
        refine g_iald hC V 2 rfl (vp_in_nI (by omega) (by omega)) (v := (af9 k5)) (congrArg _ (nI_clamp (by omega))) dX5_blastOn_20 ?_
        refine lv_iload_n hx hb dX5_blastOn_21 rfl (lv_at hl 3 rfl) ?_
        refine lv_icmp_ne (tgt := 44) hx hb dX5_blastOn_22 (by decide) (fun c_3 => ?_) (fun c_3 => ?_)
        · skip
          refine lv_iinc (v := (nI (k5 + 1))) (lv' := [(4, .int (nI (k5 + 1))), (3, .int x5_3), (0, .ref a0), (1, .int fi), (2, .int pl)]) hx hb dX5_blastOn_44 hl (k := 0) rfl (nI_1 _) (by decide) rfl (fun ls hl => ?_)
          refine lv_goto (tgt := 5) hx hb dX5_blastOn_47 (by decide) ?_
          exact ih_5 (k5 + 1) x5_3 (by omega) (by omega) _ _ _ V (lv_sub hl [0, 1, 2, 3, 4] rfl)
        · skip
          refine lv_iload_n hx hb dX5_blastOn_25 rfl (lv_at hl 4 rfl) ?_
          refine lv_iload hx hb dX5_blastOn_26 (lv_at hl 0 rfl) ?_
          refine g_callSNU (nA := 2) (host := RX7) hC V hl.1 (c_isIn l D T pl (nI k5)) w_472 (List.mem_of_getElem? (i := 13) rfl) w_2 w_471 (by decide +kernel) rfl ⟨(Nat.le_of_ble_eq_true rfl), (Nat.le_of_ble_eq_true rfl)⟩ [] rfl rfl (Nat.le_of_ble_eq_true rfl) dX5_blastOn_28 ⟨(Nat.le_of_ble_eq_true rfl), (Nat.le_of_ble_eq_true rfl)⟩ rfl (fun r w1 H locs hQ V => ?_)
          rcases hQ with ⟨rfl, rfl⟩ | ⟨rfl, rfl⟩
          · have V : gW D T A s [(a0, .inr (5, [.int (nI an), .int am, .int al, .int ao, .int au, .ref a1, .ref a2, .ref a3, .ref a4, .ref a5, .ref a6, .ref a7, .ref a8, .ref a9, .ref a10])), (a1, .inl (T 0, 10, .inl af1)), (a9, .inl (T 0, 10, .inl af9))] H locs := V _ [] rfl rfl rfl (by decide +kernel) rfl
            show W p l e _ s m args below meth c H locs _ _ _ (F0 m 31 ls [.int (nI 1)])
            refine lv_if_eq (tgt := 44) hx hb dX5_blastOn_31 (by decide) (fun c => absurd (show (nI 1) = 0 from c) (by decide +kernel)) (fun _ => ?_)
            refine lv_iload_n hx hb dX5_blastOn_34 rfl (lv_at hl 1 rfl) ?_
            refine lv_aload_n hx hb dX5_blastOn_35 rfl (lv_at hl 2 rfl) ?_
            refine g_get hC V (ci := 5) uwX5 0 rfl rfl 5 (by decide) w_51 rfl rfl dX5_blastOn_36 ?_
            refine lv_iload hx hb dX5_blastOn_39 (lv_at hl 0 rfl) ?_
            refine g_iald hC V 1 rfl (vp_in_nI (by omega) (by omega)) (v := (af1 k5)) (congrArg _ (nI_clamp (by omega))) dX5_blastOn_41 ?_
            refine lv_iadd hx hb dX5_blastOn_42 ?_
            refine lv_istore_n (lv' := [(3, .int (x5_3 + (af1 k5))), (4, .int (nI k5)), (0, .ref a0), (1, .int fi), (2, .int pl)]) hx hb dX5_blastOn_43 rfl hl (by decide) rfl (fun ls hl => ?_)
            refine lv_iinc (v := (nI (k5 + 1))) (lv' := [(4, .int (nI (k5 + 1))), (3, .int (x5_3 + (af1 k5))), (0, .ref a0), (1, .int fi), (2, .int pl)]) hx hb dX5_blastOn_44 hl (k := 1) rfl (nI_1 _) (by decide) rfl (fun ls hl => ?_)
            refine lv_goto (tgt := 5) hx hb dX5_blastOn_47 (by decide) ?_
            exact ih_5 (k5 + 1) (x5_3 + (af1 k5)) (by omega) (by omega) _ _ _ V (lv_sub hl [0, 1, 2, 3, 4] rfl)
          · have V : gW D T A s [(a0, .inr (5, [.int (nI an), .int am, .int al, .int ao, .int au, .ref a1, .ref a2, .ref a3, .ref a4, .ref a5, .ref a6, .ref a7, .ref a8, .ref a9, .ref a10])), (a1, .inl (T 0, 10, .inl af1)), (a9, .inl (T 0, 10, .inl af9))] H locs := V _ [] rfl rfl rfl (by decide +kernel) rfl
            show W p l e _ s m args below meth c H locs _ _ _ (F0 m 31 ls [.int (nI 0)])
            refine lv_if_eq (tgt := 44) hx hb dX5_blastOn_31 (by decide) (fun _ => ?_) (fun c => absurd (show (nI 0) = 0 by decide +kernel) c)
            refine lv_iinc (v := (nI (k5 + 1))) (lv' := [(4, .int (nI (k5 + 1))), (3, .int x5_3), (0, .ref a0), (1, .int fi), (2, .int pl)]) hx hb dX5_blastOn_44 hl (k := 0) rfl (nI_1 _) (by decide) rfl (fun ls hl => ?_)
            refine lv_goto (tgt := 5) hx hb dX5_blastOn_47 (by decide) ?_
            exact ih_5 (k5 + 1) x5_3 (by omega) (by omega) _ _ _ V (lv_sub hl [0, 1, 2, 3, 4] rfl)
  exact L_1 _ 0 (nI 0) (by omega) (Nat.lt_succ_self _) _ _ _ V (lv_sub hl [0, 1, 2, 3, 4] rfl)

def q_s_heatBehind (T : Nat → ClassId) (a0 : Nat) (j : Nat) (pl : Int32) (an : Nat) (am : Int32) (al : Int32) (ao : Int32) (au : Int32) (a1 : Nat) (a2 : Nat) (a3 : Nat) (a4 : Nat) (a5 : Nat) (a6 : Nat) (a7 : Nat) (a8 : Nat) (a9 : Nat) (a10 : Nat) (af1 : Nat → Int32) (af2 : Nat → Int32) (af3 : Nat → Int32) (af9 : Nat → Int32) : Option Value → va_W → Prop := fun rr ww => (∃ (z : Int32), rr = some (.int z) ∧ ww = [(a0, .inr (5, [.int (nI an), .int am, .int al, .int ao, .int au, .ref a1, .ref a2, .ref a3, .ref a4, .ref a5, .ref a6, .ref a7, .ref a8, .ref a9, .ref a10])), (a1, .inl (T 0, 10, .inl af1)), (a2, .inl (T 0, 10, .inl af2)), (a3, .inl (T 0, 10, .inl af3)), (a9, .inl (T 0, 10, .inl af9))])
set_option maxHeartbeats 4000000 in
set_option maxRecDepth 100000 in
theorem s_heatBehind (l : Launch) (D : va_G) (T : Nat → ClassId) (a0 : Nat) (j : Nat) (pl : Int32) (an : Nat) (am : Int32) (al : Int32) (ao : Int32) (au : Int32) (a1 : Nat) (a2 : Nat) (a3 : Nat) (a4 : Nat) (a5 : Nat) (a6 : Nat) (a7 : Nat) (a8 : Nat) (a9 : Nat) (a10 : Nat) (af1 : Nat → Int32) (af2 : Nat → Int32) (af3 : Nat → Int32) (af9 : Nat → Int32) (h_n : an ≤ 10) (h_j : j < 10) : Ct l yX5_heatBehind cX5_heatBehind 3 (some .int) 2 0 0 D T [.ref a0, .int (nI j), .int pl] [(a0, .inr (5, [.int (nI an), .int am, .int al, .int ao, .int au, .ref a1, .ref a2, .ref a3, .ref a4, .ref a5, .ref a6, .ref a7, .ref a8, .ref a9, .ref a10])), (a1, .inl (T 0, 10, .inl af1)), (a2, .inl (T 0, 10, .inl af2)), (a3, .inl (T 0, 10, .inl af3)), (a9, .inl (T 0, 10, .inl af9))] (q_s_heatBehind T a0 j pl an am al ao au a1 a2 a3 a4 a5 a6 a7 a8 a9 a10 af1 af2 af3 af9) := by
  refine Ct.of (cc := cX5_heatBehind) (maxL := 3) (ret := (some .int)) (by decide) (Nat.le_of_ble_eq_true rfl) ?_
  intro p e s m args below meth c A ls hC hnm V hl
  obtain ⟨hx, hb, hr, hml, hown, hts, hlocks⟩ := id hC
  generalize hH : s.heap = H at V ⊢
  clear hH
  have hl : lv_has ls 3 [(0, .ref a0), (1, .int (nI j)), (2, .int pl)] := hl
  generalize hlo : ([] : List Loc) = locs at V ⊢
  clear hlo
  refine lv_aload_n hx hb dX5_heatBehind_0 rfl (lv_at hl 0 rfl) ?_
  refine g_get hC V (ci := 5) uwX5 0 rfl rfl 7 (by decide) w_62 rfl rfl dX5_heatBehind_1 ?_
  refine lv_iload_n hx hb dX5_heatBehind_4 rfl (lv_at hl 1 rfl) ?_
  refine g_iald hC V 3 rfl (vp_in_nI (by omega) (by omega)) (v := (af3 j)) (congrArg _ (nI_clamp (by omega))) dX5_heatBehind_5 ?_
  refine lv_aload_n hx hb dX5_heatBehind_6 rfl (lv_at hl 0 rfl) ?_
  refine lv_iload_n hx hb dX5_heatBehind_7 rfl (lv_at hl 1 rfl) ?_
  refine lv_iload_n hx hb dX5_heatBehind_8 rfl (lv_at hl 2 rfl) ?_
  refine g_callVU (nA := 2) hC V hl.1 (s_blastOn l D T a0 (nI j) pl an am al ao au a1 a2 a3 a4 a5 a6 a7 a8 a9 a10 af1 af9 (by first | assumption | omega)) w_699 w_700 w_701 w_3 w_702 (by decide +kernel) rfl ⟨(Nat.le_of_ble_eq_true rfl), (Nat.le_of_ble_eq_true rfl)⟩ 0 (ci := 5) rfl rfl [0, 1, 4] rfl rfl (Nat.le_of_ble_eq_true rfl) dX5_heatBehind_9 ⟨(Nat.le_of_ble_eq_true rfl), (Nat.le_of_ble_eq_true rfl)⟩ rfl (fun r w1 H locs hQ V => ?_)
  obtain ⟨z_1, rfl, rfl⟩ := hQ
  have V : gW D T A s [(a0, .inr (5, [.int (nI an), .int am, .int al, .int ao, .int au, .ref a1, .ref a2, .ref a3, .ref a4, .ref a5, .ref a6, .ref a7, .ref a8, .ref a9, .ref a10])), (a1, .inl (T 0, 10, .inl af1)), (a2, .inl (T 0, 10, .inl af2)), (a3, .inl (T 0, 10, .inl af3)), (a9, .inl (T 0, 10, .inl af9))] H locs := V _ [0, 0, 2] rfl rfl rfl (by decide +kernel) rfl
  show W p l e _ s m args below meth c H locs _ _ _ (F0 m 12 ls [.int z_1, .int (af3 j)])
  refine lv_iadd hx hb dX5_heatBehind_12 ?_
  refine lv_aload_n hx hb dX5_heatBehind_13 rfl (lv_at hl 0 rfl) ?_
  refine g_get hC V (ci := 5) uwX5 0 rfl rfl 6 (by decide) w_56 rfl rfl dX5_heatBehind_14 ?_
  refine lv_iload_n hx hb dX5_heatBehind_17 rfl (lv_at hl 1 rfl) ?_
  refine g_iald hC V 2 rfl (vp_in_nI (by omega) (by omega)) (v := (af2 j)) (congrArg _ (nI_clamp (by omega))) dX5_heatBehind_18 ?_
  refine lv_isub hx hb dX5_heatBehind_19 ?_
  refine g_callSNU (nA := 1) (host := RX7) hC V hl.1 (c_bounded l D T (((af3 j) + z_1) - (af2 j))) w_489 (List.mem_of_getElem? (i := 14) rfl) w_2 w_488 (by decide +kernel) rfl ⟨(Nat.le_of_ble_eq_true rfl), (Nat.le_of_ble_eq_true rfl)⟩ [] rfl rfl (Nat.le_of_ble_eq_true rfl) dX5_heatBehind_20 ⟨(Nat.le_of_ble_eq_true rfl), (Nat.le_of_ble_eq_true rfl)⟩ rfl (fun r w1 H locs hQ V => ?_)
  obtain ⟨z_2, rfl, rfl⟩ := hQ
  have V : gW D T A s [(a0, .inr (5, [.int (nI an), .int am, .int al, .int ao, .int au, .ref a1, .ref a2, .ref a3, .ref a4, .ref a5, .ref a6, .ref a7, .ref a8, .ref a9, .ref a10])), (a1, .inl (T 0, 10, .inl af1)), (a2, .inl (T 0, 10, .inl af2)), (a3, .inl (T 0, 10, .inl af3)), (a9, .inl (T 0, 10, .inl af9))] H locs := V _ [] rfl rfl rfl (by decide +kernel) rfl
  show W p l e _ s m args below meth c H locs _ _ _ (F0 m 23 ls [.int z_2])
  exact g_iret (Qr := (q_s_heatBehind T a0 j pl an am al ao au a1 a2 a3 a4 a5 a6 a7 a8 a9 a10 af1 af2 af3 af9)) hC V ⟨(Nat.le_of_ble_eq_true rfl), (Nat.le_of_ble_eq_true rfl)⟩ ⟨z_2, rfl, rfl⟩ dX5_heatBehind_23

def q_s_weighChanges (T : Nat → ClassId) (a0 : Nat) (pl : Int32) (an : Nat) (am : Int32) (al : Int32) (ao : Int32) (au : Int32) (a1 : Nat) (a2 : Nat) (a3 : Nat) (a4 : Nat) (a5 : Nat) (a6 : Nat) (a7 : Nat) (a8 : Nat) (a9 : Nat) (a10 : Nat) (af1 : Nat → Int32) (af2 : Nat → Int32) (af9 : Nat → Int32) (af10 : Nat → Int32) : Option Value → va_W → Prop := fun rr ww => (∃ (g10 : Nat → Int32), rr = none ∧ ww = [(a0, .inr (5, [.int (nI an), .int am, .int al, .int ao, .int au, .ref a1, .ref a2, .ref a3, .ref a4, .ref a5, .ref a6, .ref a7, .ref a8, .ref a9, .ref a10])), (a1, .inl (T 0, 10, .inl af1)), (a2, .inl (T 0, 10, .inl af2)), (a9, .inl (T 0, 10, .inl af9)), (a10, .inl (T 0, 10, .inl g10))])
set_option maxHeartbeats 4000000 in
set_option maxRecDepth 100000 in
theorem s_weighChanges (l : Launch) (D : va_G) (T : Nat → ClassId) (a0 : Nat) (pl : Int32) (an : Nat) (am : Int32) (al : Int32) (ao : Int32) (au : Int32) (a1 : Nat) (a2 : Nat) (a3 : Nat) (a4 : Nat) (a5 : Nat) (a6 : Nat) (a7 : Nat) (a8 : Nat) (a9 : Nat) (a10 : Nat) (af1 : Nat → Int32) (af2 : Nat → Int32) (af9 : Nat → Int32) (af10 : Nat → Int32) (h_n : an ≤ 10) (h_t : ∀ i, i < an → bd (af9 i) an) : Ct l yX5_weighChanges cX5_weighChanges 3 none 1 0 0 D T [.ref a0, .int pl] [(a0, .inr (5, [.int (nI an), .int am, .int al, .int ao, .int au, .ref a1, .ref a2, .ref a3, .ref a4, .ref a5, .ref a6, .ref a7, .ref a8, .ref a9, .ref a10])), (a1, .inl (T 0, 10, .inl af1)), (a2, .inl (T 0, 10, .inl af2)), (a9, .inl (T 0, 10, .inl af9)), (a10, .inl (T 0, 10, .inl af10))] (q_s_weighChanges T a0 pl an am al ao au a1 a2 a3 a4 a5 a6 a7 a8 a9 a10 af1 af2 af9 af10) := by
  refine Ct.of (cc := cX5_weighChanges) (maxL := 3) (ret := none) (by decide) (Nat.le_of_ble_eq_true rfl) ?_
  intro p e s m args below meth c A ls hC hnm V hl
  obtain ⟨hx, hb, hr, hml, hown, hts, hlocks⟩ := id hC
  generalize hH : s.heap = H at V ⊢
  clear hH
  have hl : lv_has ls 3 [(0, .ref a0), (1, .int pl)] := hl
  generalize hlo : ([] : List Loc) = locs at V ⊢
  clear hlo
  refine lv_iconst (v := (nI 0)) hx hb dX5_weighChanges_0 (by decide +kernel) ?_
  refine lv_istore_n (lv' := [(2, .int (nI 0)), (0, .ref a0), (1, .int pl)]) hx hb dX5_weighChanges_1 rfl hl (by decide) rfl (fun ls hl => ?_)
  have L_1 : ∀ (fu : Nat) (k2 : Nat) (gc : Nat → Int32), k2 ≤ an → an - k2 < fu → ∀ (H : Heap) (locs : List Loc) (ls : Array Slot), gW D T A s [(a0, .inr (5, [.int (nI an), .int am, .int al, .int ao, .int au, .ref a1, .ref a2, .ref a3, .ref a4, .ref a5, .ref a6, .ref a7, .ref a8, .ref a9, .ref a10])), (a1, .inl (T 0, 10, .inl af1)), (a2, .inl (T 0, 10, .inl af2)), (a9, .inl (T 0, 10, .inl af9)), (a10, .inl (T 0, 10, .inl gc))] H locs → lv_has ls 3 [(2, .int (nI k2)), (0, .ref a0), (1, .int pl)] → W p l e (rmD 1 0 0) s m args below meth c H locs 0 0 (MQ below (gQ D A (q_s_weighChanges T a0 pl an am al ao au a1 a2 a3 a4 a5 a6 a7 a8 a9 a10 af1 af2 af9 af10)) args s 0 0 A) (F0 m 2 ls []) := by
    intro fu_2
    induction fu_2 with
    | zero => intro k2 gc hk2 hmu; exact absurd hmu (Nat.not_lt_zero _)
    | succ fu_2 ih_2 =>
      intro k2 gc hk2 hmu_2 H locs ls V hl
      refine lv_iload_n hx hb dX5_weighChanges_2 rfl (lv_at hl 0 rfl) ?_
      refine lv_aload_n hx hb dX5_weighChanges_3 rfl (lv_at hl 1 rfl) ?_
      refine g_get hC V (ci := 5) uwX5 0 rfl rfl 0 (by decide) w_33 rfl rfl dX5_weighChanges_4 ?_
      refine lv_icmp_ge (tgt := 29) hx hb dX5_weighChanges_7 (by decide) (fun c_2 => ?_) (fun c_2 => ?_)
      · skip
        have c_2 := b_le (by omega) (by omega) c_2
        refine lv_iconst (v := (nI 0)) hx hb dX5_weighChanges_29 (by decide +kernel) ?_
        refine lv_istore_n (lv' := [(2, .int (nI 0)), (0, .ref a0), (1, .int pl)]) hx hb dX5_weighChanges_30 rfl hl (by decide) rfl (fun ls hl => ?_)
        have L_3 : ∀ (fu : Nat) (k31 : Nat) (gd : Nat → Int32), k31 ≤ an → an - k31 < fu → ∀ (H : Heap) (locs : List Loc) (ls : Array Slot), gW D T A s [(a0, .inr (5, [.int (nI an), .int am, .int al, .int ao, .int au, .ref a1, .ref a2, .ref a3, .ref a4, .ref a5, .ref a6, .ref a7, .ref a8, .ref a9, .ref a10])), (a1, .inl (T 0, 10, .inl af1)), (a2, .inl (T 0, 10, .inl af2)), (a9, .inl (T 0, 10, .inl af9)), (a10, .inl (T 0, 10, .inl gd))] H locs → lv_has ls 3 [(2, .int (nI k31)), (0, .ref a0), (1, .int pl)] → W p l e (rmD 1 0 0) s m args below meth c H locs 0 0 (MQ below (gQ D A (q_s_weighChanges T a0 pl an am al ao au a1 a2 a3 a4 a5 a6 a7 a8 a9 a10 af1 af2 af9 af10)) args s 0 0 A) (F0 m 31 ls []) := by
          intro fu_31
          induction fu_31 with
          | zero => intro k31 gd hk31 hmu; exact absurd hmu (Nat.not_lt_zero _)
          | succ fu_31 ih_31 =>
            intro k31 gd hk31 hmu_31 H locs ls V hl
            refine lv_iload_n hx hb dX5_weighChanges_31 rfl (lv_at hl 0 rfl) ?_
            refine lv_aload_n hx hb dX5_weighChanges_32 rfl (lv_at hl 1 rfl) ?_
            refine g_get hC V (ci := 5) uwX5 0 rfl rfl 0 (by decide) w_33 rfl rfl dX5_weighChanges_33 ?_
            refine lv_icmp_ge (tgt := 73) hx hb dX5_weighChanges_36 (by decide) (fun c_4 => ?_) (fun c_4 => ?_)
            · skip
              have c_4 := b_le (by omega) (by omega) c_4
              exact g_vret (Qr := (q_s_weighChanges T a0 pl an am al ao au a1 a2 a3 a4 a5 a6 a7 a8 a9 a10 af1 af2 af9 af10)) hC V ⟨(Nat.le_of_ble_eq_true rfl), (Nat.le_of_ble_eq_true rfl)⟩ ⟨gd, rfl, rfl⟩ dX5_weighChanges_73
            · skip
              have c_4 := b_nle (by omega) (by omega) c_4
              refine lv_iload_n hx hb dX5_weighChanges_39 rfl (lv_at hl 2 rfl) ?_
              refine lv_iload_n hx hb dX5_weighChanges_40 rfl (lv_at hl 0 rfl) ?_
              refine g_callSNU (nA := 2) (host := RX7) hC V hl.1 (c_isIn l D T pl (nI k31)) w_472 (List.mem_of_getElem? (i := 13) rfl) w_2 w_471 (by decide +kernel) rfl ⟨(Nat.le_of_ble_eq_true rfl), (Nat.le_of_ble_eq_true rfl)⟩ [] rfl rfl (Nat.le_of_ble_eq_true rfl) dX5_weighChanges_41 ⟨(Nat.le_of_ble_eq_true rfl), (Nat.le_of_ble_eq_true rfl)⟩ rfl (fun r w1 H locs hQ V => ?_)
              rcases hQ with ⟨rfl, rfl⟩ | ⟨rfl, rfl⟩
              · have V : gW D T A s [(a0, .inr (5, [.int (nI an), .int am, .int al, .int ao, .int au, .ref a1, .ref a2, .ref a3, .ref a4, .ref a5, .ref a6, .ref a7, .ref a8, .ref a9, .ref a10])), (a1, .inl (T 0, 10, .inl af1)), (a2, .inl (T 0, 10, .inl af2)), (a9, .inl (T 0, 10, .inl af9)), (a10, .inl (T 0, 10, .inl gd))] H locs := V _ [] rfl rfl rfl (by decide +kernel) rfl
                show W p l e _ s m args below meth c H locs _ _ _ (F0 m 44 ls [.int (nI 1)])
                refine lv_if_eq (tgt := 67) hx hb dX5_weighChanges_44 (by decide) (fun c => absurd (show (nI 1) = 0 from c) (by decide +kernel)) (fun _ => ?_)
                refine lv_aload_n hx hb dX5_weighChanges_47 rfl (lv_at hl 1 rfl) ?_
                refine g_get hC V (ci := 5) uwX5 0 rfl rfl 14 (by decide) w_86 rfl rfl dX5_weighChanges_48 ?_
                refine lv_aload_n hx hb dX5_weighChanges_51 rfl (lv_at hl 1 rfl) ?_
                refine g_get hC V (ci := 5) uwX5 0 rfl rfl 13 (by decide) w_82 rfl rfl dX5_weighChanges_52 ?_
                refine lv_iload_n hx hb dX5_weighChanges_55 rfl (lv_at hl 0 rfl) ?_
                obtain ⟨j_5, hj_5, ej_5⟩ := bd_ex (h_t k31 (by omega))
                refine g_iald hC V 3 rfl (vp_in_nI (by omega) (by omega)) (v := (nI j_5)) (by rw [nI_clamp (by omega)]; exact ej_5) dX5_weighChanges_56 ?_
                refine lv_dup2_11 hx hb dX5_weighChanges_57 rfl rfl ?_
                refine g_iald hC V 4 rfl (vp_in_nI (by omega) (by omega)) (v := (gd j_5)) (congrArg _ (nI_clamp (by omega))) dX5_weighChanges_58 ?_
                refine lv_aload_n hx hb dX5_weighChanges_59 rfl (lv_at hl 1 rfl) ?_
                refine g_get hC V (ci := 5) uwX5 0 rfl rfl 5 (by decide) w_51 rfl rfl dX5_weighChanges_60 ?_
                refine lv_iload_n hx hb dX5_weighChanges_63 rfl (lv_at hl 0 rfl) ?_
                refine g_iald hC V 1 rfl (vp_in_nI (by omega) (by omega)) (v := (af1 k31)) (congrArg _ (nI_clamp (by omega))) dX5_weighChanges_64 ?_
                refine lv_iadd hx hb dX5_weighChanges_65 ?_
                refine g_iast hC V 4 rfl (vp_in_nI (by omega) (by omega)) (f' := (upd gd j_5 ((gd j_5) + (af1 k31)))) (by rw [nI_clamp (by omega)]) (ws' := [(a0, .inr (5, [.int (nI an), .int am, .int al, .int ao, .int au, .ref a1, .ref a2, .ref a3, .ref a4, .ref a5, .ref a6, .ref a7, .ref a8, .ref a9, .ref a10])), (a1, .inl (T 0, 10, .inl af1)), (a2, .inl (T 0, 10, .inl af2)), (a9, .inl (T 0, 10, .inl af9)), (a10, .inl (T 0, 10, .inl (upd gd j_5 ((gd j_5) + (af1 k31)))))]) rfl dX5_weighChanges_66 (fun H locs V => ?_)
                refine lv_iinc (v := (nI (k31 + 1))) (lv' := [(2, .int (nI (k31 + 1))), (0, .ref a0), (1, .int pl)]) hx hb dX5_weighChanges_67 hl (k := 0) rfl (nI_1 _) (by decide) rfl (fun ls hl => ?_)
                refine lv_goto (tgt := 31) hx hb dX5_weighChanges_70 (by decide) ?_
                exact ih_31 (k31 + 1) (upd gd j_5 ((gd j_5) + (af1 k31))) (by omega) (by omega) _ _ _ V (lv_sub hl [0, 1, 2] rfl)
              · have V : gW D T A s [(a0, .inr (5, [.int (nI an), .int am, .int al, .int ao, .int au, .ref a1, .ref a2, .ref a3, .ref a4, .ref a5, .ref a6, .ref a7, .ref a8, .ref a9, .ref a10])), (a1, .inl (T 0, 10, .inl af1)), (a2, .inl (T 0, 10, .inl af2)), (a9, .inl (T 0, 10, .inl af9)), (a10, .inl (T 0, 10, .inl gd))] H locs := V _ [] rfl rfl rfl (by decide +kernel) rfl
                show W p l e _ s m args below meth c H locs _ _ _ (F0 m 44 ls [.int (nI 0)])
                refine lv_if_eq (tgt := 67) hx hb dX5_weighChanges_44 (by decide) (fun _ => ?_) (fun c => absurd (show (nI 0) = 0 by decide +kernel) c)
                refine lv_iinc (v := (nI (k31 + 1))) (lv' := [(2, .int (nI (k31 + 1))), (0, .ref a0), (1, .int pl)]) hx hb dX5_weighChanges_67 hl (k := 0) rfl (nI_1 _) (by decide) rfl (fun ls hl => ?_)
                refine lv_goto (tgt := 31) hx hb dX5_weighChanges_70 (by decide) ?_
                exact ih_31 (k31 + 1) gd (by omega) (by omega) _ _ _ V (lv_sub hl [0, 1, 2] rfl)
        exact L_3 _ 0 gc (by omega) (Nat.lt_succ_self _) _ _ _ V (lv_sub hl [0, 1, 2] rfl)
      · skip
        have c_2 := b_nle (by omega) (by omega) c_2
        refine lv_aload_n hx hb dX5_weighChanges_10 rfl (lv_at hl 1 rfl) ?_
        refine g_get hC V (ci := 5) uwX5 0 rfl rfl 14 (by decide) w_86 rfl rfl dX5_weighChanges_11 ?_
        refine lv_iload_n hx hb dX5_weighChanges_14 rfl (lv_at hl 0 rfl) ?_
        refine lv_aload_n hx hb dX5_weighChanges_15 rfl (lv_at hl 1 rfl) ?_
        refine g_get hC V (ci := 5) uwX5 0 rfl rfl 6 (by decide) w_56 rfl rfl dX5_weighChanges_16 ?_
        refine lv_iload_n hx hb dX5_weighChanges_19 rfl (lv_at hl 0 rfl) ?_
        refine g_iald hC V 2 rfl (vp_in_nI (by omega) (by omega)) (v := (af2 k2)) (congrArg _ (nI_clamp (by omega))) dX5_weighChanges_20 ?_
        refine lv_ineg hx hb dX5_weighChanges_21 ?_
        refine g_iast hC V 4 rfl (vp_in_nI (by omega) (by omega)) (f' := (upd gc k2 (-(af2 k2)))) (by rw [nI_clamp (by omega)]) (ws' := [(a0, .inr (5, [.int (nI an), .int am, .int al, .int ao, .int au, .ref a1, .ref a2, .ref a3, .ref a4, .ref a5, .ref a6, .ref a7, .ref a8, .ref a9, .ref a10])), (a1, .inl (T 0, 10, .inl af1)), (a2, .inl (T 0, 10, .inl af2)), (a9, .inl (T 0, 10, .inl af9)), (a10, .inl (T 0, 10, .inl (upd gc k2 (-(af2 k2)))))]) rfl dX5_weighChanges_22 (fun H locs V => ?_)
        refine lv_iinc (v := (nI (k2 + 1))) (lv' := [(2, .int (nI (k2 + 1))), (0, .ref a0), (1, .int pl)]) hx hb dX5_weighChanges_23 hl (k := 0) rfl (nI_1 _) (by decide) rfl (fun ls hl => ?_)
        refine lv_goto (tgt := 2) hx hb dX5_weighChanges_26 (by decide) ?_
        exact ih_2 (k2 + 1) (upd gc k2 (-(af2 k2))) (by omega) (by omega) _ _ _ V (lv_sub hl [0, 1, 2] rfl)
  exact L_1 _ 0 af10 (by omega) (Nat.lt_succ_self _) _ _ _ V (lv_sub hl [0, 1, 2] rfl)

def q_s_burn (T : Nat → ClassId) (a0 : Nat) (j : Nat) (an : Nat) (am : Int32) (al : Int32) (ao : Int32) (au : Int32) (a1 : Nat) (a2 : Nat) (a3 : Nat) (a4 : Nat) (a5 : Nat) (a6 : Nat) (a7 : Nat) (a8 : Nat) (a9 : Nat) (a10 : Nat) (af3 : Nat → Int32) (af5 : Nat → Int32) (af6 : Nat → Int32) (af7 : Nat → Int32) (af8 : Nat → Int32) : Option Value → va_W → Prop := fun rr ww => (∃ (u : Int32) (g7 : Nat → Int32) (g8 : Nat → Int32), rr = none ∧ ww = [(a0, .inr (5, [.int (nI an), .int am, .int al, .int ao, .int u, .ref a1, .ref a2, .ref a3, .ref a4, .ref a5, .ref a6, .ref a7, .ref a8, .ref a9, .ref a10])), (a3, .inl (T 0, 10, .inl af3)), (a5, .inl (T 0, 10, .inl af5)), (a6, .inl (T 0, 10, .inl af6)), (a7, .inl (T 0, 10, .inl g7)), (a8, .inl (T 0, 10, .inl g8))])
set_option maxHeartbeats 4000000 in
set_option maxRecDepth 100000 in
theorem s_burn (l : Launch) (D : va_G) (T : Nat → ClassId) (a0 : Nat) (j : Nat) (an : Nat) (am : Int32) (al : Int32) (ao : Int32) (au : Int32) (a1 : Nat) (a2 : Nat) (a3 : Nat) (a4 : Nat) (a5 : Nat) (a6 : Nat) (a7 : Nat) (a8 : Nat) (a9 : Nat) (a10 : Nat) (af3 : Nat → Int32) (af5 : Nat → Int32) (af6 : Nat → Int32) (af7 : Nat → Int32) (af8 : Nat → Int32) (h_j : j < 10) : Ct l yX5_burn cX5_burn 2 none 1 0 0 D T [.ref a0, .int (nI j)] [(a0, .inr (5, [.int (nI an), .int am, .int al, .int ao, .int au, .ref a1, .ref a2, .ref a3, .ref a4, .ref a5, .ref a6, .ref a7, .ref a8, .ref a9, .ref a10])), (a3, .inl (T 0, 10, .inl af3)), (a5, .inl (T 0, 10, .inl af5)), (a6, .inl (T 0, 10, .inl af6)), (a7, .inl (T 0, 10, .inl af7)), (a8, .inl (T 0, 10, .inl af8))] (q_s_burn T a0 j an am al ao au a1 a2 a3 a4 a5 a6 a7 a8 a9 a10 af3 af5 af6 af7 af8) := by
  refine Ct.of (cc := cX5_burn) (maxL := 2) (ret := none) (by decide) (Nat.le_of_ble_eq_true rfl) ?_
  intro p e s m args below meth c A ls hC hnm V hl
  obtain ⟨hx, hb, hr, hml, hown, hts, hlocks⟩ := id hC
  generalize hH : s.heap = H at V ⊢
  clear hH
  have hl : lv_has ls 2 [(0, .ref a0), (1, .int (nI j))] := hl
  generalize hlo : ([] : List Loc) = locs at V ⊢
  clear hlo
  refine lv_aload_n hx hb dX5_burn_0 rfl (lv_at hl 0 rfl) ?_
  refine lv_iload_n hx hb dX5_burn_1 rfl (lv_at hl 1 rfl) ?_
  refine g_callVU (nA := 1) hC V hl.1 (s_isDone l D T a0 j an am al ao au a1 a2 a3 a4 a5 a6 a7 a8 a9 a10 af6 af7 (by first | assumption | omega)) w_477 w_430 w_431 w_3 w_432 (by decide +kernel) rfl ⟨(Nat.le_of_ble_eq_true rfl), (Nat.le_of_ble_eq_true rfl)⟩ 0 (ci := 5) rfl rfl [0, 3, 4] rfl rfl (Nat.le_of_ble_eq_true rfl) dX5_burn_2 ⟨(Nat.le_of_ble_eq_true rfl), (Nat.le_of_ble_eq_true rfl)⟩ rfl (fun r w1 H locs hQ V => ?_)
  rcases hQ with ⟨rfl, rfl, f_1⟩ | ⟨rfl, rfl, f_2⟩
  · have V : gW D T A s [(a0, .inr (5, [.int (nI an), .int am, .int al, .int ao, .int au, .ref a1, .ref a2, .ref a3, .ref a4, .ref a5, .ref a6, .ref a7, .ref a8, .ref a9, .ref a10])), (a3, .inl (T 0, 10, .inl af3)), (a5, .inl (T 0, 10, .inl af5)), (a6, .inl (T 0, 10, .inl af6)), (a7, .inl (T 0, 10, .inl af7)), (a8, .inl (T 0, 10, .inl af8))] H locs := V _ [0, 2, 0] rfl rfl rfl (by decide +kernel) rfl
    show W p l e _ s m args below meth c H locs _ _ _ (F0 m 5 ls [.int (nI 1)])
    refine lv_if_ne (tgt := 73) hx hb dX5_burn_5 (by decide) (fun _ => ?_) (fun c => absurd (show (nI 1) = 0 from c) (by decide +kernel))
    exact g_vret (Qr := (q_s_burn T a0 j an am al ao au a1 a2 a3 a4 a5 a6 a7 a8 a9 a10 af3 af5 af6 af7 af8)) hC V ⟨(Nat.le_of_ble_eq_true rfl), (Nat.le_of_ble_eq_true rfl)⟩ ⟨au, af7, af8, rfl, rfl⟩ dX5_burn_73
  · have V : gW D T A s [(a0, .inr (5, [.int (nI an), .int am, .int al, .int ao, .int au, .ref a1, .ref a2, .ref a3, .ref a4, .ref a5, .ref a6, .ref a7, .ref a8, .ref a9, .ref a10])), (a3, .inl (T 0, 10, .inl af3)), (a5, .inl (T 0, 10, .inl af5)), (a6, .inl (T 0, 10, .inl af6)), (a7, .inl (T 0, 10, .inl af7)), (a8, .inl (T 0, 10, .inl af8))] H locs := V _ [0, 2, 0] rfl rfl rfl (by decide +kernel) rfl
    show W p l e _ s m args below meth c H locs _ _ _ (F0 m 5 ls [.int (nI 0)])
    refine lv_if_ne (tgt := 73) hx hb dX5_burn_5 (by decide) (fun c => absurd (show (nI 0) = 0 by decide +kernel) c) (fun _ => ?_)
    refine lv_aload_n hx hb dX5_burn_8 rfl (lv_at hl 0 rfl) ?_
    refine g_get hC V (ci := 5) uwX5 0 rfl rfl 11 (by decide) w_77 rfl rfl dX5_burn_9 ?_
    refine lv_iload_n hx hb dX5_burn_12 rfl (lv_at hl 1 rfl) ?_
    refine g_iald hC V 4 rfl (vp_in_nI (by omega) (by omega)) (v := (af7 j)) (congrArg _ (nI_clamp (by omega))) dX5_burn_13 ?_
    refine lv_if_le (tgt := 73) hx hb dX5_burn_14 (by decide) (fun c_3 => ?_) (fun c_3 => ?_)
    · skip
      exact g_vret (Qr := (q_s_burn T a0 j an am al ao au a1 a2 a3 a4 a5 a6 a7 a8 a9 a10 af3 af5 af6 af7 af8)) hC V ⟨(Nat.le_of_ble_eq_true rfl), (Nat.le_of_ble_eq_true rfl)⟩ ⟨au, af7, af8, rfl, rfl⟩ dX5_burn_73
    · skip
      refine lv_aload_n hx hb dX5_burn_17 rfl (lv_at hl 0 rfl) ?_
      refine g_get hC V (ci := 5) uwX5 0 rfl rfl 7 (by decide) w_62 rfl rfl dX5_burn_18 ?_
      refine lv_iload_n hx hb dX5_burn_21 rfl (lv_at hl 1 rfl) ?_
      refine g_iald hC V 1 rfl (vp_in_nI (by omega) (by omega)) (v := (af3 j)) (congrArg _ (nI_clamp (by omega))) dX5_burn_22 ?_
      refine lv_aload_n hx hb dX5_burn_23 rfl (lv_at hl 0 rfl) ?_
      refine g_get hC V (ci := 5) uwX5 0 rfl rfl 9 (by decide) w_70 rfl rfl dX5_burn_24 ?_
      refine lv_iload_n hx hb dX5_burn_27 rfl (lv_at hl 1 rfl) ?_
      refine g_iald hC V 2 rfl (vp_in_nI (by omega) (by omega)) (v := (af5 j)) (congrArg _ (nI_clamp (by omega))) dX5_burn_28 ?_
      refine lv_icmp_le (tgt := 73) hx hb dX5_burn_29 (by decide) (fun c_4 => ?_) (fun c_4 => ?_)
      · skip
        exact g_vret (Qr := (q_s_burn T a0 j an am al ao au a1 a2 a3 a4 a5 a6 a7 a8 a9 a10 af3 af5 af6 af7 af8)) hC V ⟨(Nat.le_of_ble_eq_true rfl), (Nat.le_of_ble_eq_true rfl)⟩ ⟨au, af7, af8, rfl, rfl⟩ dX5_burn_73
      · skip
        refine lv_aload_n hx hb dX5_burn_32 rfl (lv_at hl 0 rfl) ?_
        refine g_get hC V (ci := 5) uwX5 0 rfl rfl 11 (by decide) w_77 rfl rfl dX5_burn_33 ?_
        refine lv_iload_n hx hb dX5_burn_36 rfl (lv_at hl 1 rfl) ?_
        refine lv_iconst (v := (nI 0)) hx hb dX5_burn_37 (by decide +kernel) ?_
        refine lv_aload_n hx hb dX5_burn_38 rfl (lv_at hl 0 rfl) ?_
        refine g_get hC V (ci := 5) uwX5 0 rfl rfl 11 (by decide) w_77 rfl rfl dX5_burn_39 ?_
        refine lv_iload_n hx hb dX5_burn_42 rfl (lv_at hl 1 rfl) ?_
        refine g_iald hC V 4 rfl (vp_in_nI (by omega) (by omega)) (v := (af7 j)) (congrArg _ (nI_clamp (by omega))) dX5_burn_43 ?_
        refine lv_aload_n hx hb dX5_burn_44 rfl (lv_at hl 0 rfl) ?_
        refine g_get hC V (ci := 5) uwX5 0 rfl rfl 3 (by decide) w_45 rfl rfl dX5_burn_45 ?_
        refine lv_isub hx hb dX5_burn_48 ?_
        refine va_mmax hx hb (hml.trans hl.1.symm) hown (hts _ w_496) (hts _ w_392) (hts _ w_10) (hts _ w_393) (Nat.le_of_ble_eq_true rfl) (Nat.le_of_ble_eq_true rfl) (Nat.le_of_ble_eq_true rfl) (Nat.le_of_ble_eq_true rfl) dX5_burn_49 ?_
        refine g_iast hC V 4 rfl (vp_in_nI (by omega) (by omega)) (f' := (upd af7 j (if (nI 0) < ((af7 j) - ao) then ((af7 j) - ao) else (nI 0)))) (by rw [nI_clamp (by omega)]) (ws' := [(a0, .inr (5, [.int (nI an), .int am, .int al, .int ao, .int au, .ref a1, .ref a2, .ref a3, .ref a4, .ref a5, .ref a6, .ref a7, .ref a8, .ref a9, .ref a10])), (a3, .inl (T 0, 10, .inl af3)), (a5, .inl (T 0, 10, .inl af5)), (a6, .inl (T 0, 10, .inl af6)), (a7, .inl (T 0, 10, .inl (upd af7 j (if (nI 0) < ((af7 j) - ao) then ((af7 j) - ao) else (nI 0))))), (a8, .inl (T 0, 10, .inl af8))]) rfl dX5_burn_52 (fun H locs V => ?_)
        refine lv_aload_n hx hb dX5_burn_53 rfl (lv_at hl 0 rfl) ?_
        refine g_get hC V (ci := 5) uwX5 0 rfl rfl 12 (by decide) w_80 rfl rfl dX5_burn_54 ?_
        refine lv_iload_n hx hb dX5_burn_57 rfl (lv_at hl 1 rfl) ?_
        refine lv_dup2_11 hx hb dX5_burn_58 rfl rfl ?_
        refine g_iald hC V 5 rfl (vp_in_nI (by omega) (by omega)) (v := (af8 j)) (congrArg _ (nI_clamp (by omega))) dX5_burn_59 ?_
        refine lv_iconst (v := (nI 1)) hx hb dX5_burn_60 (by decide +kernel) ?_
        refine lv_iadd hx hb dX5_burn_61 ?_
        refine g_iast hC V 5 rfl (vp_in_nI (by omega) (by omega)) (f' := (upd af8 j ((af8 j) + (nI 1)))) (by rw [nI_clamp (by omega)]) (ws' := [(a0, .inr (5, [.int (nI an), .int am, .int al, .int ao, .int au, .ref a1, .ref a2, .ref a3, .ref a4, .ref a5, .ref a6, .ref a7, .ref a8, .ref a9, .ref a10])), (a3, .inl (T 0, 10, .inl af3)), (a5, .inl (T 0, 10, .inl af5)), (a6, .inl (T 0, 10, .inl af6)), (a7, .inl (T 0, 10, .inl (upd af7 j (if (nI 0) < ((af7 j) - ao) then ((af7 j) - ao) else (nI 0))))), (a8, .inl (T 0, 10, .inl (upd af8 j ((af8 j) + (nI 1)))))]) rfl dX5_burn_62 (fun H locs V => ?_)
        refine lv_aload_n hx hb dX5_burn_63 rfl (lv_at hl 0 rfl) ?_
        refine lv_dup hx hb dX5_burn_64 rfl ?_
        refine g_get hC V (ci := 5) uwX5 0 rfl rfl 4 (by decide) w_49 rfl rfl dX5_burn_65 ?_
        refine lv_iconst (v := (nI 1)) hx hb dX5_burn_68 (by decide +kernel) ?_
        refine lv_iadd hx hb dX5_burn_69 ?_
        refine g_put hC V (ci := 5) uwX5 tyX5 tyX5_ok nmX5 0 rfl rfl 4 (by decide) w_49 rfl rfl rfl rfl (Nat.le_of_ble_eq_true rfl) (ws' := [(a0, .inr (5, [.int (nI an), .int am, .int al, .int ao, .int (au + (nI 1)), .ref a1, .ref a2, .ref a3, .ref a4, .ref a5, .ref a6, .ref a7, .ref a8, .ref a9, .ref a10])), (a3, .inl (T 0, 10, .inl af3)), (a5, .inl (T 0, 10, .inl af5)), (a6, .inl (T 0, 10, .inl af6)), (a7, .inl (T 0, 10, .inl (upd af7 j (if (nI 0) < ((af7 j) - ao) then ((af7 j) - ao) else (nI 0))))), (a8, .inl (T 0, 10, .inl (upd af8 j ((af8 j) + (nI 1)))))]) rfl dX5_burn_70 (fun H locs V => ?_)
        exact g_vret (Qr := (q_s_burn T a0 j an am al ao au a1 a2 a3 a4 a5 a6 a7 a8 a9 a10 af3 af5 af6 af7 af8)) hC V ⟨(Nat.le_of_ble_eq_true rfl), (Nat.le_of_ble_eq_true rfl)⟩ ⟨(au + (nI 1)), (upd af7 j (if (nI 0) < ((af7 j) - ao) then ((af7 j) - ao) else (nI 0))), (upd af8 j ((af8 j) + (nI 1))), rfl, rfl⟩ dX5_burn_73

def q_s_bears (T : Nat → ClassId) (a0 : Nat) (j : Nat) (b : Int32) (an : Nat) (am : Int32) (al : Int32) (ao : Int32) (au : Int32) (a1 : Nat) (a2 : Nat) (a3 : Nat) (a4 : Nat) (a5 : Nat) (a6 : Nat) (a7 : Nat) (a8 : Nat) (a9 : Nat) (a10 : Nat) (af3 : Nat → Int32) (af5 : Nat → Int32) : Option Value → va_W → Prop := fun rr ww => (rr = some (.int (nI 1)) ∧ ww = [(a0, .inr (5, [.int (nI an), .int am, .int al, .int ao, .int au, .ref a1, .ref a2, .ref a3, .ref a4, .ref a5, .ref a6, .ref a7, .ref a8, .ref a9, .ref a10])), (a3, .inl (T 0, 10, .inl af3)), (a5, .inl (T 0, 10, .inl af5))]) ∨ (rr = some (.int (nI 0)) ∧ ww = [(a0, .inr (5, [.int (nI an), .int am, .int al, .int ao, .int au, .ref a1, .ref a2, .ref a3, .ref a4, .ref a5, .ref a6, .ref a7, .ref a8, .ref a9, .ref a10])), (a3, .inl (T 0, 10, .inl af3)), (a5, .inl (T 0, 10, .inl af5))])
set_option maxHeartbeats 4000000 in
set_option maxRecDepth 100000 in
theorem s_bears (l : Launch) (D : va_G) (T : Nat → ClassId) (a0 : Nat) (j : Nat) (b : Int32) (an : Nat) (am : Int32) (al : Int32) (ao : Int32) (au : Int32) (a1 : Nat) (a2 : Nat) (a3 : Nat) (a4 : Nat) (a5 : Nat) (a6 : Nat) (a7 : Nat) (a8 : Nat) (a9 : Nat) (a10 : Nat) (af3 : Nat → Int32) (af5 : Nat → Int32) (h_j : j < 10) : Ct l yX5_bears cX5_bears 3 (some .boolean) 0 0 0 D T [.ref a0, .int (nI j), .int b] [(a0, .inr (5, [.int (nI an), .int am, .int al, .int ao, .int au, .ref a1, .ref a2, .ref a3, .ref a4, .ref a5, .ref a6, .ref a7, .ref a8, .ref a9, .ref a10])), (a3, .inl (T 0, 10, .inl af3)), (a5, .inl (T 0, 10, .inl af5))] (q_s_bears T a0 j b an am al ao au a1 a2 a3 a4 a5 a6 a7 a8 a9 a10 af3 af5) := by
  refine Ct.of (cc := cX5_bears) (maxL := 3) (ret := (some .boolean)) (by decide) (Nat.le_of_ble_eq_true rfl) ?_
  intro p e s m args below meth c A ls hC hnm V hl
  obtain ⟨hx, hb, hr, hml, hown, hts, hlocks⟩ := id hC
  generalize hH : s.heap = H at V ⊢
  clear hH
  have hl : lv_has ls 3 [(0, .ref a0), (1, .int (nI j)), (2, .int b)] := hl
  generalize hlo : ([] : List Loc) = locs at V ⊢
  clear hlo
  refine lv_aload_n hx hb dX5_bears_0 rfl (lv_at hl 0 rfl) ?_
  refine g_get hC V (ci := 5) uwX5 0 rfl rfl 7 (by decide) w_62 rfl rfl dX5_bears_1 ?_
  refine lv_iload_n hx hb dX5_bears_4 rfl (lv_at hl 1 rfl) ?_
  refine g_iald hC V 1 rfl (vp_in_nI (by omega) (by omega)) (v := (af3 j)) (congrArg _ (nI_clamp (by omega))) dX5_bears_5 ?_
  refine lv_iload_n hx hb dX5_bears_6 rfl (lv_at hl 2 rfl) ?_
  refine lv_iadd hx hb dX5_bears_7 ?_
  refine lv_aload_n hx hb dX5_bears_8 rfl (lv_at hl 0 rfl) ?_
  refine g_get hC V (ci := 5) uwX5 0 rfl rfl 9 (by decide) w_70 rfl rfl dX5_bears_9 ?_
  refine lv_iload_n hx hb dX5_bears_12 rfl (lv_at hl 1 rfl) ?_
  refine g_iald hC V 2 rfl (vp_in_nI (by omega) (by omega)) (v := (af5 j)) (congrArg _ (nI_clamp (by omega))) dX5_bears_13 ?_
  refine lv_icmp_gt (tgt := 21) hx hb dX5_bears_14 (by decide) (fun c_1 => ?_) (fun c_1 => ?_)
  · skip
    refine lv_iconst (v := (nI 0)) hx hb dX5_bears_21 (by decide +kernel) ?_
    exact g_zret (Qr := (q_s_bears T a0 j b an am al ao au a1 a2 a3 a4 a5 a6 a7 a8 a9 a10 af3 af5)) hC V ⟨(Nat.le_of_ble_eq_true rfl), (Nat.le_of_ble_eq_true rfl)⟩ (by first | decide +kernel | exact rfl) (.inr ⟨rfl, rfl⟩) dX5_bears_22
  · skip
    refine lv_iconst (v := (nI 1)) hx hb dX5_bears_17 (by decide +kernel) ?_
    refine lv_goto (tgt := 22) hx hb dX5_bears_18 (by decide) ?_
    exact g_zret (Qr := (q_s_bears T a0 j b an am al ao au a1 a2 a3 a4 a5 a6 a7 a8 a9 a10 af3 af5)) hC V ⟨(Nat.le_of_ble_eq_true rfl), (Nat.le_of_ble_eq_true rfl)⟩ (by first | decide +kernel | exact rfl) (.inl ⟨rfl, rfl⟩) dX5_bears_22

def q_s_pass (T : Nat → ClassId) (a0 : Nat) (pl : Int32) (sk : Int32) (sf : Int32) (sb : Int32) (an : Nat) (am : Int32) (al : Int32) (ao : Int32) (au : Int32) (a1 : Nat) (a2 : Nat) (a3 : Nat) (a4 : Nat) (a5 : Nat) (a6 : Nat) (a7 : Nat) (a8 : Nat) (a9 : Nat) (a10 : Nat) (af1 : Nat → Int32) (af2 : Nat → Int32) (af3 : Nat → Int32) (af4 : Nat → Int32) (af5 : Nat → Int32) (af6 : Nat → Int32) (af7 : Nat → Int32) (af8 : Nat → Int32) (af9 : Nat → Int32) (af10 : Nat → Int32) : Option Value → va_W → Prop := fun rr ww => (∃ (z : Int32) (u : Int32) (g3 : Nat → Int32) (g7 : Nat → Int32) (g8 : Nat → Int32) (g10 : Nat → Int32), rr = some (.int z) ∧ ww = [(a0, .inr (5, [.int (nI an), .int (am + (nI 1)), .int al, .int ao, .int u, .ref a1, .ref a2, .ref a3, .ref a4, .ref a5, .ref a6, .ref a7, .ref a8, .ref a9, .ref a10])), (a1, .inl (T 0, 10, .inl af1)), (a2, .inl (T 0, 10, .inl af2)), (a3, .inl (T 0, 10, .inl g3)), (a4, .inl (T 0, 10, .inl af4)), (a5, .inl (T 0, 10, .inl af5)), (a6, .inl (T 0, 10, .inl af6)), (a7, .inl (T 0, 10, .inl g7)), (a8, .inl (T 0, 10, .inl g8)), (a9, .inl (T 0, 10, .inl af9)), (a10, .inl (T 0, 10, .inl g10))])
set_option maxHeartbeats 4000000 in
set_option maxRecDepth 100000 in
theorem s_pass (l : Launch) (D : va_G) (T : Nat → ClassId) (a0 : Nat) (pl : Int32) (sk : Int32) (sf : Int32) (sb : Int32) (an : Nat) (am : Int32) (al : Int32) (ao : Int32) (au : Int32) (a1 : Nat) (a2 : Nat) (a3 : Nat) (a4 : Nat) (a5 : Nat) (a6 : Nat) (a7 : Nat) (a8 : Nat) (a9 : Nat) (a10 : Nat) (af1 : Nat → Int32) (af2 : Nat → Int32) (af3 : Nat → Int32) (af4 : Nat → Int32) (af5 : Nat → Int32) (af6 : Nat → Int32) (af7 : Nat → Int32) (af8 : Nat → Int32) (af9 : Nat → Int32) (af10 : Nat → Int32) (h_n : an ≤ 10) (h_t : ∀ i, i < an → bd (af9 i) an) : Ct l yX5_pass cX5_pass 7 (some .int) 2 0 0 D T [.ref a0, .int pl, .int sk, .int sf, .int sb] [(a0, .inr (5, [.int (nI an), .int am, .int al, .int ao, .int au, .ref a1, .ref a2, .ref a3, .ref a4, .ref a5, .ref a6, .ref a7, .ref a8, .ref a9, .ref a10])), (a1, .inl (T 0, 10, .inl af1)), (a2, .inl (T 0, 10, .inl af2)), (a3, .inl (T 0, 10, .inl af3)), (a4, .inl (T 0, 10, .inl af4)), (a5, .inl (T 0, 10, .inl af5)), (a6, .inl (T 0, 10, .inl af6)), (a7, .inl (T 0, 10, .inl af7)), (a8, .inl (T 0, 10, .inl af8)), (a9, .inl (T 0, 10, .inl af9)), (a10, .inl (T 0, 10, .inl af10))] (q_s_pass T a0 pl sk sf sb an am al ao au a1 a2 a3 a4 a5 a6 a7 a8 a9 a10 af1 af2 af3 af4 af5 af6 af7 af8 af9 af10) := by
  refine Ct.of (cc := cX5_pass) (maxL := 7) (ret := (some .int)) (by decide) (Nat.le_of_ble_eq_true rfl) ?_
  intro p e s m args below meth c A ls hC hnm V hl
  obtain ⟨hx, hb, hr, hml, hown, hts, hlocks⟩ := id hC
  generalize hH : s.heap = H at V ⊢
  clear hH
  have hl : lv_has ls 7 [(0, .ref a0), (1, .int pl), (2, .int sk), (3, .int sf), (4, .int sb)] := hl
  generalize hlo : ([] : List Loc) = locs at V ⊢
  clear hlo
  refine lv_iconst (v := (nI 0)) hx hb dX5_pass_0 (by decide +kernel) ?_
  refine lv_istore (lv' := [(5, .int (nI 0)), (0, .ref a0), (1, .int pl), (2, .int sk), (3, .int sf), (4, .int sb)]) hx hb dX5_pass_1 hl (by decide) rfl (fun ls hl => ?_)
  refine lv_iconst (v := (nI 0)) hx hb dX5_pass_3 (by decide +kernel) ?_
  refine lv_istore (lv' := [(6, .int (nI 0)), (5, .int (nI 0)), (0, .ref a0), (1, .int pl), (2, .int sk), (3, .int sf), (4, .int sb)]) hx hb dX5_pass_4 hl (by decide) rfl (fun ls hl => ?_)
  have L_1 : ∀ (fu : Nat) (k6 : Nat) (x6_5 : Int32) (ga : Nat → Int32), k6 ≤ an → an - k6 < fu → ∀ (H : Heap) (locs : List Loc) (ls : Array Slot), gW D T A s [(a0, .inr (5, [.int (nI an), .int am, .int al, .int ao, .int au, .ref a1, .ref a2, .ref a3, .ref a4, .ref a5, .ref a6, .ref a7, .ref a8, .ref a9, .ref a10])), (a1, .inl (T 0, 10, .inl af1)), (a2, .inl (T 0, 10, .inl af2)), (a3, .inl (T 0, 10, .inl af3)), (a4, .inl (T 0, 10, .inl af4)), (a5, .inl (T 0, 10, .inl af5)), (a6, .inl (T 0, 10, .inl af6)), (a7, .inl (T 0, 10, .inl ga)), (a8, .inl (T 0, 10, .inl af8)), (a9, .inl (T 0, 10, .inl af9)), (a10, .inl (T 0, 10, .inl af10))] H locs → lv_has ls 7 [(6, .int (nI k6)), (5, .int x6_5), (0, .ref a0), (1, .int pl), (2, .int sk), (3, .int sf), (4, .int sb)] → W p l e (rmD 2 0 0) s m args below meth c H locs 0 0 (MQ below (gQ D A (q_s_pass T a0 pl sk sf sb an am al ao au a1 a2 a3 a4 a5 a6 a7 a8 a9 a10 af1 af2 af3 af4 af5 af6 af7 af8 af9 af10)) args s 0 0 A) (F0 m 6 ls []) := by
    intro fu_6
    induction fu_6 with
    | zero => intro k6 x6_5 ga hk6 hmu; exact absurd hmu (Nat.not_lt_zero _)
    | succ fu_6 ih_6 =>
      intro k6 x6_5 ga hk6 hmu_6 H locs ls V hl
      refine lv_iload hx hb dX5_pass_6 (lv_at hl 0 rfl) ?_
      refine lv_aload_n hx hb dX5_pass_8 rfl (lv_at hl 2 rfl) ?_
      refine g_get hC V (ci := 5) uwX5 0 rfl rfl 0 (by decide) w_33 rfl rfl dX5_pass_9 ?_
      refine lv_icmp_ge (tgt := 53) hx hb dX5_pass_12 (by decide) (fun c_2 => ?_) (fun c_2 => ?_)
      · skip
        have c_2 := b_le (by omega) (by omega) c_2
        refine lv_aload_n hx hb dX5_pass_53 rfl (lv_at hl 2 rfl) ?_
        refine lv_iload_n hx hb dX5_pass_54 rfl (lv_at hl 3 rfl) ?_
        refine g_callVU (nA := 1) hC V hl.1 (s_weighChanges l D T a0 pl an am al ao au a1 a2 a3 a4 a5 a6 a7 a8 a9 a10 af1 af2 af9 af10 (by first | assumption | omega) (by first | assumption | omega)) w_482 w_484 w_s9 w_3 w_485 (by decide +kernel) rfl ⟨(Nat.le_of_ble_eq_true rfl), (Nat.le_of_ble_eq_true rfl)⟩ 0 (ci := 5) rfl rfl [0, 1, 2, 9, 10] rfl rfl (Nat.le_of_ble_eq_true rfl) dX5_pass_55 ⟨(Nat.le_of_ble_eq_true rfl), (Nat.le_of_ble_eq_true rfl)⟩ rfl (fun r w1 H locs hQ V => ?_)
        obtain ⟨g10_3, rfl, rfl⟩ := hQ
        have V : gW D T A s [(a0, .inr (5, [.int (nI an), .int am, .int al, .int ao, .int au, .ref a1, .ref a2, .ref a3, .ref a4, .ref a5, .ref a6, .ref a7, .ref a8, .ref a9, .ref a10])), (a1, .inl (T 0, 10, .inl af1)), (a2, .inl (T 0, 10, .inl af2)), (a3, .inl (T 0, 10, .inl af3)), (a4, .inl (T 0, 10, .inl af4)), (a5, .inl (T 0, 10, .inl af5)), (a6, .inl (T 0, 10, .inl af6)), (a7, .inl (T 0, 10, .inl ga)), (a8, .inl (T 0, 10, .inl af8)), (a9, .inl (T 0, 10, .inl af9)), (a10, .inl (T 0, 10, .inl g10_3))] H locs := V _ [0, 0, 0, 6, 0] rfl rfl rfl (by decide +kernel) rfl
        show W p l e _ s m args below meth c H locs _ _ _ (F0 m 58 ls [])
        refine lv_aload_n hx hb dX5_pass_58 rfl (lv_at hl 2 rfl) ?_
        refine lv_iload_n hx hb dX5_pass_59 rfl (lv_at hl 5 rfl) ?_
        refine g_callVU (nA := 1) hC V hl.1 (s_isSmith l D T a0 sf an am al ao au a1 a2 a3 a4 a5 a6 a7 a8 a9 a10 (by first | assumption | omega)) w_486 w_426 w_427 w_3 w_428 (by decide +kernel) rfl ⟨(Nat.le_of_ble_eq_true rfl), (Nat.le_of_ble_eq_true rfl)⟩ 0 (ci := 5) rfl rfl [0] rfl rfl (Nat.le_of_ble_eq_true rfl) dX5_pass_60 ⟨(Nat.le_of_ble_eq_true rfl), (Nat.le_of_ble_eq_true rfl)⟩ rfl (fun r w1 H locs hQ V => ?_)
        rcases hQ with ⟨j_4, rfl, rfl, f_5, f_6⟩ | ⟨rfl, rfl, f_7⟩
        · have V : gW D T A s [(a0, .inr (5, [.int (nI an), .int am, .int al, .int ao, .int au, .ref a1, .ref a2, .ref a3, .ref a4, .ref a5, .ref a6, .ref a7, .ref a8, .ref a9, .ref a10])), (a1, .inl (T 0, 10, .inl af1)), (a2, .inl (T 0, 10, .inl af2)), (a3, .inl (T 0, 10, .inl af3)), (a4, .inl (T 0, 10, .inl af4)), (a5, .inl (T 0, 10, .inl af5)), (a6, .inl (T 0, 10, .inl af6)), (a7, .inl (T 0, 10, .inl ga)), (a8, .inl (T 0, 10, .inl af8)), (a9, .inl (T 0, 10, .inl af9)), (a10, .inl (T 0, 10, .inl g10_3))] H locs := V _ [0] rfl rfl rfl (by decide +kernel) rfl
          show W p l e _ s m args below meth c H locs _ _ _ (F0 m 63 ls [.int (nI 1)])
          rw [f_5] at hl
          refine lv_if_eq (tgt := 77) hx hb dX5_pass_63 (by decide) (fun c => absurd (show (nI 1) = 0 from c) (by decide +kernel)) (fun _ => ?_)
          refine lv_aload_n hx hb dX5_pass_66 rfl (lv_at hl 2 rfl) ?_
          refine g_get hC V (ci := 5) uwX5 0 rfl rfl 14 (by decide) w_86 rfl rfl dX5_pass_67 ?_
          refine lv_iload_n hx hb dX5_pass_70 rfl (lv_at hl 5 rfl) ?_
          refine lv_dup2_11 hx hb dX5_pass_71 rfl rfl ?_
          refine g_iald hC V 10 rfl (vp_in_nI (by omega) (by omega)) (v := (g10_3 j_4)) (congrArg _ (nI_clamp (by omega))) dX5_pass_72 ?_
          refine lv_iload hx hb dX5_pass_73 (lv_at hl 6 rfl) ?_
          refine lv_iadd hx hb dX5_pass_75 ?_
          refine g_iast hC V 10 rfl (vp_in_nI (by omega) (by omega)) (f' := (upd g10_3 j_4 ((g10_3 j_4) + sb))) (by rw [nI_clamp (by omega)]) (ws' := [(a0, .inr (5, [.int (nI an), .int am, .int al, .int ao, .int au, .ref a1, .ref a2, .ref a3, .ref a4, .ref a5, .ref a6, .ref a7, .ref a8, .ref a9, .ref a10])), (a1, .inl (T 0, 10, .inl af1)), (a2, .inl (T 0, 10, .inl af2)), (a3, .inl (T 0, 10, .inl af3)), (a4, .inl (T 0, 10, .inl af4)), (a5, .inl (T 0, 10, .inl af5)), (a6, .inl (T 0, 10, .inl af6)), (a7, .inl (T 0, 10, .inl ga)), (a8, .inl (T 0, 10, .inl af8)), (a9, .inl (T 0, 10, .inl af9)), (a10, .inl (T 0, 10, .inl (upd g10_3 j_4 ((g10_3 j_4) + sb))))]) rfl dX5_pass_76 (fun H locs V => ?_)
          refine lv_iconst (v := (nI 0)) hx hb dX5_pass_77 (by decide +kernel) ?_
          refine lv_istore (lv' := [(6, .int (nI 0)), (5, .int x6_5), (0, .ref a0), (1, .int pl), (2, .int sk), (3, .int (nI j_4)), (4, .int sb)]) hx hb dX5_pass_78 hl (by decide) rfl (fun ls hl => ?_)
          have L_8 : ∀ (fu : Nat) (k80 : Nat) (uv : Int32) (gb : Nat → Int32) (gc : Nat → Int32) (gd : Nat → Int32), k80 ≤ an → an - k80 < fu → ∀ (H : Heap) (locs : List Loc) (ls : Array Slot), gW D T A s [(a0, .inr (5, [.int (nI an), .int am, .int al, .int ao, .int uv, .ref a1, .ref a2, .ref a3, .ref a4, .ref a5, .ref a6, .ref a7, .ref a8, .ref a9, .ref a10])), (a1, .inl (T 0, 10, .inl af1)), (a2, .inl (T 0, 10, .inl af2)), (a3, .inl (T 0, 10, .inl gb)), (a4, .inl (T 0, 10, .inl af4)), (a5, .inl (T 0, 10, .inl af5)), (a6, .inl (T 0, 10, .inl af6)), (a7, .inl (T 0, 10, .inl gc)), (a8, .inl (T 0, 10, .inl gd)), (a9, .inl (T 0, 10, .inl af9)), (a10, .inl (T 0, 10, .inl (upd g10_3 j_4 ((g10_3 j_4) + sb))))] H locs → lv_has ls 7 [(6, .int (nI k80)), (5, .int x6_5), (0, .ref a0), (1, .int pl), (2, .int sk), (3, .int (nI j_4)), (4, .int sb)] → W p l e (rmD 2 0 0) s m args below meth c H locs 0 0 (MQ below (gQ D A (q_s_pass T a0 pl sk sf sb an am al ao au a1 a2 a3 a4 a5 a6 a7 a8 a9 a10 af1 af2 af3 af4 af5 af6 af7 af8 af9 af10)) args s 0 0 A) (F0 m 80 ls []) := by
            intro fu_80
            induction fu_80 with
            | zero => intro k80 uv gb gc gd hk80 hmu; exact absurd hmu (Nat.not_lt_zero _)
            | succ fu_80 ih_80 =>
              intro k80 uv gb gc gd hk80 hmu_80 H locs ls V hl
              refine lv_iload hx hb dX5_pass_80 (lv_at hl 0 rfl) ?_
              refine lv_aload_n hx hb dX5_pass_82 rfl (lv_at hl 2 rfl) ?_
              refine g_get hC V (ci := 5) uwX5 0 rfl rfl 0 (by decide) w_33 rfl rfl dX5_pass_83 ?_
              refine lv_icmp_ge (tgt := 126) hx hb dX5_pass_86 (by decide) (fun c_9 => ?_) (fun c_9 => ?_)
              · skip
                have c_9 := b_le (by omega) (by omega) c_9
                refine lv_aload_n hx hb dX5_pass_126 rfl (lv_at hl 2 rfl) ?_
                refine lv_dup hx hb dX5_pass_127 rfl ?_
                refine g_get hC V (ci := 5) uwX5 0 rfl rfl 1 (by decide) w_39 rfl rfl dX5_pass_128 ?_
                refine lv_iconst (v := (nI 1)) hx hb dX5_pass_131 (by decide +kernel) ?_
                refine lv_iadd hx hb dX5_pass_132 ?_
                refine g_put hC V (ci := 5) uwX5 tyX5 tyX5_ok nmX5 0 rfl rfl 1 (by decide) w_39 rfl rfl rfl rfl (Nat.le_of_ble_eq_true rfl) (ws' := [(a0, .inr (5, [.int (nI an), .int (am + (nI 1)), .int al, .int ao, .int uv, .ref a1, .ref a2, .ref a3, .ref a4, .ref a5, .ref a6, .ref a7, .ref a8, .ref a9, .ref a10])), (a1, .inl (T 0, 10, .inl af1)), (a2, .inl (T 0, 10, .inl af2)), (a3, .inl (T 0, 10, .inl gb)), (a4, .inl (T 0, 10, .inl af4)), (a5, .inl (T 0, 10, .inl af5)), (a6, .inl (T 0, 10, .inl af6)), (a7, .inl (T 0, 10, .inl gc)), (a8, .inl (T 0, 10, .inl gd)), (a9, .inl (T 0, 10, .inl af9)), (a10, .inl (T 0, 10, .inl (upd g10_3 j_4 ((g10_3 j_4) + sb))))]) rfl dX5_pass_133 (fun H locs V => ?_)
                refine lv_iload hx hb dX5_pass_136 (lv_at hl 1 rfl) ?_
                exact g_iret (Qr := (q_s_pass T a0 pl sk sf sb an am al ao au a1 a2 a3 a4 a5 a6 a7 a8 a9 a10 af1 af2 af3 af4 af5 af6 af7 af8 af9 af10)) hC V ⟨(Nat.le_of_ble_eq_true rfl), (Nat.le_of_ble_eq_true rfl)⟩ ⟨x6_5, uv, gb, gc, gd, (upd g10_3 j_4 ((g10_3 j_4) + sb)), rfl, rfl⟩ dX5_pass_138
              · skip
                have c_9 := b_nle (by omega) (by omega) c_9
                refine lv_aload_n hx hb dX5_pass_89 rfl (lv_at hl 2 rfl) ?_
                refine g_get hC V (ci := 5) uwX5 0 rfl rfl 7 (by decide) w_62 rfl rfl dX5_pass_90 ?_
                refine lv_iload hx hb dX5_pass_93 (lv_at hl 0 rfl) ?_
                refine lv_aload_n hx hb dX5_pass_95 rfl (lv_at hl 2 rfl) ?_
                refine g_get hC V (ci := 5) uwX5 0 rfl rfl 7 (by decide) w_62 rfl rfl dX5_pass_96 ?_
                refine lv_iload hx hb dX5_pass_99 (lv_at hl 0 rfl) ?_
                refine g_iald hC V 3 rfl (vp_in_nI (by omega) (by omega)) (v := (gb k80)) (congrArg _ (nI_clamp (by omega))) dX5_pass_101 ?_
                refine lv_aload_n hx hb dX5_pass_102 rfl (lv_at hl 2 rfl) ?_
                refine g_get hC V (ci := 5) uwX5 0 rfl rfl 14 (by decide) w_86 rfl rfl dX5_pass_103 ?_
                refine lv_iload hx hb dX5_pass_106 (lv_at hl 0 rfl) ?_
                refine g_iald hC V 10 rfl (vp_in_nI (by omega) (by omega)) (v := ((upd g10_3 j_4 ((g10_3 j_4) + sb)) k80)) (congrArg _ (nI_clamp (by omega))) dX5_pass_108 ?_
                refine lv_iadd hx hb dX5_pass_109 ?_
                refine g_callSNU (nA := 1) (host := RX7) hC V hl.1 (c_bounded l D T ((gb k80) + ((upd g10_3 j_4 ((g10_3 j_4) + sb)) k80))) w_489 (List.mem_of_getElem? (i := 14) rfl) w_2 w_488 (by decide +kernel) rfl ⟨(Nat.le_of_ble_eq_true rfl), (Nat.le_of_ble_eq_true rfl)⟩ [] rfl rfl (Nat.le_of_ble_eq_true rfl) dX5_pass_110 ⟨(Nat.le_of_ble_eq_true rfl), (Nat.le_of_ble_eq_true rfl)⟩ rfl (fun r w1 H locs hQ V => ?_)
                obtain ⟨z_10, rfl, rfl⟩ := hQ
                have V : gW D T A s [(a0, .inr (5, [.int (nI an), .int am, .int al, .int ao, .int uv, .ref a1, .ref a2, .ref a3, .ref a4, .ref a5, .ref a6, .ref a7, .ref a8, .ref a9, .ref a10])), (a1, .inl (T 0, 10, .inl af1)), (a2, .inl (T 0, 10, .inl af2)), (a3, .inl (T 0, 10, .inl gb)), (a4, .inl (T 0, 10, .inl af4)), (a5, .inl (T 0, 10, .inl af5)), (a6, .inl (T 0, 10, .inl af6)), (a7, .inl (T 0, 10, .inl gc)), (a8, .inl (T 0, 10, .inl gd)), (a9, .inl (T 0, 10, .inl af9)), (a10, .inl (T 0, 10, .inl (upd g10_3 j_4 ((g10_3 j_4) + sb))))] H locs := V _ [] rfl rfl rfl (by decide +kernel) rfl
                show W p l e _ s m args below meth c H locs _ _ _ (F0 m 113 ls [.int z_10, .int (nI k80), .ref a3])
                refine g_iast hC V 3 rfl (vp_in_nI (by omega) (by omega)) (f' := (upd gb k80 z_10)) (by rw [nI_clamp (by omega)]) (ws' := [(a0, .inr (5, [.int (nI an), .int am, .int al, .int ao, .int uv, .ref a1, .ref a2, .ref a3, .ref a4, .ref a5, .ref a6, .ref a7, .ref a8, .ref a9, .ref a10])), (a1, .inl (T 0, 10, .inl af1)), (a2, .inl (T 0, 10, .inl af2)), (a3, .inl (T 0, 10, .inl (upd gb k80 z_10))), (a4, .inl (T 0, 10, .inl af4)), (a5, .inl (T 0, 10, .inl af5)), (a6, .inl (T 0, 10, .inl af6)), (a7, .inl (T 0, 10, .inl gc)), (a8, .inl (T 0, 10, .inl gd)), (a9, .inl (T 0, 10, .inl af9)), (a10, .inl (T 0, 10, .inl (upd g10_3 j_4 ((g10_3 j_4) + sb))))]) rfl dX5_pass_113 (fun H locs V => ?_)
                refine lv_aload_n hx hb dX5_pass_114 rfl (lv_at hl 2 rfl) ?_
                refine lv_iload hx hb dX5_pass_115 (lv_at hl 0 rfl) ?_
                refine g_callVU (nA := 1) hC V hl.1 (s_burn l D T a0 k80 an am al ao uv a1 a2 a3 a4 a5 a6 a7 a8 a9 a10 (upd gb k80 z_10) af5 af6 gc gd (by first | assumption | omega)) w_492 w_494 w_s10 w_3 w_495 (by decide +kernel) rfl ⟨(Nat.le_of_ble_eq_true rfl), (Nat.le_of_ble_eq_true rfl)⟩ 0 (ci := 5) rfl rfl [0, 3, 5, 6, 7, 8] rfl rfl (Nat.le_of_ble_eq_true rfl) dX5_pass_117 ⟨(Nat.le_of_ble_eq_true rfl), (Nat.le_of_ble_eq_true rfl)⟩ rfl (fun r w1 H locs hQ V => ?_)
                obtain ⟨u_11, g7_12, g8_13, rfl, rfl⟩ := hQ
                have V : gW D T A s [(a0, .inr (5, [.int (nI an), .int am, .int al, .int ao, .int u_11, .ref a1, .ref a2, .ref a3, .ref a4, .ref a5, .ref a6, .ref a7, .ref a8, .ref a9, .ref a10])), (a1, .inl (T 0, 10, .inl af1)), (a2, .inl (T 0, 10, .inl af2)), (a3, .inl (T 0, 10, .inl (upd gb k80 z_10))), (a4, .inl (T 0, 10, .inl af4)), (a5, .inl (T 0, 10, .inl af5)), (a6, .inl (T 0, 10, .inl af6)), (a7, .inl (T 0, 10, .inl g7_12)), (a8, .inl (T 0, 10, .inl g8_13)), (a9, .inl (T 0, 10, .inl af9)), (a10, .inl (T 0, 10, .inl (upd g10_3 j_4 ((g10_3 j_4) + sb))))] H locs := V _ [0, 2, 1, 0, 0, 0] rfl rfl rfl (by decide +kernel) rfl
                show W p l e _ s m args below meth c H locs _ _ _ (F0 m 120 ls [])
                refine lv_iinc (v := (nI (k80 + 1))) (lv' := [(6, .int (nI (k80 + 1))), (5, .int x6_5), (0, .ref a0), (1, .int pl), (2, .int sk), (3, .int (nI j_4)), (4, .int sb)]) hx hb dX5_pass_120 hl (k := 0) rfl (nI_1 _) (by decide) rfl (fun ls hl => ?_)
                refine lv_goto (tgt := 80) hx hb dX5_pass_123 (by decide) ?_
                exact ih_80 (k80 + 1) u_11 (upd gb k80 z_10) g7_12 g8_13 (by omega) (by omega) _ _ _ V (lv_sub hl [0, 1, 2, 3, 4, 5, 6] rfl)
          exact L_8 _ 0 au af3 ga af8 (by omega) (Nat.lt_succ_self _) _ _ _ V (lv_sub hl [0, 1, 2, 3, 4, 5, 6] rfl)
        · have V : gW D T A s [(a0, .inr (5, [.int (nI an), .int am, .int al, .int ao, .int au, .ref a1, .ref a2, .ref a3, .ref a4, .ref a5, .ref a6, .ref a7, .ref a8, .ref a9, .ref a10])), (a1, .inl (T 0, 10, .inl af1)), (a2, .inl (T 0, 10, .inl af2)), (a3, .inl (T 0, 10, .inl af3)), (a4, .inl (T 0, 10, .inl af4)), (a5, .inl (T 0, 10, .inl af5)), (a6, .inl (T 0, 10, .inl af6)), (a7, .inl (T 0, 10, .inl ga)), (a8, .inl (T 0, 10, .inl af8)), (a9, .inl (T 0, 10, .inl af9)), (a10, .inl (T 0, 10, .inl g10_3))] H locs := V _ [0] rfl rfl rfl (by decide +kernel) rfl
          show W p l e _ s m args below meth c H locs _ _ _ (F0 m 63 ls [.int (nI 0)])
          refine lv_if_eq (tgt := 77) hx hb dX5_pass_63 (by decide) (fun _ => ?_) (fun c => absurd (show (nI 0) = 0 by decide +kernel) c)
          refine lv_iconst (v := (nI 0)) hx hb dX5_pass_77 (by decide +kernel) ?_
          refine lv_istore (lv' := [(6, .int (nI 0)), (5, .int x6_5), (0, .ref a0), (1, .int pl), (2, .int sk), (3, .int sf), (4, .int sb)]) hx hb dX5_pass_78 hl (by decide) rfl (fun ls hl => ?_)
          have L_14 : ∀ (fu : Nat) (k80 : Nat) (uv : Int32) (gb : Nat → Int32) (gc : Nat → Int32) (gd : Nat → Int32), k80 ≤ an → an - k80 < fu → ∀ (H : Heap) (locs : List Loc) (ls : Array Slot), gW D T A s [(a0, .inr (5, [.int (nI an), .int am, .int al, .int ao, .int uv, .ref a1, .ref a2, .ref a3, .ref a4, .ref a5, .ref a6, .ref a7, .ref a8, .ref a9, .ref a10])), (a1, .inl (T 0, 10, .inl af1)), (a2, .inl (T 0, 10, .inl af2)), (a3, .inl (T 0, 10, .inl gb)), (a4, .inl (T 0, 10, .inl af4)), (a5, .inl (T 0, 10, .inl af5)), (a6, .inl (T 0, 10, .inl af6)), (a7, .inl (T 0, 10, .inl gc)), (a8, .inl (T 0, 10, .inl gd)), (a9, .inl (T 0, 10, .inl af9)), (a10, .inl (T 0, 10, .inl g10_3))] H locs → lv_has ls 7 [(6, .int (nI k80)), (5, .int x6_5), (0, .ref a0), (1, .int pl), (2, .int sk), (3, .int sf), (4, .int sb)] → W p l e (rmD 2 0 0) s m args below meth c H locs 0 0 (MQ below (gQ D A (q_s_pass T a0 pl sk sf sb an am al ao au a1 a2 a3 a4 a5 a6 a7 a8 a9 a10 af1 af2 af3 af4 af5 af6 af7 af8 af9 af10)) args s 0 0 A) (F0 m 80 ls []) := by
            intro fu_80
            induction fu_80 with
            | zero => intro k80 uv gb gc gd hk80 hmu; exact absurd hmu (Nat.not_lt_zero _)
            | succ fu_80 ih_80 =>
              intro k80 uv gb gc gd hk80 hmu_80 H locs ls V hl
              refine lv_iload hx hb dX5_pass_80 (lv_at hl 0 rfl) ?_
              refine lv_aload_n hx hb dX5_pass_82 rfl (lv_at hl 2 rfl) ?_
              refine g_get hC V (ci := 5) uwX5 0 rfl rfl 0 (by decide) w_33 rfl rfl dX5_pass_83 ?_
              refine lv_icmp_ge (tgt := 126) hx hb dX5_pass_86 (by decide) (fun c_15 => ?_) (fun c_15 => ?_)
              · skip
                have c_15 := b_le (by omega) (by omega) c_15
                refine lv_aload_n hx hb dX5_pass_126 rfl (lv_at hl 2 rfl) ?_
                refine lv_dup hx hb dX5_pass_127 rfl ?_
                refine g_get hC V (ci := 5) uwX5 0 rfl rfl 1 (by decide) w_39 rfl rfl dX5_pass_128 ?_
                refine lv_iconst (v := (nI 1)) hx hb dX5_pass_131 (by decide +kernel) ?_
                refine lv_iadd hx hb dX5_pass_132 ?_
                refine g_put hC V (ci := 5) uwX5 tyX5 tyX5_ok nmX5 0 rfl rfl 1 (by decide) w_39 rfl rfl rfl rfl (Nat.le_of_ble_eq_true rfl) (ws' := [(a0, .inr (5, [.int (nI an), .int (am + (nI 1)), .int al, .int ao, .int uv, .ref a1, .ref a2, .ref a3, .ref a4, .ref a5, .ref a6, .ref a7, .ref a8, .ref a9, .ref a10])), (a1, .inl (T 0, 10, .inl af1)), (a2, .inl (T 0, 10, .inl af2)), (a3, .inl (T 0, 10, .inl gb)), (a4, .inl (T 0, 10, .inl af4)), (a5, .inl (T 0, 10, .inl af5)), (a6, .inl (T 0, 10, .inl af6)), (a7, .inl (T 0, 10, .inl gc)), (a8, .inl (T 0, 10, .inl gd)), (a9, .inl (T 0, 10, .inl af9)), (a10, .inl (T 0, 10, .inl g10_3))]) rfl dX5_pass_133 (fun H locs V => ?_)
                refine lv_iload hx hb dX5_pass_136 (lv_at hl 1 rfl) ?_
                exact g_iret (Qr := (q_s_pass T a0 pl sk sf sb an am al ao au a1 a2 a3 a4 a5 a6 a7 a8 a9 a10 af1 af2 af3 af4 af5 af6 af7 af8 af9 af10)) hC V ⟨(Nat.le_of_ble_eq_true rfl), (Nat.le_of_ble_eq_true rfl)⟩ ⟨x6_5, uv, gb, gc, gd, g10_3, rfl, rfl⟩ dX5_pass_138
              · skip
                have c_15 := b_nle (by omega) (by omega) c_15
                refine lv_aload_n hx hb dX5_pass_89 rfl (lv_at hl 2 rfl) ?_
                refine g_get hC V (ci := 5) uwX5 0 rfl rfl 7 (by decide) w_62 rfl rfl dX5_pass_90 ?_
                refine lv_iload hx hb dX5_pass_93 (lv_at hl 0 rfl) ?_
                refine lv_aload_n hx hb dX5_pass_95 rfl (lv_at hl 2 rfl) ?_
                refine g_get hC V (ci := 5) uwX5 0 rfl rfl 7 (by decide) w_62 rfl rfl dX5_pass_96 ?_
                refine lv_iload hx hb dX5_pass_99 (lv_at hl 0 rfl) ?_
                refine g_iald hC V 3 rfl (vp_in_nI (by omega) (by omega)) (v := (gb k80)) (congrArg _ (nI_clamp (by omega))) dX5_pass_101 ?_
                refine lv_aload_n hx hb dX5_pass_102 rfl (lv_at hl 2 rfl) ?_
                refine g_get hC V (ci := 5) uwX5 0 rfl rfl 14 (by decide) w_86 rfl rfl dX5_pass_103 ?_
                refine lv_iload hx hb dX5_pass_106 (lv_at hl 0 rfl) ?_
                refine g_iald hC V 10 rfl (vp_in_nI (by omega) (by omega)) (v := (g10_3 k80)) (congrArg _ (nI_clamp (by omega))) dX5_pass_108 ?_
                refine lv_iadd hx hb dX5_pass_109 ?_
                refine g_callSNU (nA := 1) (host := RX7) hC V hl.1 (c_bounded l D T ((gb k80) + (g10_3 k80))) w_489 (List.mem_of_getElem? (i := 14) rfl) w_2 w_488 (by decide +kernel) rfl ⟨(Nat.le_of_ble_eq_true rfl), (Nat.le_of_ble_eq_true rfl)⟩ [] rfl rfl (Nat.le_of_ble_eq_true rfl) dX5_pass_110 ⟨(Nat.le_of_ble_eq_true rfl), (Nat.le_of_ble_eq_true rfl)⟩ rfl (fun r w1 H locs hQ V => ?_)
                obtain ⟨z_16, rfl, rfl⟩ := hQ
                have V : gW D T A s [(a0, .inr (5, [.int (nI an), .int am, .int al, .int ao, .int uv, .ref a1, .ref a2, .ref a3, .ref a4, .ref a5, .ref a6, .ref a7, .ref a8, .ref a9, .ref a10])), (a1, .inl (T 0, 10, .inl af1)), (a2, .inl (T 0, 10, .inl af2)), (a3, .inl (T 0, 10, .inl gb)), (a4, .inl (T 0, 10, .inl af4)), (a5, .inl (T 0, 10, .inl af5)), (a6, .inl (T 0, 10, .inl af6)), (a7, .inl (T 0, 10, .inl gc)), (a8, .inl (T 0, 10, .inl gd)), (a9, .inl (T 0, 10, .inl af9)), (a10, .inl (T 0, 10, .inl g10_3))] H locs := V _ [] rfl rfl rfl (by decide +kernel) rfl
                show W p l e _ s m args below meth c H locs _ _ _ (F0 m 113 ls [.int z_16, .int (nI k80), .ref a3])
                refine g_iast hC V 3 rfl (vp_in_nI (by omega) (by omega)) (f' := (upd gb k80 z_16)) (by rw [nI_clamp (by omega)]) (ws' := [(a0, .inr (5, [.int (nI an), .int am, .int al, .int ao, .int uv, .ref a1, .ref a2, .ref a3, .ref a4, .ref a5, .ref a6, .ref a7, .ref a8, .ref a9, .ref a10])), (a1, .inl (T 0, 10, .inl af1)), (a2, .inl (T 0, 10, .inl af2)), (a3, .inl (T 0, 10, .inl (upd gb k80 z_16))), (a4, .inl (T 0, 10, .inl af4)), (a5, .inl (T 0, 10, .inl af5)), (a6, .inl (T 0, 10, .inl af6)), (a7, .inl (T 0, 10, .inl gc)), (a8, .inl (T 0, 10, .inl gd)), (a9, .inl (T 0, 10, .inl af9)), (a10, .inl (T 0, 10, .inl g10_3))]) rfl dX5_pass_113 (fun H locs V => ?_)
                refine lv_aload_n hx hb dX5_pass_114 rfl (lv_at hl 2 rfl) ?_
                refine lv_iload hx hb dX5_pass_115 (lv_at hl 0 rfl) ?_
                refine g_callVU (nA := 1) hC V hl.1 (s_burn l D T a0 k80 an am al ao uv a1 a2 a3 a4 a5 a6 a7 a8 a9 a10 (upd gb k80 z_16) af5 af6 gc gd (by first | assumption | omega)) w_492 w_494 w_s10 w_3 w_495 (by decide +kernel) rfl ⟨(Nat.le_of_ble_eq_true rfl), (Nat.le_of_ble_eq_true rfl)⟩ 0 (ci := 5) rfl rfl [0, 3, 5, 6, 7, 8] rfl rfl (Nat.le_of_ble_eq_true rfl) dX5_pass_117 ⟨(Nat.le_of_ble_eq_true rfl), (Nat.le_of_ble_eq_true rfl)⟩ rfl (fun r w1 H locs hQ V => ?_)
                obtain ⟨u_17, g7_18, g8_19, rfl, rfl⟩ := hQ
                have V : gW D T A s [(a0, .inr (5, [.int (nI an), .int am, .int al, .int ao, .int u_17, .ref a1, .ref a2, .ref a3, .ref a4, .ref a5, .ref a6, .ref a7, .ref a8, .ref a9, .ref a10])), (a1, .inl (T 0, 10, .inl af1)), (a2, .inl (T 0, 10, .inl af2)), (a3, .inl (T 0, 10, .inl (upd gb k80 z_16))), (a4, .inl (T 0, 10, .inl af4)), (a5, .inl (T 0, 10, .inl af5)), (a6, .inl (T 0, 10, .inl af6)), (a7, .inl (T 0, 10, .inl g7_18)), (a8, .inl (T 0, 10, .inl g8_19)), (a9, .inl (T 0, 10, .inl af9)), (a10, .inl (T 0, 10, .inl g10_3))] H locs := V _ [0, 2, 1, 0, 0, 0] rfl rfl rfl (by decide +kernel) rfl
                show W p l e _ s m args below meth c H locs _ _ _ (F0 m 120 ls [])
                refine lv_iinc (v := (nI (k80 + 1))) (lv' := [(6, .int (nI (k80 + 1))), (5, .int x6_5), (0, .ref a0), (1, .int pl), (2, .int sk), (3, .int sf), (4, .int sb)]) hx hb dX5_pass_120 hl (k := 0) rfl (nI_1 _) (by decide) rfl (fun ls hl => ?_)
                refine lv_goto (tgt := 80) hx hb dX5_pass_123 (by decide) ?_
                exact ih_80 (k80 + 1) u_17 (upd gb k80 z_16) g7_18 g8_19 (by omega) (by omega) _ _ _ V (lv_sub hl [0, 1, 2, 3, 4, 5, 6] rfl)
          exact L_14 _ 0 au af3 ga af8 (by omega) (Nat.lt_succ_self _) _ _ _ V (lv_sub hl [0, 1, 2, 3, 4, 5, 6] rfl)
      · skip
        have c_2 := b_nle (by omega) (by omega) c_2
        refine lv_iload_n hx hb dX5_pass_15 rfl (lv_at hl 4 rfl) ?_
        refine lv_iload hx hb dX5_pass_16 (lv_at hl 0 rfl) ?_
        refine g_callSNU (nA := 2) (host := RX7) hC V hl.1 (c_isIn l D T sk (nI k6)) w_472 (List.mem_of_getElem? (i := 13) rfl) w_2 w_471 (by decide +kernel) rfl ⟨(Nat.le_of_ble_eq_true rfl), (Nat.le_of_ble_eq_true rfl)⟩ [] rfl rfl (Nat.le_of_ble_eq_true rfl) dX5_pass_18 ⟨(Nat.le_of_ble_eq_true rfl), (Nat.le_of_ble_eq_true rfl)⟩ rfl (fun r w1 H locs hQ V => ?_)
        rcases hQ with ⟨rfl, rfl⟩ | ⟨rfl, rfl⟩
        · have V : gW D T A s [(a0, .inr (5, [.int (nI an), .int am, .int al, .int ao, .int au, .ref a1, .ref a2, .ref a3, .ref a4, .ref a5, .ref a6, .ref a7, .ref a8, .ref a9, .ref a10])), (a1, .inl (T 0, 10, .inl af1)), (a2, .inl (T 0, 10, .inl af2)), (a3, .inl (T 0, 10, .inl af3)), (a4, .inl (T 0, 10, .inl af4)), (a5, .inl (T 0, 10, .inl af5)), (a6, .inl (T 0, 10, .inl af6)), (a7, .inl (T 0, 10, .inl ga)), (a8, .inl (T 0, 10, .inl af8)), (a9, .inl (T 0, 10, .inl af9)), (a10, .inl (T 0, 10, .inl af10))] H locs := V _ [] rfl rfl rfl (by decide +kernel) rfl
          show W p l e _ s m args below meth c H locs _ _ _ (F0 m 21 ls [.int (nI 1)])
          refine lv_if_eq (tgt := 47) hx hb dX5_pass_21 (by decide) (fun c => absurd (show (nI 1) = 0 from c) (by decide +kernel)) (fun _ => ?_)
          refine lv_aload_n hx hb dX5_pass_24 rfl (lv_at hl 2 rfl) ?_
          refine lv_iload hx hb dX5_pass_25 (lv_at hl 0 rfl) ?_
          refine g_callVU (nA := 1) hC V hl.1 (s_canStrike l D T a0 k6 an am al ao au a1 a2 a3 a4 a5 a6 a7 a8 a9 a10 af3 af4 af5 af6 ga (by first | assumption | omega)) w_473 w_474 w_475 w_3 w_476 (by decide +kernel) rfl ⟨(Nat.le_of_ble_eq_true rfl), (Nat.le_of_ble_eq_true rfl)⟩ 0 (ci := 5) rfl rfl [0, 3, 4, 5, 6, 7] rfl rfl (Nat.le_of_ble_eq_true rfl) dX5_pass_27 ⟨(Nat.le_of_ble_eq_true rfl), (Nat.le_of_ble_eq_true rfl)⟩ rfl (fun r w1 H locs hQ V => ?_)
          rcases hQ with ⟨rfl, rfl, f_20, f_21, f_22⟩ | ⟨rfl, rfl, f_23⟩
          · have V : gW D T A s [(a0, .inr (5, [.int (nI an), .int am, .int al, .int ao, .int au, .ref a1, .ref a2, .ref a3, .ref a4, .ref a5, .ref a6, .ref a7, .ref a8, .ref a9, .ref a10])), (a1, .inl (T 0, 10, .inl af1)), (a2, .inl (T 0, 10, .inl af2)), (a3, .inl (T 0, 10, .inl af3)), (a4, .inl (T 0, 10, .inl af4)), (a5, .inl (T 0, 10, .inl af5)), (a6, .inl (T 0, 10, .inl af6)), (a7, .inl (T 0, 10, .inl ga)), (a8, .inl (T 0, 10, .inl af8)), (a9, .inl (T 0, 10, .inl af9)), (a10, .inl (T 0, 10, .inl af10))] H locs := V _ [0, 2, 0, 0, 0, 0] rfl rfl rfl (by decide +kernel) rfl
            show W p l e _ s m args below meth c H locs _ _ _ (F0 m 30 ls [.int (nI 1)])
            refine lv_if_eq (tgt := 47) hx hb dX5_pass_30 (by decide) (fun c => absurd (show (nI 1) = 0 from c) (by decide +kernel)) (fun _ => ?_)
            refine lv_aload_n hx hb dX5_pass_33 rfl (lv_at hl 2 rfl) ?_
            refine g_get hC V (ci := 5) uwX5 0 rfl rfl 11 (by decide) w_77 rfl rfl dX5_pass_34 ?_
            refine lv_iload hx hb dX5_pass_37 (lv_at hl 0 rfl) ?_
            refine lv_dup2_11 hx hb dX5_pass_39 rfl rfl ?_
            refine g_iald hC V 7 rfl (vp_in_nI (by omega) (by omega)) (v := (ga k6)) (congrArg _ (nI_clamp (by omega))) dX5_pass_40 ?_
            refine lv_iconst (v := (nI 1)) hx hb dX5_pass_41 (by decide +kernel) ?_
            refine lv_iadd hx hb dX5_pass_42 ?_
            refine g_iast hC V 7 rfl (vp_in_nI (by omega) (by omega)) (f' := (upd ga k6 ((ga k6) + (nI 1)))) (by rw [nI_clamp (by omega)]) (ws' := [(a0, .inr (5, [.int (nI an), .int am, .int al, .int ao, .int au, .ref a1, .ref a2, .ref a3, .ref a4, .ref a5, .ref a6, .ref a7, .ref a8, .ref a9, .ref a10])), (a1, .inl (T 0, 10, .inl af1)), (a2, .inl (T 0, 10, .inl af2)), (a3, .inl (T 0, 10, .inl af3)), (a4, .inl (T 0, 10, .inl af4)), (a5, .inl (T 0, 10, .inl af5)), (a6, .inl (T 0, 10, .inl af6)), (a7, .inl (T 0, 10, .inl (upd ga k6 ((ga k6) + (nI 1))))), (a8, .inl (T 0, 10, .inl af8)), (a9, .inl (T 0, 10, .inl af9)), (a10, .inl (T 0, 10, .inl af10))]) rfl dX5_pass_43 (fun H locs V => ?_)
            refine lv_iinc (v := (x6_5 + 1)) (lv' := [(5, .int (x6_5 + 1)), (6, .int (nI k6)), (0, .ref a0), (1, .int pl), (2, .int sk), (3, .int sf), (4, .int sb)]) hx hb dX5_pass_44 hl (k := 1) rfl rfl (by decide) rfl (fun ls hl => ?_)
            refine lv_iinc (v := (nI (k6 + 1))) (lv' := [(6, .int (nI (k6 + 1))), (5, .int (x6_5 + 1)), (0, .ref a0), (1, .int pl), (2, .int sk), (3, .int sf), (4, .int sb)]) hx hb dX5_pass_47 hl (k := 1) rfl (nI_1 _) (by decide) rfl (fun ls hl => ?_)
            refine lv_goto (tgt := 6) hx hb dX5_pass_50 (by decide) ?_
            exact ih_6 (k6 + 1) (x6_5 + 1) (upd ga k6 ((ga k6) + (nI 1))) (by omega) (by omega) _ _ _ V (lv_sub hl [0, 1, 2, 3, 4, 5, 6] rfl)
          · have V : gW D T A s [(a0, .inr (5, [.int (nI an), .int am, .int al, .int ao, .int au, .ref a1, .ref a2, .ref a3, .ref a4, .ref a5, .ref a6, .ref a7, .ref a8, .ref a9, .ref a10])), (a1, .inl (T 0, 10, .inl af1)), (a2, .inl (T 0, 10, .inl af2)), (a3, .inl (T 0, 10, .inl af3)), (a4, .inl (T 0, 10, .inl af4)), (a5, .inl (T 0, 10, .inl af5)), (a6, .inl (T 0, 10, .inl af6)), (a7, .inl (T 0, 10, .inl ga)), (a8, .inl (T 0, 10, .inl af8)), (a9, .inl (T 0, 10, .inl af9)), (a10, .inl (T 0, 10, .inl af10))] H locs := V _ [0, 2, 0, 0, 0, 0] rfl rfl rfl (by decide +kernel) rfl
            show W p l e _ s m args below meth c H locs _ _ _ (F0 m 30 ls [.int (nI 0)])
            refine lv_if_eq (tgt := 47) hx hb dX5_pass_30 (by decide) (fun _ => ?_) (fun c => absurd (show (nI 0) = 0 by decide +kernel) c)
            refine lv_iinc (v := (nI (k6 + 1))) (lv' := [(6, .int (nI (k6 + 1))), (5, .int x6_5), (0, .ref a0), (1, .int pl), (2, .int sk), (3, .int sf), (4, .int sb)]) hx hb dX5_pass_47 hl (k := 0) rfl (nI_1 _) (by decide) rfl (fun ls hl => ?_)
            refine lv_goto (tgt := 6) hx hb dX5_pass_50 (by decide) ?_
            exact ih_6 (k6 + 1) x6_5 ga (by omega) (by omega) _ _ _ V (lv_sub hl [0, 1, 2, 3, 4, 5, 6] rfl)
        · have V : gW D T A s [(a0, .inr (5, [.int (nI an), .int am, .int al, .int ao, .int au, .ref a1, .ref a2, .ref a3, .ref a4, .ref a5, .ref a6, .ref a7, .ref a8, .ref a9, .ref a10])), (a1, .inl (T 0, 10, .inl af1)), (a2, .inl (T 0, 10, .inl af2)), (a3, .inl (T 0, 10, .inl af3)), (a4, .inl (T 0, 10, .inl af4)), (a5, .inl (T 0, 10, .inl af5)), (a6, .inl (T 0, 10, .inl af6)), (a7, .inl (T 0, 10, .inl ga)), (a8, .inl (T 0, 10, .inl af8)), (a9, .inl (T 0, 10, .inl af9)), (a10, .inl (T 0, 10, .inl af10))] H locs := V _ [] rfl rfl rfl (by decide +kernel) rfl
          show W p l e _ s m args below meth c H locs _ _ _ (F0 m 21 ls [.int (nI 0)])
          refine lv_if_eq (tgt := 47) hx hb dX5_pass_21 (by decide) (fun _ => ?_) (fun c => absurd (show (nI 0) = 0 by decide +kernel) c)
          refine lv_iinc (v := (nI (k6 + 1))) (lv' := [(6, .int (nI (k6 + 1))), (5, .int x6_5), (0, .ref a0), (1, .int pl), (2, .int sk), (3, .int sf), (4, .int sb)]) hx hb dX5_pass_47 hl (k := 0) rfl (nI_1 _) (by decide) rfl (fun ls hl => ?_)
          refine lv_goto (tgt := 6) hx hb dX5_pass_50 (by decide) ?_
          exact ih_6 (k6 + 1) x6_5 ga (by omega) (by omega) _ _ _ V (lv_sub hl [0, 1, 2, 3, 4, 5, 6] rfl)
  exact L_1 _ 0 (nI 0) af7 (by omega) (Nat.lt_succ_self _) _ _ _ V (lv_sub hl [0, 1, 2, 3, 4, 5, 6] rfl)

def q_s_passByCustom (T : Nat → ClassId) (a0 : Nat) (idl : Int32) (sf : Int32) (sb : Int32) (an : Nat) (am : Int32) (al : Int32) (ao : Int32) (au : Int32) (a1 : Nat) (a2 : Nat) (a3 : Nat) (a4 : Nat) (a5 : Nat) (a6 : Nat) (a7 : Nat) (a8 : Nat) (a9 : Nat) (a10 : Nat) (af1 : Nat → Int32) (af2 : Nat → Int32) (af3 : Nat → Int32) (af4 : Nat → Int32) (af5 : Nat → Int32) (af6 : Nat → Int32) (af7 : Nat → Int32) (af8 : Nat → Int32) (af9 : Nat → Int32) (af10 : Nat → Int32) : Option Value → va_W → Prop := fun rr ww => (∃ (z : Int32) (u : Int32) (g3 : Nat → Int32) (g7 : Nat → Int32) (g8 : Nat → Int32) (g10 : Nat → Int32), rr = some (.int z) ∧ ww = [(a0, .inr (5, [.int (nI an), .int (am + (nI 1)), .int al, .int ao, .int u, .ref a1, .ref a2, .ref a3, .ref a4, .ref a5, .ref a6, .ref a7, .ref a8, .ref a9, .ref a10])), (a1, .inl (T 0, 10, .inl af1)), (a2, .inl (T 0, 10, .inl af2)), (a3, .inl (T 0, 10, .inl g3)), (a4, .inl (T 0, 10, .inl af4)), (a5, .inl (T 0, 10, .inl af5)), (a6, .inl (T 0, 10, .inl af6)), (a7, .inl (T 0, 10, .inl g7)), (a8, .inl (T 0, 10, .inl g8)), (a9, .inl (T 0, 10, .inl af9)), (a10, .inl (T 0, 10, .inl g10))])
set_option maxHeartbeats 4000000 in
set_option maxRecDepth 100000 in
theorem s_passByCustom (l : Launch) (D : va_G) (T : Nat → ClassId) (a0 : Nat) (idl : Int32) (sf : Int32) (sb : Int32) (an : Nat) (am : Int32) (al : Int32) (ao : Int32) (au : Int32) (a1 : Nat) (a2 : Nat) (a3 : Nat) (a4 : Nat) (a5 : Nat) (a6 : Nat) (a7 : Nat) (a8 : Nat) (a9 : Nat) (a10 : Nat) (af1 : Nat → Int32) (af2 : Nat → Int32) (af3 : Nat → Int32) (af4 : Nat → Int32) (af5 : Nat → Int32) (af6 : Nat → Int32) (af7 : Nat → Int32) (af8 : Nat → Int32) (af9 : Nat → Int32) (af10 : Nat → Int32) (h_n : an ≤ 10) (h_t : ∀ i, i < an → bd (af9 i) an) : Ct l yX5_passByCustom cX5_passByCustom 7 (some .int) 3 0 0 D T [.ref a0, .int idl, .int sf, .int sb] [(a0, .inr (5, [.int (nI an), .int am, .int al, .int ao, .int au, .ref a1, .ref a2, .ref a3, .ref a4, .ref a5, .ref a6, .ref a7, .ref a8, .ref a9, .ref a10])), (a1, .inl (T 0, 10, .inl af1)), (a2, .inl (T 0, 10, .inl af2)), (a3, .inl (T 0, 10, .inl af3)), (a4, .inl (T 0, 10, .inl af4)), (a5, .inl (T 0, 10, .inl af5)), (a6, .inl (T 0, 10, .inl af6)), (a7, .inl (T 0, 10, .inl af7)), (a8, .inl (T 0, 10, .inl af8)), (a9, .inl (T 0, 10, .inl af9)), (a10, .inl (T 0, 10, .inl af10))] (q_s_passByCustom T a0 idl sf sb an am al ao au a1 a2 a3 a4 a5 a6 a7 a8 a9 a10 af1 af2 af3 af4 af5 af6 af7 af8 af9 af10) := by
  refine Ct.of (cc := cX5_passByCustom) (maxL := 7) (ret := (some .int)) (by decide) (Nat.le_of_ble_eq_true rfl) ?_
  intro p e s m args below meth c A ls hC hnm V hl
  obtain ⟨hx, hb, hr, hml, hown, hts, hlocks⟩ := id hC
  generalize hH : s.heap = H at V ⊢
  clear hH
  have hl : lv_has ls 7 [(0, .ref a0), (1, .int idl), (2, .int sf), (3, .int sb)] := hl
  generalize hlo : ([] : List Loc) = locs at V ⊢
  clear hlo
  refine lv_iconst (v := (nI 0)) hx hb dX5_passByCustom_0 (by decide +kernel) ?_
  refine lv_istore (lv' := [(4, .int (nI 0)), (0, .ref a0), (1, .int idl), (2, .int sf), (3, .int sb)]) hx hb dX5_passByCustom_1 hl (by decide) rfl (fun ls hl => ?_)
  refine lv_iconst (v := (nI 0)) hx hb dX5_passByCustom_3 (by decide +kernel) ?_
  refine lv_istore (lv' := [(5, .int (nI 0)), (4, .int (nI 0)), (0, .ref a0), (1, .int idl), (2, .int sf), (3, .int sb)]) hx hb dX5_passByCustom_4 hl (by decide) rfl (fun ls hl => ?_)
  refine lv_iconst (v := (nI 0)) hx hb dX5_passByCustom_6 (by decide +kernel) ?_
  refine lv_istore (lv' := [(6, .int (nI 0)), (5, .int (nI 0)), (4, .int (nI 0)), (0, .ref a0), (1, .int idl), (2, .int sf), (3, .int sb)]) hx hb dX5_passByCustom_7 hl (by decide) rfl (fun ls hl => ?_)
  have L_1 : ∀ (fu : Nat) (k9 : Nat) (x9_5 : Int32) (x9_4 : Int32), k9 ≤ an → an - k9 < fu → ∀ (H : Heap) (locs : List Loc) (ls : Array Slot), gW D T A s [(a0, .inr (5, [.int (nI an), .int am, .int al, .int ao, .int au, .ref a1, .ref a2, .ref a3, .ref a4, .ref a5, .ref a6, .ref a7, .ref a8, .ref a9, .ref a10])), (a1, .inl (T 0, 10, .inl af1)), (a2, .inl (T 0, 10, .inl af2)), (a3, .inl (T 0, 10, .inl af3)), (a4, .inl (T 0, 10, .inl af4)), (a5, .inl (T 0, 10, .inl af5)), (a6, .inl (T 0, 10, .inl af6)), (a7, .inl (T 0, 10, .inl af7)), (a8, .inl (T 0, 10, .inl af8)), (a9, .inl (T 0, 10, .inl af9)), (a10, .inl (T 0, 10, .inl af10))] H locs → lv_has ls 7 [(6, .int (nI k9)), (5, .int x9_5), (4, .int x9_4), (0, .ref a0), (1, .int idl), (2, .int sf), (3, .int sb)] → W p l e (rmD 3 0 0) s m args below meth c H locs 0 0 (MQ below (gQ D A (q_s_passByCustom T a0 idl sf sb an am al ao au a1 a2 a3 a4 a5 a6 a7 a8 a9 a10 af1 af2 af3 af4 af5 af6 af7 af8 af9 af10)) args s 0 0 A) (F0 m 9 ls []) := by
    intro fu_9
    induction fu_9 with
    | zero => intro k9 x9_5 x9_4 hk9 hmu; exact absurd hmu (Nat.not_lt_zero _)
    | succ fu_9 ih_9 =>
      intro k9 x9_5 x9_4 hk9 hmu_9 H locs ls V hl
      refine lv_iload hx hb dX5_passByCustom_9 (lv_at hl 0 rfl) ?_
      refine lv_aload_n hx hb dX5_passByCustom_11 rfl (lv_at hl 3 rfl) ?_
      refine g_get hC V (ci := 5) uwX5 0 rfl rfl 0 (by decide) w_33 rfl rfl dX5_passByCustom_12 ?_
      refine lv_icmp_ge (tgt := 87) hx hb dX5_passByCustom_15 (by decide) (fun c_2 => ?_) (fun c_2 => ?_)
      · skip
        have c_2 := b_le (by omega) (by omega) c_2
        refine lv_aload_n hx hb dX5_passByCustom_87 rfl (lv_at hl 3 rfl) ?_
        refine lv_iload_n hx hb dX5_passByCustom_88 rfl (lv_at hl 5 rfl) ?_
        refine g_callVU (nA := 1) hC V hl.1 (s_isSmith l D T a0 sf an am al ao au a1 a2 a3 a4 a5 a6 a7 a8 a9 a10 (by first | assumption | omega)) w_486 w_426 w_427 w_3 w_428 (by decide +kernel) rfl ⟨(Nat.le_of_ble_eq_true rfl), (Nat.le_of_ble_eq_true rfl)⟩ 0 (ci := 5) rfl rfl [0] rfl rfl (Nat.le_of_ble_eq_true rfl) dX5_passByCustom_89 ⟨(Nat.le_of_ble_eq_true rfl), (Nat.le_of_ble_eq_true rfl)⟩ rfl (fun r w1 H locs hQ V => ?_)
        rcases hQ with ⟨j_3, rfl, rfl, f_4, f_5⟩ | ⟨rfl, rfl, f_6⟩
        · have V : gW D T A s [(a0, .inr (5, [.int (nI an), .int am, .int al, .int ao, .int au, .ref a1, .ref a2, .ref a3, .ref a4, .ref a5, .ref a6, .ref a7, .ref a8, .ref a9, .ref a10])), (a1, .inl (T 0, 10, .inl af1)), (a2, .inl (T 0, 10, .inl af2)), (a3, .inl (T 0, 10, .inl af3)), (a4, .inl (T 0, 10, .inl af4)), (a5, .inl (T 0, 10, .inl af5)), (a6, .inl (T 0, 10, .inl af6)), (a7, .inl (T 0, 10, .inl af7)), (a8, .inl (T 0, 10, .inl af8)), (a9, .inl (T 0, 10, .inl af9)), (a10, .inl (T 0, 10, .inl af10))] H locs := V _ [0] rfl rfl rfl (by decide +kernel) rfl
          show W p l e _ s m args below meth c H locs _ _ _ (F0 m 92 ls [.int (nI 1)])
          rw [f_4] at hl
          refine lv_if_eq (tgt := 108) hx hb dX5_passByCustom_92 (by decide) (fun c => absurd (show (nI 1) = 0 from c) (by decide +kernel)) (fun _ => ?_)
          refine lv_aload_n hx hb dX5_passByCustom_95 rfl (lv_at hl 3 rfl) ?_
          refine lv_iload_n hx hb dX5_passByCustom_96 rfl (lv_at hl 5 rfl) ?_
          refine lv_iload_n hx hb dX5_passByCustom_97 rfl (lv_at hl 6 rfl) ?_
          refine g_callVU (nA := 2) hC V hl.1 (s_bears l D T a0 j_3 sb an am al ao au a1 a2 a3 a4 a5 a6 a7 a8 a9 a10 af3 af5 (by first | assumption | omega)) w_548 w_550 w_s14 w_3 w_551 (by decide +kernel) rfl ⟨(Nat.le_of_ble_eq_true rfl), (Nat.le_of_ble_eq_true rfl)⟩ 0 (ci := 5) rfl rfl [0, 3, 5] rfl rfl (Nat.le_of_ble_eq_true rfl) dX5_passByCustom_98 ⟨(Nat.le_of_ble_eq_true rfl), (Nat.le_of_ble_eq_true rfl)⟩ rfl (fun r w1 H locs hQ V => ?_)
          rcases hQ with ⟨rfl, rfl⟩ | ⟨rfl, rfl⟩
          · have V : gW D T A s [(a0, .inr (5, [.int (nI an), .int am, .int al, .int ao, .int au, .ref a1, .ref a2, .ref a3, .ref a4, .ref a5, .ref a6, .ref a7, .ref a8, .ref a9, .ref a10])), (a1, .inl (T 0, 10, .inl af1)), (a2, .inl (T 0, 10, .inl af2)), (a3, .inl (T 0, 10, .inl af3)), (a4, .inl (T 0, 10, .inl af4)), (a5, .inl (T 0, 10, .inl af5)), (a6, .inl (T 0, 10, .inl af6)), (a7, .inl (T 0, 10, .inl af7)), (a8, .inl (T 0, 10, .inl af8)), (a9, .inl (T 0, 10, .inl af9)), (a10, .inl (T 0, 10, .inl af10))] H locs := V _ [0, 2, 1] rfl rfl rfl (by decide +kernel) rfl
            show W p l e _ s m args below meth c H locs _ _ _ (F0 m 101 ls [.int (nI 1)])
            refine lv_if_eq (tgt := 108) hx hb dX5_passByCustom_101 (by decide) (fun c => absurd (show (nI 1) = 0 from c) (by decide +kernel)) (fun _ => ?_)
            refine lv_iconst (v := (nI 1)) hx hb dX5_passByCustom_104 (by decide +kernel) ?_
            refine lv_goto (tgt := 109) hx hb dX5_passByCustom_105 (by decide) ?_
            refine lv_istore (lv' := [(6, .int (nI 1)), (5, .int x9_5), (4, .int x9_4), (0, .ref a0), (1, .int idl), (2, .int (nI j_3)), (3, .int sb)]) hx hb dX5_passByCustom_109 hl (by decide) rfl (fun ls hl => ?_)
            refine lv_aload_n hx hb dX5_passByCustom_111 rfl (lv_at hl 3 rfl) ?_
            refine lv_iload hx hb dX5_passByCustom_112 (lv_at hl 1 rfl) ?_
            refine lv_iload hx hb dX5_passByCustom_114 (lv_at hl 2 rfl) ?_
            refine lv_iload hx hb dX5_passByCustom_116 (lv_at hl 0 rfl) ?_
            refine lv_if_eq (tgt := 125) hx hb dX5_passByCustom_118 (by decide) (fun c => absurd (show (nI 1) = 0 from c) (by decide +kernel)) (fun _ => ?_)
            refine lv_iload_n hx hb dX5_passByCustom_121 rfl (lv_at hl 5 rfl) ?_
            refine lv_goto (tgt := 126) hx hb dX5_passByCustom_122 (by decide) ?_
            refine lv_iload_n hx hb dX5_passByCustom_126 rfl (lv_at hl 6 rfl) ?_
            refine g_callV (wr := []) (nA := 4) hC V hl.1 (s_pass l D T a0 x9_5 x9_4 (nI j_3) sb an am al ao au a1 a2 a3 a4 a5 a6 a7 a8 a9 a10 af1 af2 af3 af4 af5 af6 af7 af8 af9 af10 (by first | assumption | omega) (by first | assumption | omega)) w_552 w_467 w_468 w_3 w_469 (by decide +kernel) rfl ⟨(Nat.le_of_ble_eq_true rfl), (Nat.le_of_ble_eq_true rfl)⟩ 0 (ci := 5) rfl rfl [0, 1, 2, 3, 4, 5, 6, 7, 8, 9, 10] [] rfl rfl rfl rfl (by decide) (Nat.le_of_ble_eq_true rfl) dX5_passByCustom_127 ⟨(Nat.le_of_ble_eq_true rfl), (Nat.le_of_ble_eq_true rfl)⟩ rfl (fun r w1 H locs hQ V => ?_)
            obtain ⟨z_7, u_8, g3_9, g7_10, g8_11, g10_12, rfl, rfl⟩ := hQ
            have V : gW D T A s [(a0, .inr (5, [.int (nI an), .int (am + (nI 1)), .int al, .int ao, .int u_8, .ref a1, .ref a2, .ref a3, .ref a4, .ref a5, .ref a6, .ref a7, .ref a8, .ref a9, .ref a10])), (a1, .inl (T 0, 10, .inl af1)), (a2, .inl (T 0, 10, .inl af2)), (a3, .inl (T 0, 10, .inl g3_9)), (a4, .inl (T 0, 10, .inl af4)), (a5, .inl (T 0, 10, .inl af5)), (a6, .inl (T 0, 10, .inl af6)), (a7, .inl (T 0, 10, .inl g7_10)), (a8, .inl (T 0, 10, .inl g8_11)), (a9, .inl (T 0, 10, .inl af9)), (a10, .inl (T 0, 10, .inl g10_12))] H locs := V
            show W p l e _ s m args below meth c H locs _ _ _ (F0 m 130 ls [.int z_7])
            exact g_iret (Qr := (q_s_passByCustom T a0 idl sf sb an am al ao au a1 a2 a3 a4 a5 a6 a7 a8 a9 a10 af1 af2 af3 af4 af5 af6 af7 af8 af9 af10)) hC V ⟨(Nat.le_of_ble_eq_true rfl), (Nat.le_of_ble_eq_true rfl)⟩ ⟨z_7, u_8, g3_9, g7_10, g8_11, g10_12, rfl, rfl⟩ dX5_passByCustom_130
          · have V : gW D T A s [(a0, .inr (5, [.int (nI an), .int am, .int al, .int ao, .int au, .ref a1, .ref a2, .ref a3, .ref a4, .ref a5, .ref a6, .ref a7, .ref a8, .ref a9, .ref a10])), (a1, .inl (T 0, 10, .inl af1)), (a2, .inl (T 0, 10, .inl af2)), (a3, .inl (T 0, 10, .inl af3)), (a4, .inl (T 0, 10, .inl af4)), (a5, .inl (T 0, 10, .inl af5)), (a6, .inl (T 0, 10, .inl af6)), (a7, .inl (T 0, 10, .inl af7)), (a8, .inl (T 0, 10, .inl af8)), (a9, .inl (T 0, 10, .inl af9)), (a10, .inl (T 0, 10, .inl af10))] H locs := V _ [0, 2, 1] rfl rfl rfl (by decide +kernel) rfl
            show W p l e _ s m args below meth c H locs _ _ _ (F0 m 101 ls [.int (nI 0)])
            refine lv_if_eq (tgt := 108) hx hb dX5_passByCustom_101 (by decide) (fun _ => ?_) (fun c => absurd (show (nI 0) = 0 by decide +kernel) c)
            refine lv_iconst (v := (nI 0)) hx hb dX5_passByCustom_108 (by decide +kernel) ?_
            refine lv_istore (lv' := [(6, .int (nI 0)), (5, .int x9_5), (4, .int x9_4), (0, .ref a0), (1, .int idl), (2, .int (nI j_3)), (3, .int sb)]) hx hb dX5_passByCustom_109 hl (by decide) rfl (fun ls hl => ?_)
            refine lv_aload_n hx hb dX5_passByCustom_111 rfl (lv_at hl 3 rfl) ?_
            refine lv_iload hx hb dX5_passByCustom_112 (lv_at hl 1 rfl) ?_
            refine lv_iload hx hb dX5_passByCustom_114 (lv_at hl 2 rfl) ?_
            refine lv_iload hx hb dX5_passByCustom_116 (lv_at hl 0 rfl) ?_
            refine lv_if_eq (tgt := 125) hx hb dX5_passByCustom_118 (by decide) (fun _ => ?_) (fun c => absurd (show (nI 0) = 0 by decide +kernel) c)
            refine lv_iconst (v := (-1)) hx hb dX5_passByCustom_125 (by decide +kernel) ?_
            refine lv_iload_n hx hb dX5_passByCustom_126 rfl (lv_at hl 6 rfl) ?_
            refine g_callV (wr := []) (nA := 4) hC V hl.1 (s_pass l D T a0 x9_5 x9_4 (-1) sb an am al ao au a1 a2 a3 a4 a5 a6 a7 a8 a9 a10 af1 af2 af3 af4 af5 af6 af7 af8 af9 af10 (by first | assumption | omega) (by first | assumption | omega)) w_552 w_467 w_468 w_3 w_469 (by decide +kernel) rfl ⟨(Nat.le_of_ble_eq_true rfl), (Nat.le_of_ble_eq_true rfl)⟩ 0 (ci := 5) rfl rfl [0, 1, 2, 3, 4, 5, 6, 7, 8, 9, 10] [] rfl rfl rfl rfl (by decide) (Nat.le_of_ble_eq_true rfl) dX5_passByCustom_127 ⟨(Nat.le_of_ble_eq_true rfl), (Nat.le_of_ble_eq_true rfl)⟩ rfl (fun r w1 H locs hQ V => ?_)
            obtain ⟨z_13, u_14, g3_15, g7_16, g8_17, g10_18, rfl, rfl⟩ := hQ
            have V : gW D T A s [(a0, .inr (5, [.int (nI an), .int (am + (nI 1)), .int al, .int ao, .int u_14, .ref a1, .ref a2, .ref a3, .ref a4, .ref a5, .ref a6, .ref a7, .ref a8, .ref a9, .ref a10])), (a1, .inl (T 0, 10, .inl af1)), (a2, .inl (T 0, 10, .inl af2)), (a3, .inl (T 0, 10, .inl g3_15)), (a4, .inl (T 0, 10, .inl af4)), (a5, .inl (T 0, 10, .inl af5)), (a6, .inl (T 0, 10, .inl af6)), (a7, .inl (T 0, 10, .inl g7_16)), (a8, .inl (T 0, 10, .inl g8_17)), (a9, .inl (T 0, 10, .inl af9)), (a10, .inl (T 0, 10, .inl g10_18))] H locs := V
            show W p l e _ s m args below meth c H locs _ _ _ (F0 m 130 ls [.int z_13])
            exact g_iret (Qr := (q_s_passByCustom T a0 idl sf sb an am al ao au a1 a2 a3 a4 a5 a6 a7 a8 a9 a10 af1 af2 af3 af4 af5 af6 af7 af8 af9 af10)) hC V ⟨(Nat.le_of_ble_eq_true rfl), (Nat.le_of_ble_eq_true rfl)⟩ ⟨z_13, u_14, g3_15, g7_16, g8_17, g10_18, rfl, rfl⟩ dX5_passByCustom_130
        · have V : gW D T A s [(a0, .inr (5, [.int (nI an), .int am, .int al, .int ao, .int au, .ref a1, .ref a2, .ref a3, .ref a4, .ref a5, .ref a6, .ref a7, .ref a8, .ref a9, .ref a10])), (a1, .inl (T 0, 10, .inl af1)), (a2, .inl (T 0, 10, .inl af2)), (a3, .inl (T 0, 10, .inl af3)), (a4, .inl (T 0, 10, .inl af4)), (a5, .inl (T 0, 10, .inl af5)), (a6, .inl (T 0, 10, .inl af6)), (a7, .inl (T 0, 10, .inl af7)), (a8, .inl (T 0, 10, .inl af8)), (a9, .inl (T 0, 10, .inl af9)), (a10, .inl (T 0, 10, .inl af10))] H locs := V _ [0] rfl rfl rfl (by decide +kernel) rfl
          show W p l e _ s m args below meth c H locs _ _ _ (F0 m 92 ls [.int (nI 0)])
          refine lv_if_eq (tgt := 108) hx hb dX5_passByCustom_92 (by decide) (fun _ => ?_) (fun c => absurd (show (nI 0) = 0 by decide +kernel) c)
          refine lv_iconst (v := (nI 0)) hx hb dX5_passByCustom_108 (by decide +kernel) ?_
          refine lv_istore (lv' := [(6, .int (nI 0)), (5, .int x9_5), (4, .int x9_4), (0, .ref a0), (1, .int idl), (2, .int sf), (3, .int sb)]) hx hb dX5_passByCustom_109 hl (by decide) rfl (fun ls hl => ?_)
          refine lv_aload_n hx hb dX5_passByCustom_111 rfl (lv_at hl 3 rfl) ?_
          refine lv_iload hx hb dX5_passByCustom_112 (lv_at hl 1 rfl) ?_
          refine lv_iload hx hb dX5_passByCustom_114 (lv_at hl 2 rfl) ?_
          refine lv_iload hx hb dX5_passByCustom_116 (lv_at hl 0 rfl) ?_
          refine lv_if_eq (tgt := 125) hx hb dX5_passByCustom_118 (by decide) (fun _ => ?_) (fun c => absurd (show (nI 0) = 0 by decide +kernel) c)
          refine lv_iconst (v := (-1)) hx hb dX5_passByCustom_125 (by decide +kernel) ?_
          refine lv_iload_n hx hb dX5_passByCustom_126 rfl (lv_at hl 6 rfl) ?_
          refine g_callV (wr := []) (nA := 4) hC V hl.1 (s_pass l D T a0 x9_5 x9_4 (-1) sb an am al ao au a1 a2 a3 a4 a5 a6 a7 a8 a9 a10 af1 af2 af3 af4 af5 af6 af7 af8 af9 af10 (by first | assumption | omega) (by first | assumption | omega)) w_552 w_467 w_468 w_3 w_469 (by decide +kernel) rfl ⟨(Nat.le_of_ble_eq_true rfl), (Nat.le_of_ble_eq_true rfl)⟩ 0 (ci := 5) rfl rfl [0, 1, 2, 3, 4, 5, 6, 7, 8, 9, 10] [] rfl rfl rfl rfl (by decide) (Nat.le_of_ble_eq_true rfl) dX5_passByCustom_127 ⟨(Nat.le_of_ble_eq_true rfl), (Nat.le_of_ble_eq_true rfl)⟩ rfl (fun r w1 H locs hQ V => ?_)
          obtain ⟨z_19, u_20, g3_21, g7_22, g8_23, g10_24, rfl, rfl⟩ := hQ
          have V : gW D T A s [(a0, .inr (5, [.int (nI an), .int (am + (nI 1)), .int al, .int ao, .int u_20, .ref a1, .ref a2, .ref a3, .ref a4, .ref a5, .ref a6, .ref a7, .ref a8, .ref a9, .ref a10])), (a1, .inl (T 0, 10, .inl af1)), (a2, .inl (T 0, 10, .inl af2)), (a3, .inl (T 0, 10, .inl g3_21)), (a4, .inl (T 0, 10, .inl af4)), (a5, .inl (T 0, 10, .inl af5)), (a6, .inl (T 0, 10, .inl af6)), (a7, .inl (T 0, 10, .inl g7_22)), (a8, .inl (T 0, 10, .inl g8_23)), (a9, .inl (T 0, 10, .inl af9)), (a10, .inl (T 0, 10, .inl g10_24))] H locs := V
          show W p l e _ s m args below meth c H locs _ _ _ (F0 m 130 ls [.int z_19])
          exact g_iret (Qr := (q_s_passByCustom T a0 idl sf sb an am al ao au a1 a2 a3 a4 a5 a6 a7 a8 a9 a10 af1 af2 af3 af4 af5 af6 af7 af8 af9 af10)) hC V ⟨(Nat.le_of_ble_eq_true rfl), (Nat.le_of_ble_eq_true rfl)⟩ ⟨z_19, u_20, g3_21, g7_22, g8_23, g10_24, rfl, rfl⟩ dX5_passByCustom_130
      · skip
        have c_2 := b_nle (by omega) (by omega) c_2
        refine lv_iload_n hx hb dX5_passByCustom_18 rfl (lv_at hl 4 rfl) ?_
        refine lv_iload hx hb dX5_passByCustom_19 (lv_at hl 0 rfl) ?_
        refine g_callSNU (nA := 2) (host := RX7) hC V hl.1 (c_isIn l D T idl (nI k9)) w_472 (List.mem_of_getElem? (i := 13) rfl) w_2 w_471 (by decide +kernel) rfl ⟨(Nat.le_of_ble_eq_true rfl), (Nat.le_of_ble_eq_true rfl)⟩ [] rfl rfl (Nat.le_of_ble_eq_true rfl) dX5_passByCustom_21 ⟨(Nat.le_of_ble_eq_true rfl), (Nat.le_of_ble_eq_true rfl)⟩ rfl (fun r w1 H locs hQ V => ?_)
        rcases hQ with ⟨rfl, rfl⟩ | ⟨rfl, rfl⟩
        · have V : gW D T A s [(a0, .inr (5, [.int (nI an), .int am, .int al, .int ao, .int au, .ref a1, .ref a2, .ref a3, .ref a4, .ref a5, .ref a6, .ref a7, .ref a8, .ref a9, .ref a10])), (a1, .inl (T 0, 10, .inl af1)), (a2, .inl (T 0, 10, .inl af2)), (a3, .inl (T 0, 10, .inl af3)), (a4, .inl (T 0, 10, .inl af4)), (a5, .inl (T 0, 10, .inl af5)), (a6, .inl (T 0, 10, .inl af6)), (a7, .inl (T 0, 10, .inl af7)), (a8, .inl (T 0, 10, .inl af8)), (a9, .inl (T 0, 10, .inl af9)), (a10, .inl (T 0, 10, .inl af10))] H locs := V _ [] rfl rfl rfl (by decide +kernel) rfl
          show W p l e _ s m args below meth c H locs _ _ _ (F0 m 24 ls [.int (nI 1)])
          refine lv_if_eq (tgt := 30) hx hb dX5_passByCustom_24 (by decide) (fun c => absurd (show (nI 1) = 0 from c) (by decide +kernel)) (fun _ => ?_)
          refine lv_goto (tgt := 81) hx hb dX5_passByCustom_27 (by decide) ?_
          refine lv_iinc (v := (nI (k9 + 1))) (lv' := [(6, .int (nI (k9 + 1))), (5, .int x9_5), (4, .int x9_4), (0, .ref a0), (1, .int idl), (2, .int sf), (3, .int sb)]) hx hb dX5_passByCustom_81 hl (k := 0) rfl (nI_1 _) (by decide) rfl (fun ls hl => ?_)
          refine lv_goto (tgt := 9) hx hb dX5_passByCustom_84 (by decide) ?_
          exact ih_9 (k9 + 1) x9_5 x9_4 (by omega) (by omega) _ _ _ V (lv_sub hl [0, 1, 2, 3, 4, 5, 6] rfl)
        · have V : gW D T A s [(a0, .inr (5, [.int (nI an), .int am, .int al, .int ao, .int au, .ref a1, .ref a2, .ref a3, .ref a4, .ref a5, .ref a6, .ref a7, .ref a8, .ref a9, .ref a10])), (a1, .inl (T 0, 10, .inl af1)), (a2, .inl (T 0, 10, .inl af2)), (a3, .inl (T 0, 10, .inl af3)), (a4, .inl (T 0, 10, .inl af4)), (a5, .inl (T 0, 10, .inl af5)), (a6, .inl (T 0, 10, .inl af6)), (a7, .inl (T 0, 10, .inl af7)), (a8, .inl (T 0, 10, .inl af8)), (a9, .inl (T 0, 10, .inl af9)), (a10, .inl (T 0, 10, .inl af10))] H locs := V _ [] rfl rfl rfl (by decide +kernel) rfl
          show W p l e _ s m args below meth c H locs _ _ _ (F0 m 24 ls [.int (nI 0)])
          refine lv_if_eq (tgt := 30) hx hb dX5_passByCustom_24 (by decide) (fun _ => ?_) (fun c => absurd (show (nI 0) = 0 by decide +kernel) c)
          refine lv_aload_n hx hb dX5_passByCustom_30 rfl (lv_at hl 3 rfl) ?_
          refine lv_iload hx hb dX5_passByCustom_31 (lv_at hl 0 rfl) ?_
          refine g_callVU (nA := 1) hC V hl.1 (s_canStrike l D T a0 k9 an am al ao au a1 a2 a3 a4 a5 a6 a7 a8 a9 a10 af3 af4 af5 af6 af7 (by first | assumption | omega)) w_473 w_474 w_475 w_3 w_476 (by decide +kernel) rfl ⟨(Nat.le_of_ble_eq_true rfl), (Nat.le_of_ble_eq_true rfl)⟩ 0 (ci := 5) rfl rfl [0, 3, 4, 5, 6, 7] rfl rfl (Nat.le_of_ble_eq_true rfl) dX5_passByCustom_33 ⟨(Nat.le_of_ble_eq_true rfl), (Nat.le_of_ble_eq_true rfl)⟩ rfl (fun r w1 H locs hQ V => ?_)
          rcases hQ with ⟨rfl, rfl, f_25, f_26, f_27⟩ | ⟨rfl, rfl, f_28⟩
          · have V : gW D T A s [(a0, .inr (5, [.int (nI an), .int am, .int al, .int ao, .int au, .ref a1, .ref a2, .ref a3, .ref a4, .ref a5, .ref a6, .ref a7, .ref a8, .ref a9, .ref a10])), (a1, .inl (T 0, 10, .inl af1)), (a2, .inl (T 0, 10, .inl af2)), (a3, .inl (T 0, 10, .inl af3)), (a4, .inl (T 0, 10, .inl af4)), (a5, .inl (T 0, 10, .inl af5)), (a6, .inl (T 0, 10, .inl af6)), (a7, .inl (T 0, 10, .inl af7)), (a8, .inl (T 0, 10, .inl af8)), (a9, .inl (T 0, 10, .inl af9)), (a10, .inl (T 0, 10, .inl af10))] H locs := V _ [0, 2, 0, 0, 0, 0] rfl rfl rfl (by decide +kernel) rfl
            show W p l e _ s m args below meth c H locs _ _ _ (F0 m 36 ls [.int (nI 1)])
            refine lv_if_eq (tgt := 51) hx hb dX5_passByCustom_36 (by decide) (fun c => absurd (show (nI 1) = 0 from c) (by decide +kernel)) (fun _ => ?_)
            refine lv_iload hx hb dX5_passByCustom_39 (lv_at hl 2 rfl) ?_
            refine lv_iconst (v := (nI 1)) hx hb dX5_passByCustom_41 (by decide +kernel) ?_
            refine lv_iload hx hb dX5_passByCustom_42 (lv_at hl 0 rfl) ?_
            refine lv_ishl hx hb dX5_passByCustom_44 ?_
            refine lv_ior hx hb dX5_passByCustom_45 ?_
            refine lv_istore (lv' := [(4, .int (x9_4 ||| ((nI 1) <<< ((nI k9) &&& 31)))), (6, .int (nI k9)), (5, .int x9_5), (0, .ref a0), (1, .int idl), (2, .int sf), (3, .int sb)]) hx hb dX5_passByCustom_46 hl (by decide) rfl (fun ls hl => ?_)
            refine lv_goto (tgt := 81) hx hb dX5_passByCustom_48 (by decide) ?_
            refine lv_iinc (v := (nI (k9 + 1))) (lv' := [(6, .int (nI (k9 + 1))), (4, .int (x9_4 ||| ((nI 1) <<< ((nI k9) &&& 31)))), (5, .int x9_5), (0, .ref a0), (1, .int idl), (2, .int sf), (3, .int sb)]) hx hb dX5_passByCustom_81 hl (k := 1) rfl (nI_1 _) (by decide) rfl (fun ls hl => ?_)
            refine lv_goto (tgt := 9) hx hb dX5_passByCustom_84 (by decide) ?_
            exact ih_9 (k9 + 1) x9_5 (x9_4 ||| ((nI 1) <<< ((nI k9) &&& 31))) (by omega) (by omega) _ _ _ V (lv_sub hl [0, 2, 1, 3, 4, 5, 6] rfl)
          · have V : gW D T A s [(a0, .inr (5, [.int (nI an), .int am, .int al, .int ao, .int au, .ref a1, .ref a2, .ref a3, .ref a4, .ref a5, .ref a6, .ref a7, .ref a8, .ref a9, .ref a10])), (a1, .inl (T 0, 10, .inl af1)), (a2, .inl (T 0, 10, .inl af2)), (a3, .inl (T 0, 10, .inl af3)), (a4, .inl (T 0, 10, .inl af4)), (a5, .inl (T 0, 10, .inl af5)), (a6, .inl (T 0, 10, .inl af6)), (a7, .inl (T 0, 10, .inl af7)), (a8, .inl (T 0, 10, .inl af8)), (a9, .inl (T 0, 10, .inl af9)), (a10, .inl (T 0, 10, .inl af10))] H locs := V _ [0, 2, 0, 0, 0, 0] rfl rfl rfl (by decide +kernel) rfl
            show W p l e _ s m args below meth c H locs _ _ _ (F0 m 36 ls [.int (nI 0)])
            refine lv_if_eq (tgt := 51) hx hb dX5_passByCustom_36 (by decide) (fun _ => ?_) (fun c => absurd (show (nI 0) = 0 by decide +kernel) c)
            refine lv_aload_n hx hb dX5_passByCustom_51 rfl (lv_at hl 3 rfl) ?_
            refine lv_aload_n hx hb dX5_passByCustom_52 rfl (lv_at hl 3 rfl) ?_
            refine g_get hC V (ci := 5) uwX5 0 rfl rfl 13 (by decide) w_82 rfl rfl dX5_passByCustom_53 ?_
            refine lv_iload hx hb dX5_passByCustom_56 (lv_at hl 0 rfl) ?_
            obtain ⟨j_29, hj_29, ej_29⟩ := bd_ex (h_t k9 (by omega))
            refine g_iald hC V 9 rfl (vp_in_nI (by omega) (by omega)) (v := (nI j_29)) (by rw [nI_clamp (by omega)]; exact ej_29) dX5_passByCustom_58 ?_
            refine lv_aload_n hx hb dX5_passByCustom_59 rfl (lv_at hl 3 rfl) ?_
            refine g_get hC V (ci := 5) uwX5 0 rfl rfl 5 (by decide) w_51 rfl rfl dX5_passByCustom_60 ?_
            refine lv_iload hx hb dX5_passByCustom_63 (lv_at hl 0 rfl) ?_
            refine g_iald hC V 1 rfl (vp_in_nI (by omega) (by omega)) (v := (af1 k9)) (congrArg _ (nI_clamp (by omega))) dX5_passByCustom_65 ?_
            refine g_callVU (nA := 2) hC V hl.1 (s_bears l D T a0 j_29 (af1 k9) an am al ao au a1 a2 a3 a4 a5 a6 a7 a8 a9 a10 af3 af5 (by first | assumption | omega)) w_548 w_550 w_s14 w_3 w_551 (by decide +kernel) rfl ⟨(Nat.le_of_ble_eq_true rfl), (Nat.le_of_ble_eq_true rfl)⟩ 0 (ci := 5) rfl rfl [0, 3, 5] rfl rfl (Nat.le_of_ble_eq_true rfl) dX5_passByCustom_66 ⟨(Nat.le_of_ble_eq_true rfl), (Nat.le_of_ble_eq_true rfl)⟩ rfl (fun r w1 H locs hQ V => ?_)
            rcases hQ with ⟨rfl, rfl⟩ | ⟨rfl, rfl⟩
            · have V : gW D T A s [(a0, .inr (5, [.int (nI an), .int am, .int al, .int ao, .int au, .ref a1, .ref a2, .ref a3, .ref a4, .ref a5, .ref a6, .ref a7, .ref a8, .ref a9, .ref a10])), (a1, .inl (T 0, 10, .inl af1)), (a2, .inl (T 0, 10, .inl af2)), (a3, .inl (T 0, 10, .inl af3)), (a4, .inl (T 0, 10, .inl af4)), (a5, .inl (T 0, 10, .inl af5)), (a6, .inl (T 0, 10, .inl af6)), (a7, .inl (T 0, 10, .inl af7)), (a8, .inl (T 0, 10, .inl af8)), (a9, .inl (T 0, 10, .inl af9)), (a10, .inl (T 0, 10, .inl af10))] H locs := V _ [0, 2, 1] rfl rfl rfl (by decide +kernel) rfl
              show W p l e _ s m args below meth c H locs _ _ _ (F0 m 69 ls [.int (nI 1)])
              refine lv_if_eq (tgt := 81) hx hb dX5_passByCustom_69 (by decide) (fun c => absurd (show (nI 1) = 0 from c) (by decide +kernel)) (fun _ => ?_)
              refine lv_iload hx hb dX5_passByCustom_72 (lv_at hl 1 rfl) ?_
              refine lv_iconst (v := (nI 1)) hx hb dX5_passByCustom_74 (by decide +kernel) ?_
              refine lv_iload hx hb dX5_passByCustom_75 (lv_at hl 0 rfl) ?_
              refine lv_ishl hx hb dX5_passByCustom_77 ?_
              refine lv_ior hx hb dX5_passByCustom_78 ?_
              refine lv_istore (lv' := [(5, .int (x9_5 ||| ((nI 1) <<< ((nI k9) &&& 31)))), (6, .int (nI k9)), (4, .int x9_4), (0, .ref a0), (1, .int idl), (2, .int sf), (3, .int sb)]) hx hb dX5_passByCustom_79 hl (by decide) rfl (fun ls hl => ?_)
              refine lv_iinc (v := (nI (k9 + 1))) (lv' := [(6, .int (nI (k9 + 1))), (5, .int (x9_5 ||| ((nI 1) <<< ((nI k9) &&& 31)))), (4, .int x9_4), (0, .ref a0), (1, .int idl), (2, .int sf), (3, .int sb)]) hx hb dX5_passByCustom_81 hl (k := 1) rfl (nI_1 _) (by decide) rfl (fun ls hl => ?_)
              refine lv_goto (tgt := 9) hx hb dX5_passByCustom_84 (by decide) ?_
              exact ih_9 (k9 + 1) (x9_5 ||| ((nI 1) <<< ((nI k9) &&& 31))) x9_4 (by omega) (by omega) _ _ _ V (lv_sub hl [0, 1, 2, 3, 4, 5, 6] rfl)
            · have V : gW D T A s [(a0, .inr (5, [.int (nI an), .int am, .int al, .int ao, .int au, .ref a1, .ref a2, .ref a3, .ref a4, .ref a5, .ref a6, .ref a7, .ref a8, .ref a9, .ref a10])), (a1, .inl (T 0, 10, .inl af1)), (a2, .inl (T 0, 10, .inl af2)), (a3, .inl (T 0, 10, .inl af3)), (a4, .inl (T 0, 10, .inl af4)), (a5, .inl (T 0, 10, .inl af5)), (a6, .inl (T 0, 10, .inl af6)), (a7, .inl (T 0, 10, .inl af7)), (a8, .inl (T 0, 10, .inl af8)), (a9, .inl (T 0, 10, .inl af9)), (a10, .inl (T 0, 10, .inl af10))] H locs := V _ [0, 2, 1] rfl rfl rfl (by decide +kernel) rfl
              show W p l e _ s m args below meth c H locs _ _ _ (F0 m 69 ls [.int (nI 0)])
              refine lv_if_eq (tgt := 81) hx hb dX5_passByCustom_69 (by decide) (fun _ => ?_) (fun c => absurd (show (nI 0) = 0 by decide +kernel) c)
              refine lv_iinc (v := (nI (k9 + 1))) (lv' := [(6, .int (nI (k9 + 1))), (5, .int x9_5), (4, .int x9_4), (0, .ref a0), (1, .int idl), (2, .int sf), (3, .int sb)]) hx hb dX5_passByCustom_81 hl (k := 0) rfl (nI_1 _) (by decide) rfl (fun ls hl => ?_)
              refine lv_goto (tgt := 9) hx hb dX5_passByCustom_84 (by decide) ?_
              exact ih_9 (k9 + 1) x9_5 x9_4 (by omega) (by omega) _ _ _ V (lv_sub hl [0, 1, 2, 3, 4, 5, 6] rfl)
  exact L_1 _ 0 (nI 0) (nI 0) (by omega) (Nat.lt_succ_self _) _ _ _ V (lv_sub hl [0, 1, 2, 3, 4, 5, 6] rfl)

def q_s_passAll (T : Nat → ClassId) (a0 : Nat) (cn : Nat) (idl : Int32) (sf : Int32) (sb : Int32) (an : Nat) (am : Int32) (al : Int32) (ao : Int32) (au : Int32) (a1 : Nat) (a2 : Nat) (a3 : Nat) (a4 : Nat) (a5 : Nat) (a6 : Nat) (a7 : Nat) (a8 : Nat) (a9 : Nat) (a10 : Nat) (af1 : Nat → Int32) (af2 : Nat → Int32) (af3 : Nat → Int32) (af4 : Nat → Int32) (af5 : Nat → Int32) (af6 : Nat → Int32) (af7 : Nat → Int32) (af8 : Nat → Int32) (af9 : Nat → Int32) (af10 : Nat → Int32) : Option Value → va_W → Prop := fun rr ww => (∃ (z : Int32) (u : Int32) (mm : Int32) (g3 : Nat → Int32) (g7 : Nat → Int32) (g8 : Nat → Int32) (g10 : Nat → Int32), rr = some (.int z) ∧ ww = [(a0, .inr (5, [.int (nI an), .int mm, .int al, .int ao, .int u, .ref a1, .ref a2, .ref a3, .ref a4, .ref a5, .ref a6, .ref a7, .ref a8, .ref a9, .ref a10])), (a1, .inl (T 0, 10, .inl af1)), (a2, .inl (T 0, 10, .inl af2)), (a3, .inl (T 0, 10, .inl g3)), (a4, .inl (T 0, 10, .inl af4)), (a5, .inl (T 0, 10, .inl af5)), (a6, .inl (T 0, 10, .inl af6)), (a7, .inl (T 0, 10, .inl g7)), (a8, .inl (T 0, 10, .inl g8)), (a9, .inl (T 0, 10, .inl af9)), (a10, .inl (T 0, 10, .inl g10))])
set_option maxHeartbeats 4000000 in
set_option maxRecDepth 100000 in
theorem s_passAll (l : Launch) (D : va_G) (T : Nat → ClassId) (a0 : Nat) (cn : Nat) (idl : Int32) (sf : Int32) (sb : Int32) (an : Nat) (am : Int32) (al : Int32) (ao : Int32) (au : Int32) (a1 : Nat) (a2 : Nat) (a3 : Nat) (a4 : Nat) (a5 : Nat) (a6 : Nat) (a7 : Nat) (a8 : Nat) (a9 : Nat) (a10 : Nat) (af1 : Nat → Int32) (af2 : Nat → Int32) (af3 : Nat → Int32) (af4 : Nat → Int32) (af5 : Nat → Int32) (af6 : Nat → Int32) (af7 : Nat → Int32) (af8 : Nat → Int32) (af9 : Nat → Int32) (af10 : Nat → Int32) (h_n : an ≤ 10) (h_t : ∀ i, i < an → bd (af9 i) an) (h_c : cn ≤ 1000) : Ct l yX5_passAllByCustom cX5_passAllByCustom 7 (some .int) 4 0 0 D T [.ref a0, .int (nI cn), .int idl, .int sf, .int sb] [(a0, .inr (5, [.int (nI an), .int am, .int al, .int ao, .int au, .ref a1, .ref a2, .ref a3, .ref a4, .ref a5, .ref a6, .ref a7, .ref a8, .ref a9, .ref a10])), (a1, .inl (T 0, 10, .inl af1)), (a2, .inl (T 0, 10, .inl af2)), (a3, .inl (T 0, 10, .inl af3)), (a4, .inl (T 0, 10, .inl af4)), (a5, .inl (T 0, 10, .inl af5)), (a6, .inl (T 0, 10, .inl af6)), (a7, .inl (T 0, 10, .inl af7)), (a8, .inl (T 0, 10, .inl af8)), (a9, .inl (T 0, 10, .inl af9)), (a10, .inl (T 0, 10, .inl af10))] (q_s_passAll T a0 cn idl sf sb an am al ao au a1 a2 a3 a4 a5 a6 a7 a8 a9 a10 af1 af2 af3 af4 af5 af6 af7 af8 af9 af10) := by
  refine Ct.of (cc := cX5_passAllByCustom) (maxL := 7) (ret := (some .int)) (by decide) (Nat.le_of_ble_eq_true rfl) ?_
  intro p e s m args below meth c A ls hC hnm V hl
  obtain ⟨hx, hb, hr, hml, hown, hts, hlocks⟩ := id hC
  generalize hH : s.heap = H at V ⊢
  clear hH
  have hl : lv_has ls 7 [(0, .ref a0), (1, .int (nI cn)), (2, .int idl), (3, .int sf), (4, .int sb)] := hl
  generalize hlo : ([] : List Loc) = locs at V ⊢
  clear hlo
  refine lv_iconst (v := (nI 0)) hx hb dX5_passAllByCustom_0 (by decide +kernel) ?_
  refine lv_istore (lv' := [(5, .int (nI 0)), (0, .ref a0), (1, .int (nI cn)), (2, .int idl), (3, .int sf), (4, .int sb)]) hx hb dX5_passAllByCustom_1 hl (by decide) rfl (fun ls hl => ?_)
  refine lv_iconst (v := (nI 0)) hx hb dX5_passAllByCustom_3 (by decide +kernel) ?_
  refine lv_istore (lv' := [(6, .int (nI 0)), (5, .int (nI 0)), (0, .ref a0), (1, .int (nI cn)), (2, .int idl), (3, .int sf), (4, .int sb)]) hx hb dX5_passAllByCustom_4 hl (by decide) rfl (fun ls hl => ?_)
  have L_1 : ∀ (fu : Nat) (k6 : Nat) (x6_5 : Int32) (mv : Int32) (uv : Int32) (gb : Nat → Int32) (gc : Nat → Int32) (gd : Nat → Int32) (ge : Nat → Int32), k6 ≤ cn → cn - k6 < fu → ∀ (H : Heap) (locs : List Loc) (ls : Array Slot), gW D T A s [(a0, .inr (5, [.int (nI an), .int mv, .int al, .int ao, .int uv, .ref a1, .ref a2, .ref a3, .ref a4, .ref a5, .ref a6, .ref a7, .ref a8, .ref a9, .ref a10])), (a1, .inl (T 0, 10, .inl af1)), (a2, .inl (T 0, 10, .inl af2)), (a3, .inl (T 0, 10, .inl gb)), (a4, .inl (T 0, 10, .inl af4)), (a5, .inl (T 0, 10, .inl af5)), (a6, .inl (T 0, 10, .inl af6)), (a7, .inl (T 0, 10, .inl gc)), (a8, .inl (T 0, 10, .inl gd)), (a9, .inl (T 0, 10, .inl af9)), (a10, .inl (T 0, 10, .inl ge))] H locs → lv_has ls 7 [(6, .int (nI k6)), (5, .int x6_5), (0, .ref a0), (1, .int (nI cn)), (2, .int idl), (3, .int sf), (4, .int sb)] → W p l e (rmD 4 0 0) s m args below meth c H locs 0 0 (MQ below (gQ D A (q_s_passAll T a0 cn idl sf sb an am al ao au a1 a2 a3 a4 a5 a6 a7 a8 a9 a10 af1 af2 af3 af4 af5 af6 af7 af8 af9 af10)) args s 0 0 A) (F0 m 6 ls []) := by
    intro fu_6
    induction fu_6 with
    | zero => intro k6 x6_5 mv uv gb gc gd ge hk6 hmu; exact absurd hmu (Nat.not_lt_zero _)
    | succ fu_6 ih_6 =>
      intro k6 x6_5 mv uv gb gc gd ge hk6 hmu_6 H locs ls V hl
      refine lv_iload hx hb dX5_passAllByCustom_6 (lv_at hl 0 rfl) ?_
      refine lv_iload_n hx hb dX5_passAllByCustom_8 rfl (lv_at hl 3 rfl) ?_
      refine lv_icmp_ge (tgt := 31) hx hb dX5_passAllByCustom_9 (by decide) (fun c_2 => ?_) (fun c_2 => ?_)
      · skip
        have c_2 := b_le (by omega) (by omega) c_2
        refine lv_iload hx hb dX5_passAllByCustom_31 (lv_at hl 1 rfl) ?_
        exact g_iret (Qr := (q_s_passAll T a0 cn idl sf sb an am al ao au a1 a2 a3 a4 a5 a6 a7 a8 a9 a10 af1 af2 af3 af4 af5 af6 af7 af8 af9 af10)) hC V ⟨(Nat.le_of_ble_eq_true rfl), (Nat.le_of_ble_eq_true rfl)⟩ ⟨x6_5, uv, mv, gb, gc, gd, ge, rfl, rfl⟩ dX5_passAllByCustom_33
      · skip
        have c_2 := b_nle (by omega) (by omega) c_2
        refine lv_iload hx hb dX5_passAllByCustom_12 (lv_at hl 1 rfl) ?_
        refine lv_aload_n hx hb dX5_passAllByCustom_14 rfl (lv_at hl 2 rfl) ?_
        refine lv_iload_n hx hb dX5_passAllByCustom_15 rfl (lv_at hl 4 rfl) ?_
        refine lv_iload_n hx hb dX5_passAllByCustom_16 rfl (lv_at hl 5 rfl) ?_
        refine lv_iload hx hb dX5_passAllByCustom_17 (lv_at hl 6 rfl) ?_
        refine g_callV (wr := []) (nA := 3) hC V hl.1 (s_passByCustom l D T a0 idl sf sb an mv al ao uv a1 a2 a3 a4 a5 a6 a7 a8 a9 a10 af1 af2 gb af4 af5 af6 gc gd af9 ge (by first | assumption | omega) (by first | assumption | omega)) w_544 w_545 w_546 w_3 w_547 (by decide +kernel) rfl ⟨(Nat.le_of_ble_eq_true rfl), (Nat.le_of_ble_eq_true rfl)⟩ 0 (ci := 5) rfl rfl [0, 1, 2, 3, 4, 5, 6, 7, 8, 9, 10] [] rfl rfl rfl rfl (by decide) (Nat.le_of_ble_eq_true rfl) dX5_passAllByCustom_19 ⟨(Nat.le_of_ble_eq_true rfl), (Nat.le_of_ble_eq_true rfl)⟩ rfl (fun r w1 H locs hQ V => ?_)
        obtain ⟨z_3, u_4, g3_5, g7_6, g8_7, g10_8, rfl, rfl⟩ := hQ
        have V : gW D T A s [(a0, .inr (5, [.int (nI an), .int (mv + (nI 1)), .int al, .int ao, .int u_4, .ref a1, .ref a2, .ref a3, .ref a4, .ref a5, .ref a6, .ref a7, .ref a8, .ref a9, .ref a10])), (a1, .inl (T 0, 10, .inl af1)), (a2, .inl (T 0, 10, .inl af2)), (a3, .inl (T 0, 10, .inl g3_5)), (a4, .inl (T 0, 10, .inl af4)), (a5, .inl (T 0, 10, .inl af5)), (a6, .inl (T 0, 10, .inl af6)), (a7, .inl (T 0, 10, .inl g7_6)), (a8, .inl (T 0, 10, .inl g8_7)), (a9, .inl (T 0, 10, .inl af9)), (a10, .inl (T 0, 10, .inl g10_8))] H locs := V
        show W p l e _ s m args below meth c H locs _ _ _ (F0 m 22 ls [.int z_3, .int x6_5])
        refine lv_iadd hx hb dX5_passAllByCustom_22 ?_
        refine lv_istore (lv' := [(5, .int (x6_5 + z_3)), (6, .int (nI k6)), (0, .ref a0), (1, .int (nI cn)), (2, .int idl), (3, .int sf), (4, .int sb)]) hx hb dX5_passAllByCustom_23 hl (by decide) rfl (fun ls hl => ?_)
        refine lv_iinc (v := (nI (k6 + 1))) (lv' := [(6, .int (nI (k6 + 1))), (5, .int (x6_5 + z_3)), (0, .ref a0), (1, .int (nI cn)), (2, .int idl), (3, .int sf), (4, .int sb)]) hx hb dX5_passAllByCustom_25 hl (k := 1) rfl (nI_1 _) (by decide) rfl (fun ls hl => ?_)
        refine lv_goto (tgt := 6) hx hb dX5_passAllByCustom_28 (by decide) ?_
        exact ih_6 (k6 + 1) (x6_5 + z_3) (mv + (nI 1)) u_4 g3_5 g7_6 g8_7 g10_8 (by omega) (by omega) _ _ _ V (lv_sub hl [0, 1, 2, 3, 4, 5, 6] rfl)
  exact L_1 _ 0 (nI 0) am au af3 af7 af8 af10 (by omega) (Nat.lt_succ_self _) _ _ _ V (lv_sub hl [0, 1, 2, 3, 4, 5, 6] rfl)

def q_s_piecesDone (T : Nat → ClassId) (a0 : Nat) (an : Nat) (am : Int32) (al : Int32) (ao : Int32) (au : Int32) (a1 : Nat) (a2 : Nat) (a3 : Nat) (a4 : Nat) (a5 : Nat) (a6 : Nat) (a7 : Nat) (a8 : Nat) (a9 : Nat) (a10 : Nat) (af6 : Nat → Int32) (af7 : Nat → Int32) : Option Value → va_W → Prop := fun rr ww => (∃ (z : Int32), rr = some (.int z) ∧ ww = [(a0, .inr (5, [.int (nI an), .int am, .int al, .int ao, .int au, .ref a1, .ref a2, .ref a3, .ref a4, .ref a5, .ref a6, .ref a7, .ref a8, .ref a9, .ref a10])), (a6, .inl (T 0, 10, .inl af6)), (a7, .inl (T 0, 10, .inl af7))])
set_option maxHeartbeats 4000000 in
set_option maxRecDepth 100000 in
theorem s_piecesDone (l : Launch) (D : va_G) (T : Nat → ClassId) (a0 : Nat) (an : Nat) (am : Int32) (al : Int32) (ao : Int32) (au : Int32) (a1 : Nat) (a2 : Nat) (a3 : Nat) (a4 : Nat) (a5 : Nat) (a6 : Nat) (a7 : Nat) (a8 : Nat) (a9 : Nat) (a10 : Nat) (af6 : Nat → Int32) (af7 : Nat → Int32) (h_n : an ≤ 10) : Ct l yX5_piecesDone cX5_piecesDone 3 (some .int) 1 0 0 D T [.ref a0] [(a0, .inr (5, [.int (nI an), .int am, .int al, .int ao, .int au, .ref a1, .ref a2, .ref a3, .ref a4, .ref a5, .ref a6, .ref a7, .ref a8, .ref a9, .ref a10])), (a6, .inl (T 0, 10, .inl af6)), (a7, .inl (T 0, 10, .inl af7))] (q_s_piecesDone T a0 an am al ao au a1 a2 a3 a4 a5 a6 a7 a8 a9 a10 af6 af7) := by
  refine Ct.of (cc := cX5_piecesDone) (maxL := 3) (ret := (some .int)) (by decide) (Nat.le_of_ble_eq_true rfl) ?_
  intro p e s m args below meth c A ls hC hnm V hl
  obtain ⟨hx, hb, hr, hml, hown, hts, hlocks⟩ := id hC
  generalize hH : s.heap = H at V ⊢
  clear hH
  have hl : lv_has ls 3 [(0, .ref a0)] := hl
  generalize hlo : ([] : List Loc) = locs at V ⊢
  clear hlo
  refine lv_iconst (v := (nI 0)) hx hb dX5_piecesDone_0 (by decide +kernel) ?_
  refine lv_istore_n (lv' := [(1, .int (nI 0)), (0, .ref a0)]) hx hb dX5_piecesDone_1 rfl hl (by decide) rfl (fun ls hl => ?_)
  refine lv_iconst (v := (nI 0)) hx hb dX5_piecesDone_2 (by decide +kernel) ?_
  refine lv_istore_n (lv' := [(2, .int (nI 0)), (1, .int (nI 0)), (0, .ref a0)]) hx hb dX5_piecesDone_3 rfl hl (by decide) rfl (fun ls hl => ?_)
  have L_1 : ∀ (fu : Nat) (k4 : Nat) (x4_1 : Int32), k4 ≤ an → an - k4 < fu → ∀ (H : Heap) (locs : List Loc) (ls : Array Slot), gW D T A s [(a0, .inr (5, [.int (nI an), .int am, .int al, .int ao, .int au, .ref a1, .ref a2, .ref a3, .ref a4, .ref a5, .ref a6, .ref a7, .ref a8, .ref a9, .ref a10])), (a6, .inl (T 0, 10, .inl af6)), (a7, .inl (T 0, 10, .inl af7))] H locs → lv_has ls 3 [(2, .int (nI k4)), (1, .int x4_1), (0, .ref a0)] → W p l e (rmD 1 0 0) s m args below meth c H locs 0 0 (MQ below (gQ D A (q_s_piecesDone T a0 an am al ao au a1 a2 a3 a4 a5 a6 a7 a8 a9 a10 af6 af7)) args s 0 0 A) (F0 m 4 ls []) := by
    intro fu_4
    induction fu_4 with
    | zero => intro k4 x4_1 hk4 hmu; exact absurd hmu (Nat.not_lt_zero _)
    | succ fu_4 ih_4 =>
      intro k4 x4_1 hk4 hmu_4 H locs ls V hl
      refine lv_iload_n hx hb dX5_piecesDone_4 rfl (lv_at hl 0 rfl) ?_
      refine lv_aload_n hx hb dX5_piecesDone_5 rfl (lv_at hl 2 rfl) ?_
      refine g_get hC V (ci := 5) uwX5 0 rfl rfl 0 (by decide) w_33 rfl rfl dX5_piecesDone_6 ?_
      refine lv_icmp_ge (tgt := 34) hx hb dX5_piecesDone_9 (by decide) (fun c_2 => ?_) (fun c_2 => ?_)
      · skip
        have c_2 := b_le (by omega) (by omega) c_2
        refine lv_iload_n hx hb dX5_piecesDone_34 rfl (lv_at hl 1 rfl) ?_
        exact g_iret (Qr := (q_s_piecesDone T a0 an am al ao au a1 a2 a3 a4 a5 a6 a7 a8 a9 a10 af6 af7)) hC V ⟨(Nat.le_of_ble_eq_true rfl), (Nat.le_of_ble_eq_true rfl)⟩ ⟨x4_1, rfl, rfl⟩ dX5_piecesDone_35
      · skip
        have c_2 := b_nle (by omega) (by omega) c_2
        refine lv_iload_n hx hb dX5_piecesDone_12 rfl (lv_at hl 1 rfl) ?_
        refine lv_aload_n hx hb dX5_piecesDone_13 rfl (lv_at hl 2 rfl) ?_
        refine lv_iload_n hx hb dX5_piecesDone_14 rfl (lv_at hl 0 rfl) ?_
        refine g_callV (wr := []) (nA := 1) hC V hl.1 (s_isDone l D T a0 k4 an am al ao au a1 a2 a3 a4 a5 a6 a7 a8 a9 a10 af6 af7 (by first | assumption | omega)) w_477 w_430 w_431 w_3 w_432 (by decide +kernel) rfl ⟨(Nat.le_of_ble_eq_true rfl), (Nat.le_of_ble_eq_true rfl)⟩ 0 (ci := 5) rfl rfl [0, 1, 2] [] rfl rfl rfl rfl (by decide) (Nat.le_of_ble_eq_true rfl) dX5_piecesDone_15 ⟨(Nat.le_of_ble_eq_true rfl), (Nat.le_of_ble_eq_true rfl)⟩ rfl (fun r w1 H locs hQ V => ?_)
        rcases hQ with ⟨rfl, rfl, f_3⟩ | ⟨rfl, rfl, f_4⟩
        · have V : gW D T A s [(a0, .inr (5, [.int (nI an), .int am, .int al, .int ao, .int au, .ref a1, .ref a2, .ref a3, .ref a4, .ref a5, .ref a6, .ref a7, .ref a8, .ref a9, .ref a10])), (a6, .inl (T 0, 10, .inl af6)), (a7, .inl (T 0, 10, .inl af7))] H locs := V
          show W p l e _ s m args below meth c H locs _ _ _ (F0 m 18 ls [.int (nI 1), .int x4_1])
          refine lv_if_eq (tgt := 25) hx hb dX5_piecesDone_18 (by decide) (fun c => absurd (show (nI 1) = 0 from c) (by decide +kernel)) (fun _ => ?_)
          refine lv_iconst (v := (nI 1)) hx hb dX5_piecesDone_21 (by decide +kernel) ?_
          refine lv_goto (tgt := 26) hx hb dX5_piecesDone_22 (by decide) ?_
          refine lv_iadd hx hb dX5_piecesDone_26 ?_
          refine lv_istore_n (lv' := [(1, .int (x4_1 + (nI 1))), (2, .int (nI k4)), (0, .ref a0)]) hx hb dX5_piecesDone_27 rfl hl (by decide) rfl (fun ls hl => ?_)
          refine lv_iinc (v := (nI (k4 + 1))) (lv' := [(2, .int (nI (k4 + 1))), (1, .int (x4_1 + (nI 1))), (0, .ref a0)]) hx hb dX5_piecesDone_28 hl (k := 1) rfl (nI_1 _) (by decide) rfl (fun ls hl => ?_)
          refine lv_goto (tgt := 4) hx hb dX5_piecesDone_31 (by decide) ?_
          exact ih_4 (k4 + 1) (x4_1 + (nI 1)) (by omega) (by omega) _ _ _ V (lv_sub hl [0, 1, 2] rfl)
        · have V : gW D T A s [(a0, .inr (5, [.int (nI an), .int am, .int al, .int ao, .int au, .ref a1, .ref a2, .ref a3, .ref a4, .ref a5, .ref a6, .ref a7, .ref a8, .ref a9, .ref a10])), (a6, .inl (T 0, 10, .inl af6)), (a7, .inl (T 0, 10, .inl af7))] H locs := V
          show W p l e _ s m args below meth c H locs _ _ _ (F0 m 18 ls [.int (nI 0), .int x4_1])
          refine lv_if_eq (tgt := 25) hx hb dX5_piecesDone_18 (by decide) (fun _ => ?_) (fun c => absurd (show (nI 0) = 0 by decide +kernel) c)
          refine lv_iconst (v := (nI 0)) hx hb dX5_piecesDone_25 (by decide +kernel) ?_
          refine lv_iadd hx hb dX5_piecesDone_26 ?_
          refine lv_istore_n (lv' := [(1, .int (x4_1 + (nI 0))), (2, .int (nI k4)), (0, .ref a0)]) hx hb dX5_piecesDone_27 rfl hl (by decide) rfl (fun ls hl => ?_)
          refine lv_iinc (v := (nI (k4 + 1))) (lv' := [(2, .int (nI (k4 + 1))), (1, .int (x4_1 + (nI 0))), (0, .ref a0)]) hx hb dX5_piecesDone_28 hl (k := 1) rfl (nI_1 _) (by decide) rfl (fun ls hl => ?_)
          refine lv_goto (tgt := 4) hx hb dX5_piecesDone_31 (by decide) ?_
          exact ih_4 (k4 + 1) (x4_1 + (nI 0)) (by omega) (by omega) _ _ _ V (lv_sub hl [0, 1, 2] rfl)
  exact L_1 _ 0 (nI 0) (by omega) (Nat.lt_succ_self _) _ _ _ V (lv_sub hl [0, 1, 2] rfl)

def q_s_heatTogether (T : Nat → ClassId) (a0 : Nat) (an : Nat) (am : Int32) (al : Int32) (ao : Int32) (au : Int32) (a1 : Nat) (a2 : Nat) (a3 : Nat) (a4 : Nat) (a5 : Nat) (a6 : Nat) (a7 : Nat) (a8 : Nat) (a9 : Nat) (a10 : Nat) (af3 : Nat → Int32) : Option Value → va_W → Prop := fun rr ww => (∃ (z : Int32), rr = some (.int z) ∧ ww = [(a0, .inr (5, [.int (nI an), .int am, .int al, .int ao, .int au, .ref a1, .ref a2, .ref a3, .ref a4, .ref a5, .ref a6, .ref a7, .ref a8, .ref a9, .ref a10])), (a3, .inl (T 0, 10, .inl af3))])
set_option maxHeartbeats 4000000 in
set_option maxRecDepth 100000 in
theorem s_heatTogether (l : Launch) (D : va_G) (T : Nat → ClassId) (a0 : Nat) (an : Nat) (am : Int32) (al : Int32) (ao : Int32) (au : Int32) (a1 : Nat) (a2 : Nat) (a3 : Nat) (a4 : Nat) (a5 : Nat) (a6 : Nat) (a7 : Nat) (a8 : Nat) (a9 : Nat) (a10 : Nat) (af3 : Nat → Int32) (h_n : an ≤ 10) : Ct l yX5_heatTogether cX5_heatTogether 3 (some .int) 0 0 0 D T [.ref a0] [(a0, .inr (5, [.int (nI an), .int am, .int al, .int ao, .int au, .ref a1, .ref a2, .ref a3, .ref a4, .ref a5, .ref a6, .ref a7, .ref a8, .ref a9, .ref a10])), (a3, .inl (T 0, 10, .inl af3))] (q_s_heatTogether T a0 an am al ao au a1 a2 a3 a4 a5 a6 a7 a8 a9 a10 af3) := by
  refine Ct.of (cc := cX5_heatTogether) (maxL := 3) (ret := (some .int)) (by decide) (Nat.le_of_ble_eq_true rfl) ?_
  intro p e s m args below meth c A ls hC hnm V hl
  obtain ⟨hx, hb, hr, hml, hown, hts, hlocks⟩ := id hC
  generalize hH : s.heap = H at V ⊢
  clear hH
  have hl : lv_has ls 3 [(0, .ref a0)] := hl
  generalize hlo : ([] : List Loc) = locs at V ⊢
  clear hlo
  refine lv_iconst (v := (nI 0)) hx hb dX5_heatTogether_0 (by decide +kernel) ?_
  refine lv_istore_n (lv' := [(1, .int (nI 0)), (0, .ref a0)]) hx hb dX5_heatTogether_1 rfl hl (by decide) rfl (fun ls hl => ?_)
  refine lv_iconst (v := (nI 0)) hx hb dX5_heatTogether_2 (by decide +kernel) ?_
  refine lv_istore_n (lv' := [(2, .int (nI 0)), (1, .int (nI 0)), (0, .ref a0)]) hx hb dX5_heatTogether_3 rfl hl (by decide) rfl (fun ls hl => ?_)
  have L_1 : ∀ (fu : Nat) (k4 : Nat) (x4_1 : Int32), k4 ≤ an → an - k4 < fu → ∀ (H : Heap) (locs : List Loc) (ls : Array Slot), gW D T A s [(a0, .inr (5, [.int (nI an), .int am, .int al, .int ao, .int au, .ref a1, .ref a2, .ref a3, .ref a4, .ref a5, .ref a6, .ref a7, .ref a8, .ref a9, .ref a10])), (a3, .inl (T 0, 10, .inl af3))] H locs → lv_has ls 3 [(2, .int (nI k4)), (1, .int x4_1), (0, .ref a0)] → W p l e (rmD 0 0 0) s m args below meth c H locs 0 0 (MQ below (gQ D A (q_s_heatTogether T a0 an am al ao au a1 a2 a3 a4 a5 a6 a7 a8 a9 a10 af3)) args s 0 0 A) (F0 m 4 ls []) := by
    intro fu_4
    induction fu_4 with
    | zero => intro k4 x4_1 hk4 hmu; exact absurd hmu (Nat.not_lt_zero _)
    | succ fu_4 ih_4 =>
      intro k4 x4_1 hk4 hmu_4 H locs ls V hl
      refine lv_iload_n hx hb dX5_heatTogether_4 rfl (lv_at hl 0 rfl) ?_
      refine lv_aload_n hx hb dX5_heatTogether_5 rfl (lv_at hl 2 rfl) ?_
      refine g_get hC V (ci := 5) uwX5 0 rfl rfl 0 (by decide) w_33 rfl rfl dX5_heatTogether_6 ?_
      refine lv_icmp_ge (tgt := 27) hx hb dX5_heatTogether_9 (by decide) (fun c_2 => ?_) (fun c_2 => ?_)
      · skip
        have c_2 := b_le (by omega) (by omega) c_2
        refine lv_iload_n hx hb dX5_heatTogether_27 rfl (lv_at hl 1 rfl) ?_
        exact g_iret (Qr := (q_s_heatTogether T a0 an am al ao au a1 a2 a3 a4 a5 a6 a7 a8 a9 a10 af3)) hC V ⟨(Nat.le_of_ble_eq_true rfl), (Nat.le_of_ble_eq_true rfl)⟩ ⟨x4_1, rfl, rfl⟩ dX5_heatTogether_28
      · skip
        have c_2 := b_nle (by omega) (by omega) c_2
        refine lv_iload_n hx hb dX5_heatTogether_12 rfl (lv_at hl 1 rfl) ?_
        refine lv_aload_n hx hb dX5_heatTogether_13 rfl (lv_at hl 2 rfl) ?_
        refine g_get hC V (ci := 5) uwX5 0 rfl rfl 7 (by decide) w_62 rfl rfl dX5_heatTogether_14 ?_
        refine lv_iload_n hx hb dX5_heatTogether_17 rfl (lv_at hl 0 rfl) ?_
        refine g_iald hC V 1 rfl (vp_in_nI (by omega) (by omega)) (v := (af3 k4)) (congrArg _ (nI_clamp (by omega))) dX5_heatTogether_18 ?_
        refine lv_iadd hx hb dX5_heatTogether_19 ?_
        refine lv_istore_n (lv' := [(1, .int (x4_1 + (af3 k4))), (2, .int (nI k4)), (0, .ref a0)]) hx hb dX5_heatTogether_20 rfl hl (by decide) rfl (fun ls hl => ?_)
        refine lv_iinc (v := (nI (k4 + 1))) (lv' := [(2, .int (nI (k4 + 1))), (1, .int (x4_1 + (af3 k4))), (0, .ref a0)]) hx hb dX5_heatTogether_21 hl (k := 1) rfl (nI_1 _) (by decide) rfl (fun ls hl => ?_)
        refine lv_goto (tgt := 4) hx hb dX5_heatTogether_24 (by decide) ?_
        exact ih_4 (k4 + 1) (x4_1 + (af3 k4)) (by omega) (by omega) _ _ _ V (lv_sub hl [0, 1, 2] rfl)
  exact L_1 _ 0 (nI 0) (by omega) (Nat.lt_succ_self _) _ _ _ V (lv_sub hl [0, 1, 2] rfl)

def q_s_workable (T : Nat → ClassId) (a0 : Nat) (an : Nat) (am : Int32) (al : Int32) (ao : Int32) (au : Int32) (a1 : Nat) (a2 : Nat) (a3 : Nat) (a4 : Nat) (a5 : Nat) (a6 : Nat) (a7 : Nat) (a8 : Nat) (a9 : Nat) (a10 : Nat) (af3 : Nat → Int32) (af4 : Nat → Int32) (af5 : Nat → Int32) : Option Value → va_W → Prop := fun rr ww => (∃ (z : Int32), rr = some (.int z) ∧ ww = [(a0, .inr (5, [.int (nI an), .int am, .int al, .int ao, .int au, .ref a1, .ref a2, .ref a3, .ref a4, .ref a5, .ref a6, .ref a7, .ref a8, .ref a9, .ref a10])), (a3, .inl (T 0, 10, .inl af3)), (a4, .inl (T 0, 10, .inl af4)), (a5, .inl (T 0, 10, .inl af5))])
set_option maxHeartbeats 4000000 in
set_option maxRecDepth 100000 in
theorem s_workable (l : Launch) (D : va_G) (T : Nat → ClassId) (a0 : Nat) (an : Nat) (am : Int32) (al : Int32) (ao : Int32) (au : Int32) (a1 : Nat) (a2 : Nat) (a3 : Nat) (a4 : Nat) (a5 : Nat) (a6 : Nat) (a7 : Nat) (a8 : Nat) (a9 : Nat) (a10 : Nat) (af3 : Nat → Int32) (af4 : Nat → Int32) (af5 : Nat → Int32) (h_n : an ≤ 10) : Ct l yX5_workable cX5_workable 3 (some .int) 1 0 0 D T [.ref a0] [(a0, .inr (5, [.int (nI an), .int am, .int al, .int ao, .int au, .ref a1, .ref a2, .ref a3, .ref a4, .ref a5, .ref a6, .ref a7, .ref a8, .ref a9, .ref a10])), (a3, .inl (T 0, 10, .inl af3)), (a4, .inl (T 0, 10, .inl af4)), (a5, .inl (T 0, 10, .inl af5))] (q_s_workable T a0 an am al ao au a1 a2 a3 a4 a5 a6 a7 a8 a9 a10 af3 af4 af5) := by
  refine Ct.of (cc := cX5_workable) (maxL := 3) (ret := (some .int)) (by decide) (Nat.le_of_ble_eq_true rfl) ?_
  intro p e s m args below meth c A ls hC hnm V hl
  obtain ⟨hx, hb, hr, hml, hown, hts, hlocks⟩ := id hC
  generalize hH : s.heap = H at V ⊢
  clear hH
  have hl : lv_has ls 3 [(0, .ref a0)] := hl
  generalize hlo : ([] : List Loc) = locs at V ⊢
  clear hlo
  refine lv_iconst (v := (nI 0)) hx hb dX5_workable_0 (by decide +kernel) ?_
  refine lv_istore_n (lv' := [(1, .int (nI 0)), (0, .ref a0)]) hx hb dX5_workable_1 rfl hl (by decide) rfl (fun ls hl => ?_)
  refine lv_iconst (v := (nI 0)) hx hb dX5_workable_2 (by decide +kernel) ?_
  refine lv_istore_n (lv' := [(2, .int (nI 0)), (1, .int (nI 0)), (0, .ref a0)]) hx hb dX5_workable_3 rfl hl (by decide) rfl (fun ls hl => ?_)
  have L_1 : ∀ (fu : Nat) (k4 : Nat) (x4_1 : Int32), k4 ≤ an → an - k4 < fu → ∀ (H : Heap) (locs : List Loc) (ls : Array Slot), gW D T A s [(a0, .inr (5, [.int (nI an), .int am, .int al, .int ao, .int au, .ref a1, .ref a2, .ref a3, .ref a4, .ref a5, .ref a6, .ref a7, .ref a8, .ref a9, .ref a10])), (a3, .inl (T 0, 10, .inl af3)), (a4, .inl (T 0, 10, .inl af4)), (a5, .inl (T 0, 10, .inl af5))] H locs → lv_has ls 3 [(2, .int (nI k4)), (1, .int x4_1), (0, .ref a0)] → W p l e (rmD 1 0 0) s m args below meth c H locs 0 0 (MQ below (gQ D A (q_s_workable T a0 an am al ao au a1 a2 a3 a4 a5 a6 a7 a8 a9 a10 af3 af4 af5)) args s 0 0 A) (F0 m 4 ls []) := by
    intro fu_4
    induction fu_4 with
    | zero => intro k4 x4_1 hk4 hmu; exact absurd hmu (Nat.not_lt_zero _)
    | succ fu_4 ih_4 =>
      intro k4 x4_1 hk4 hmu_4 H locs ls V hl
      refine lv_iload_n hx hb dX5_workable_4 rfl (lv_at hl 0 rfl) ?_
      refine lv_aload_n hx hb dX5_workable_5 rfl (lv_at hl 2 rfl) ?_
      refine g_get hC V (ci := 5) uwX5 0 rfl rfl 0 (by decide) w_33 rfl rfl dX5_workable_6 ?_
      refine lv_icmp_ge (tgt := 42) hx hb dX5_workable_9 (by decide) (fun c_2 => ?_) (fun c_2 => ?_)
      · skip
        have c_2 := b_le (by omega) (by omega) c_2
        refine lv_iload_n hx hb dX5_workable_42 rfl (lv_at hl 1 rfl) ?_
        exact g_iret (Qr := (q_s_workable T a0 an am al ao au a1 a2 a3 a4 a5 a6 a7 a8 a9 a10 af3 af4 af5)) hC V ⟨(Nat.le_of_ble_eq_true rfl), (Nat.le_of_ble_eq_true rfl)⟩ ⟨x4_1, rfl, rfl⟩ dX5_workable_43
      · skip
        have c_2 := b_nle (by omega) (by omega) c_2
        refine lv_iload_n hx hb dX5_workable_12 rfl (lv_at hl 1 rfl) ?_
        refine lv_aload_n hx hb dX5_workable_13 rfl (lv_at hl 2 rfl) ?_
        refine lv_iload_n hx hb dX5_workable_14 rfl (lv_at hl 0 rfl) ?_
        refine lv_aload_n hx hb dX5_workable_15 rfl (lv_at hl 2 rfl) ?_
        refine g_get hC V (ci := 5) uwX5 0 rfl rfl 7 (by decide) w_62 rfl rfl dX5_workable_16 ?_
        refine lv_iload_n hx hb dX5_workable_19 rfl (lv_at hl 0 rfl) ?_
        refine g_iald hC V 1 rfl (vp_in_nI (by omega) (by omega)) (v := (af3 k4)) (congrArg _ (nI_clamp (by omega))) dX5_workable_20 ?_
        refine g_callVU (nA := 2) hC V hl.1 (s_isWorkableAt l D T a0 k4 (af3 k4) an am al ao au a1 a2 a3 a4 a5 a6 a7 a8 a9 a10 af4 af5 (by first | assumption | omega)) w_478 w_479 w_480 w_3 w_481 (by decide +kernel) rfl ⟨(Nat.le_of_ble_eq_true rfl), (Nat.le_of_ble_eq_true rfl)⟩ 0 (ci := 5) rfl rfl [0, 2, 3] rfl rfl (Nat.le_of_ble_eq_true rfl) dX5_workable_21 ⟨(Nat.le_of_ble_eq_true rfl), (Nat.le_of_ble_eq_true rfl)⟩ rfl (fun r w1 H locs hQ V => ?_)
        rcases hQ with ⟨rfl, rfl, f_3, f_4⟩ | ⟨rfl, rfl, f_5⟩
        · have V : gW D T A s [(a0, .inr (5, [.int (nI an), .int am, .int al, .int ao, .int au, .ref a1, .ref a2, .ref a3, .ref a4, .ref a5, .ref a6, .ref a7, .ref a8, .ref a9, .ref a10])), (a3, .inl (T 0, 10, .inl af3)), (a4, .inl (T 0, 10, .inl af4)), (a5, .inl (T 0, 10, .inl af5))] H locs := V _ [0, 1, 0] rfl rfl rfl (by decide +kernel) rfl
          show W p l e _ s m args below meth c H locs _ _ _ (F0 m 24 ls [.int (nI 1), .int x4_1])
          refine lv_if_eq (tgt := 33) hx hb dX5_workable_24 (by decide) (fun c => absurd (show (nI 1) = 0 from c) (by decide +kernel)) (fun _ => ?_)
          refine lv_iconst (v := (nI 1)) hx hb dX5_workable_27 (by decide +kernel) ?_
          refine lv_iload_n hx hb dX5_workable_28 rfl (lv_at hl 0 rfl) ?_
          refine lv_ishl hx hb dX5_workable_29 ?_
          refine lv_goto (tgt := 34) hx hb dX5_workable_30 (by decide) ?_
          refine lv_ior hx hb dX5_workable_34 ?_
          refine lv_istore_n (lv' := [(1, .int (x4_1 ||| ((nI 1) <<< ((nI k4) &&& 31)))), (2, .int (nI k4)), (0, .ref a0)]) hx hb dX5_workable_35 rfl hl (by decide) rfl (fun ls hl => ?_)
          refine lv_iinc (v := (nI (k4 + 1))) (lv' := [(2, .int (nI (k4 + 1))), (1, .int (x4_1 ||| ((nI 1) <<< ((nI k4) &&& 31)))), (0, .ref a0)]) hx hb dX5_workable_36 hl (k := 1) rfl (nI_1 _) (by decide) rfl (fun ls hl => ?_)
          refine lv_goto (tgt := 4) hx hb dX5_workable_39 (by decide) ?_
          exact ih_4 (k4 + 1) (x4_1 ||| ((nI 1) <<< ((nI k4) &&& 31))) (by omega) (by omega) _ _ _ V (lv_sub hl [0, 1, 2] rfl)
        · have V : gW D T A s [(a0, .inr (5, [.int (nI an), .int am, .int al, .int ao, .int au, .ref a1, .ref a2, .ref a3, .ref a4, .ref a5, .ref a6, .ref a7, .ref a8, .ref a9, .ref a10])), (a3, .inl (T 0, 10, .inl af3)), (a4, .inl (T 0, 10, .inl af4)), (a5, .inl (T 0, 10, .inl af5))] H locs := V _ [0, 1, 0] rfl rfl rfl (by decide +kernel) rfl
          show W p l e _ s m args below meth c H locs _ _ _ (F0 m 24 ls [.int (nI 0), .int x4_1])
          refine lv_if_eq (tgt := 33) hx hb dX5_workable_24 (by decide) (fun _ => ?_) (fun c => absurd (show (nI 0) = 0 by decide +kernel) c)
          refine lv_iconst (v := (nI 0)) hx hb dX5_workable_33 (by decide +kernel) ?_
          refine lv_ior hx hb dX5_workable_34 ?_
          refine lv_istore_n (lv' := [(1, .int (x4_1 ||| (nI 0))), (2, .int (nI k4)), (0, .ref a0)]) hx hb dX5_workable_35 rfl hl (by decide) rfl (fun ls hl => ?_)
          refine lv_iinc (v := (nI (k4 + 1))) (lv' := [(2, .int (nI (k4 + 1))), (1, .int (x4_1 ||| (nI 0))), (0, .ref a0)]) hx hb dX5_workable_36 hl (k := 1) rfl (nI_1 _) (by decide) rfl (fun ls hl => ?_)
          refine lv_goto (tgt := 4) hx hb dX5_workable_39 (by decide) ?_
          exact ih_4 (k4 + 1) (x4_1 ||| (nI 0)) (by omega) (by omega) _ _ _ V (lv_sub hl [0, 1, 2] rfl)
  exact L_1 _ 0 (nI 0) (by omega) (Nat.lt_succ_self _) _ _ _ V (lv_sub hl [0, 1, 2] rfl)

def q_s_payOf (T : Nat → ClassId) (a0 : Nat) (j : Nat) (st : Int32) (an : Nat) (am : Int32) (al : Int32) (ao : Int32) (au : Int32) (a1 : Nat) (a2 : Nat) (a3 : Nat) (a4 : Nat) (a5 : Nat) (a6 : Nat) (a7 : Nat) (a8 : Nat) (a9 : Nat) (a10 : Nat) (af1 : Nat → Int32) (af2 : Nat → Int32) (af3 : Nat → Int32) (af4 : Nat → Int32) (af5 : Nat → Int32) (af9 : Nat → Int32) : Option Value → va_W → Prop := fun rr ww => (∃ (z : Int32), rr = some (.int z) ∧ ww = [(a0, .inr (5, [.int (nI an), .int am, .int al, .int ao, .int au, .ref a1, .ref a2, .ref a3, .ref a4, .ref a5, .ref a6, .ref a7, .ref a8, .ref a9, .ref a10])), (a1, .inl (T 0, 10, .inl af1)), (a2, .inl (T 0, 10, .inl af2)), (a3, .inl (T 0, 10, .inl af3)), (a4, .inl (T 0, 10, .inl af4)), (a5, .inl (T 0, 10, .inl af5)), (a9, .inl (T 0, 10, .inl af9))])
set_option maxHeartbeats 4000000 in
set_option maxRecDepth 100000 in
theorem s_payOf (l : Launch) (D : va_G) (T : Nat → ClassId) (a0 : Nat) (j : Nat) (st : Int32) (an : Nat) (am : Int32) (al : Int32) (ao : Int32) (au : Int32) (a1 : Nat) (a2 : Nat) (a3 : Nat) (a4 : Nat) (a5 : Nat) (a6 : Nat) (a7 : Nat) (a8 : Nat) (a9 : Nat) (a10 : Nat) (af1 : Nat → Int32) (af2 : Nat → Int32) (af3 : Nat → Int32) (af4 : Nat → Int32) (af5 : Nat → Int32) (af9 : Nat → Int32) (h_n : an ≤ 10) (h_j : j < 10) : Ct l yX5_payOf cX5_payOf 4 (some .int) 3 0 0 D T [.ref a0, .int (nI j), .int st] [(a0, .inr (5, [.int (nI an), .int am, .int al, .int ao, .int au, .ref a1, .ref a2, .ref a3, .ref a4, .ref a5, .ref a6, .ref a7, .ref a8, .ref a9, .ref a10])), (a1, .inl (T 0, 10, .inl af1)), (a2, .inl (T 0, 10, .inl af2)), (a3, .inl (T 0, 10, .inl af3)), (a4, .inl (T 0, 10, .inl af4)), (a5, .inl (T 0, 10, .inl af5)), (a9, .inl (T 0, 10, .inl af9))] (q_s_payOf T a0 j st an am al ao au a1 a2 a3 a4 a5 a6 a7 a8 a9 a10 af1 af2 af3 af4 af5 af9) := by
  refine Ct.of (cc := cX5_payOf) (maxL := 4) (ret := (some .int)) (by decide) (Nat.le_of_ble_eq_true rfl) ?_
  intro p e s m args below meth c A ls hC hnm V hl
  obtain ⟨hx, hb, hr, hml, hown, hts, hlocks⟩ := id hC
  generalize hH : s.heap = H at V ⊢
  clear hH
  have hl : lv_has ls 4 [(0, .ref a0), (1, .int (nI j)), (2, .int st)] := hl
  generalize hlo : ([] : List Loc) = locs at V ⊢
  clear hlo
  refine lv_aload_n hx hb dX5_payOf_0 rfl (lv_at hl 0 rfl) ?_
  refine lv_iload_n hx hb dX5_payOf_1 rfl (lv_at hl 1 rfl) ?_
  refine lv_aload_n hx hb dX5_payOf_2 rfl (lv_at hl 0 rfl) ?_
  refine lv_iload_n hx hb dX5_payOf_3 rfl (lv_at hl 1 rfl) ?_
  refine lv_iload_n hx hb dX5_payOf_4 rfl (lv_at hl 2 rfl) ?_
  refine g_callVU (nA := 2) hC V hl.1 (s_heatBehind l D T a0 j st an am al ao au a1 a2 a3 a4 a5 a6 a7 a8 a9 a10 af1 af2 af3 af9 (by first | assumption | omega) (by first | assumption | omega)) w_695 w_696 w_697 w_3 w_698 (by decide +kernel) rfl ⟨(Nat.le_of_ble_eq_true rfl), (Nat.le_of_ble_eq_true rfl)⟩ 0 (ci := 5) rfl rfl [0, 1, 2, 3, 6] rfl rfl (Nat.le_of_ble_eq_true rfl) dX5_payOf_5 ⟨(Nat.le_of_ble_eq_true rfl), (Nat.le_of_ble_eq_true rfl)⟩ rfl (fun r w1 H locs hQ V => ?_)
  obtain ⟨z_1, rfl, rfl⟩ := hQ
  have V : gW D T A s [(a0, .inr (5, [.int (nI an), .int am, .int al, .int ao, .int au, .ref a1, .ref a2, .ref a3, .ref a4, .ref a5, .ref a6, .ref a7, .ref a8, .ref a9, .ref a10])), (a1, .inl (T 0, 10, .inl af1)), (a2, .inl (T 0, 10, .inl af2)), (a3, .inl (T 0, 10, .inl af3)), (a4, .inl (T 0, 10, .inl af4)), (a5, .inl (T 0, 10, .inl af5)), (a9, .inl (T 0, 10, .inl af9))] H locs := V _ [0, 0, 0, 0, 2] rfl rfl rfl (by decide +kernel) rfl
  show W p l e _ s m args below meth c H locs _ _ _ (F0 m 8 ls [.int z_1, .int (nI j), .ref a0])
  refine g_callVU (nA := 2) hC V hl.1 (s_isWorkableAt l D T a0 j z_1 an am al ao au a1 a2 a3 a4 a5 a6 a7 a8 a9 a10 af4 af5 (by first | assumption | omega)) w_478 w_479 w_480 w_3 w_481 (by decide +kernel) rfl ⟨(Nat.le_of_ble_eq_true rfl), (Nat.le_of_ble_eq_true rfl)⟩ 0 (ci := 5) rfl rfl [0, 4, 5] rfl rfl (Nat.le_of_ble_eq_true rfl) dX5_payOf_8 ⟨(Nat.le_of_ble_eq_true rfl), (Nat.le_of_ble_eq_true rfl)⟩ rfl (fun r w1 H locs hQ V => ?_)
  rcases hQ with ⟨rfl, rfl, f_2, f_3⟩ | ⟨rfl, rfl, f_4⟩
  · have V : gW D T A s [(a0, .inr (5, [.int (nI an), .int am, .int al, .int ao, .int au, .ref a1, .ref a2, .ref a3, .ref a4, .ref a5, .ref a6, .ref a7, .ref a8, .ref a9, .ref a10])), (a1, .inl (T 0, 10, .inl af1)), (a2, .inl (T 0, 10, .inl af2)), (a3, .inl (T 0, 10, .inl af3)), (a4, .inl (T 0, 10, .inl af4)), (a5, .inl (T 0, 10, .inl af5)), (a9, .inl (T 0, 10, .inl af9))] H locs := V _ [0, 3, 0] rfl rfl rfl (by decide +kernel) rfl
    show W p l e _ s m args below meth c H locs _ _ _ (F0 m 11 ls [.int (nI 1)])
    refine lv_if_eq (tgt := 18) hx hb dX5_payOf_11 (by decide) (fun c => absurd (show (nI 1) = 0 from c) (by decide +kernel)) (fun _ => ?_)
    refine lv_iconst (v := (nI 2)) hx hb dX5_payOf_14 (by decide +kernel) ?_
    refine lv_goto (tgt := 19) hx hb dX5_payOf_15 (by decide) ?_
    refine lv_istore_n (lv' := [(3, .int (nI 2)), (0, .ref a0), (1, .int (nI j)), (2, .int st)]) hx hb dX5_payOf_19 rfl hl (by decide) rfl (fun ls hl => ?_)
    refine lv_iload_n hx hb dX5_payOf_20 rfl (lv_at hl 3 rfl) ?_
    refine lv_iload_n hx hb dX5_payOf_21 rfl (lv_at hl 2 rfl) ?_
    refine g_callSNU (nA := 2) (host := RX7) hC V hl.1 (c_isIn l D T st (nI j)) w_472 (List.mem_of_getElem? (i := 13) rfl) w_2 w_471 (by decide +kernel) rfl ⟨(Nat.le_of_ble_eq_true rfl), (Nat.le_of_ble_eq_true rfl)⟩ [] rfl rfl (Nat.le_of_ble_eq_true rfl) dX5_payOf_22 ⟨(Nat.le_of_ble_eq_true rfl), (Nat.le_of_ble_eq_true rfl)⟩ rfl (fun r w1 H locs hQ V => ?_)
    rcases hQ with ⟨rfl, rfl⟩ | ⟨rfl, rfl⟩
    · have V : gW D T A s [(a0, .inr (5, [.int (nI an), .int am, .int al, .int ao, .int au, .ref a1, .ref a2, .ref a3, .ref a4, .ref a5, .ref a6, .ref a7, .ref a8, .ref a9, .ref a10])), (a1, .inl (T 0, 10, .inl af1)), (a2, .inl (T 0, 10, .inl af2)), (a3, .inl (T 0, 10, .inl af3)), (a4, .inl (T 0, 10, .inl af4)), (a5, .inl (T 0, 10, .inl af5)), (a9, .inl (T 0, 10, .inl af9))] H locs := V _ [] rfl rfl rfl (by decide +kernel) rfl
      show W p l e _ s m args below meth c H locs _ _ _ (F0 m 25 ls [.int (nI 1)])
      refine lv_if_eq (tgt := 34) hx hb dX5_payOf_25 (by decide) (fun c => absurd (show (nI 1) = 0 from c) (by decide +kernel)) (fun _ => ?_)
      refine lv_iload_n hx hb dX5_payOf_28 rfl (lv_at hl 0 rfl) ?_
      refine lv_iconst (v := (nI 1)) hx hb dX5_payOf_29 (by decide +kernel) ?_
      refine lv_isub hx hb dX5_payOf_30 ?_
      refine g_vi (y := (nI 1)) (by decide +kernel) ?_
      refine lv_goto (tgt := 35) hx hb dX5_payOf_31 (by decide) ?_
      exact g_iret (Qr := (q_s_payOf T a0 j st an am al ao au a1 a2 a3 a4 a5 a6 a7 a8 a9 a10 af1 af2 af3 af4 af5 af9)) hC V ⟨(Nat.le_of_ble_eq_true rfl), (Nat.le_of_ble_eq_true rfl)⟩ ⟨(nI 1), rfl, rfl⟩ dX5_payOf_35
    · have V : gW D T A s [(a0, .inr (5, [.int (nI an), .int am, .int al, .int ao, .int au, .ref a1, .ref a2, .ref a3, .ref a4, .ref a5, .ref a6, .ref a7, .ref a8, .ref a9, .ref a10])), (a1, .inl (T 0, 10, .inl af1)), (a2, .inl (T 0, 10, .inl af2)), (a3, .inl (T 0, 10, .inl af3)), (a4, .inl (T 0, 10, .inl af4)), (a5, .inl (T 0, 10, .inl af5)), (a9, .inl (T 0, 10, .inl af9))] H locs := V _ [] rfl rfl rfl (by decide +kernel) rfl
      show W p l e _ s m args below meth c H locs _ _ _ (F0 m 25 ls [.int (nI 0)])
      refine lv_if_eq (tgt := 34) hx hb dX5_payOf_25 (by decide) (fun _ => ?_) (fun c => absurd (show (nI 0) = 0 by decide +kernel) c)
      refine lv_iload_n hx hb dX5_payOf_34 rfl (lv_at hl 0 rfl) ?_
      exact g_iret (Qr := (q_s_payOf T a0 j st an am al ao au a1 a2 a3 a4 a5 a6 a7 a8 a9 a10 af1 af2 af3 af4 af5 af9)) hC V ⟨(Nat.le_of_ble_eq_true rfl), (Nat.le_of_ble_eq_true rfl)⟩ ⟨(nI 2), rfl, rfl⟩ dX5_payOf_35
  · have V : gW D T A s [(a0, .inr (5, [.int (nI an), .int am, .int al, .int ao, .int au, .ref a1, .ref a2, .ref a3, .ref a4, .ref a5, .ref a6, .ref a7, .ref a8, .ref a9, .ref a10])), (a1, .inl (T 0, 10, .inl af1)), (a2, .inl (T 0, 10, .inl af2)), (a3, .inl (T 0, 10, .inl af3)), (a4, .inl (T 0, 10, .inl af4)), (a5, .inl (T 0, 10, .inl af5)), (a9, .inl (T 0, 10, .inl af9))] H locs := V _ [0, 3, 0] rfl rfl rfl (by decide +kernel) rfl
    show W p l e _ s m args below meth c H locs _ _ _ (F0 m 11 ls [.int (nI 0)])
    refine lv_if_eq (tgt := 18) hx hb dX5_payOf_11 (by decide) (fun _ => ?_) (fun c => absurd (show (nI 0) = 0 by decide +kernel) c)
    refine lv_iconst (v := (nI 0)) hx hb dX5_payOf_18 (by decide +kernel) ?_
    refine lv_istore_n (lv' := [(3, .int (nI 0)), (0, .ref a0), (1, .int (nI j)), (2, .int st)]) hx hb dX5_payOf_19 rfl hl (by decide) rfl (fun ls hl => ?_)
    refine lv_iload_n hx hb dX5_payOf_20 rfl (lv_at hl 3 rfl) ?_
    refine lv_iload_n hx hb dX5_payOf_21 rfl (lv_at hl 2 rfl) ?_
    refine g_callSNU (nA := 2) (host := RX7) hC V hl.1 (c_isIn l D T st (nI j)) w_472 (List.mem_of_getElem? (i := 13) rfl) w_2 w_471 (by decide +kernel) rfl ⟨(Nat.le_of_ble_eq_true rfl), (Nat.le_of_ble_eq_true rfl)⟩ [] rfl rfl (Nat.le_of_ble_eq_true rfl) dX5_payOf_22 ⟨(Nat.le_of_ble_eq_true rfl), (Nat.le_of_ble_eq_true rfl)⟩ rfl (fun r w1 H locs hQ V => ?_)
    rcases hQ with ⟨rfl, rfl⟩ | ⟨rfl, rfl⟩
    · have V : gW D T A s [(a0, .inr (5, [.int (nI an), .int am, .int al, .int ao, .int au, .ref a1, .ref a2, .ref a3, .ref a4, .ref a5, .ref a6, .ref a7, .ref a8, .ref a9, .ref a10])), (a1, .inl (T 0, 10, .inl af1)), (a2, .inl (T 0, 10, .inl af2)), (a3, .inl (T 0, 10, .inl af3)), (a4, .inl (T 0, 10, .inl af4)), (a5, .inl (T 0, 10, .inl af5)), (a9, .inl (T 0, 10, .inl af9))] H locs := V _ [] rfl rfl rfl (by decide +kernel) rfl
      show W p l e _ s m args below meth c H locs _ _ _ (F0 m 25 ls [.int (nI 1)])
      refine lv_if_eq (tgt := 34) hx hb dX5_payOf_25 (by decide) (fun c => absurd (show (nI 1) = 0 from c) (by decide +kernel)) (fun _ => ?_)
      refine lv_iload_n hx hb dX5_payOf_28 rfl (lv_at hl 0 rfl) ?_
      refine lv_iconst (v := (nI 1)) hx hb dX5_payOf_29 (by decide +kernel) ?_
      refine lv_isub hx hb dX5_payOf_30 ?_
      refine g_vi (y := (-1)) (by decide +kernel) ?_
      refine lv_goto (tgt := 35) hx hb dX5_payOf_31 (by decide) ?_
      exact g_iret (Qr := (q_s_payOf T a0 j st an am al ao au a1 a2 a3 a4 a5 a6 a7 a8 a9 a10 af1 af2 af3 af4 af5 af9)) hC V ⟨(Nat.le_of_ble_eq_true rfl), (Nat.le_of_ble_eq_true rfl)⟩ ⟨(-1), rfl, rfl⟩ dX5_payOf_35
    · have V : gW D T A s [(a0, .inr (5, [.int (nI an), .int am, .int al, .int ao, .int au, .ref a1, .ref a2, .ref a3, .ref a4, .ref a5, .ref a6, .ref a7, .ref a8, .ref a9, .ref a10])), (a1, .inl (T 0, 10, .inl af1)), (a2, .inl (T 0, 10, .inl af2)), (a3, .inl (T 0, 10, .inl af3)), (a4, .inl (T 0, 10, .inl af4)), (a5, .inl (T 0, 10, .inl af5)), (a9, .inl (T 0, 10, .inl af9))] H locs := V _ [] rfl rfl rfl (by decide +kernel) rfl
      show W p l e _ s m args below meth c H locs _ _ _ (F0 m 25 ls [.int (nI 0)])
      refine lv_if_eq (tgt := 34) hx hb dX5_payOf_25 (by decide) (fun _ => ?_) (fun c => absurd (show (nI 0) = 0 by decide +kernel) c)
      refine lv_iload_n hx hb dX5_payOf_34 rfl (lv_at hl 0 rfl) ?_
      exact g_iret (Qr := (q_s_payOf T a0 j st an am al ao au a1 a2 a3 a4 a5 a6 a7 a8 a9 a10 af1 af2 af3 af4 af5 af9)) hC V ⟨(Nat.le_of_ble_eq_true rfl), (Nat.le_of_ble_eq_true rfl)⟩ ⟨(nI 0), rfl, rfl⟩ dX5_payOf_35

def q_s_payTogether (T : Nat → ClassId) (a0 : Nat) (st : Int32) (an : Nat) (am : Int32) (al : Int32) (ao : Int32) (au : Int32) (a1 : Nat) (a2 : Nat) (a3 : Nat) (a4 : Nat) (a5 : Nat) (a6 : Nat) (a7 : Nat) (a8 : Nat) (a9 : Nat) (a10 : Nat) (af1 : Nat → Int32) (af2 : Nat → Int32) (af3 : Nat → Int32) (af4 : Nat → Int32) (af5 : Nat → Int32) (af9 : Nat → Int32) (af10 : Nat → Int32) : Option Value → va_W → Prop := fun rr ww => (∃ (z : Int32) (g10 : Nat → Int32), rr = some (.int z) ∧ ww = [(a0, .inr (5, [.int (nI an), .int am, .int al, .int ao, .int au, .ref a1, .ref a2, .ref a3, .ref a4, .ref a5, .ref a6, .ref a7, .ref a8, .ref a9, .ref a10])), (a1, .inl (T 0, 10, .inl af1)), (a2, .inl (T 0, 10, .inl af2)), (a3, .inl (T 0, 10, .inl af3)), (a4, .inl (T 0, 10, .inl af4)), (a5, .inl (T 0, 10, .inl af5)), (a9, .inl (T 0, 10, .inl af9)), (a10, .inl (T 0, 10, .inl g10))])
set_option maxHeartbeats 4000000 in
set_option maxRecDepth 100000 in
theorem s_payTogether (l : Launch) (D : va_G) (T : Nat → ClassId) (a0 : Nat) (st : Int32) (an : Nat) (am : Int32) (al : Int32) (ao : Int32) (au : Int32) (a1 : Nat) (a2 : Nat) (a3 : Nat) (a4 : Nat) (a5 : Nat) (a6 : Nat) (a7 : Nat) (a8 : Nat) (a9 : Nat) (a10 : Nat) (af1 : Nat → Int32) (af2 : Nat → Int32) (af3 : Nat → Int32) (af4 : Nat → Int32) (af5 : Nat → Int32) (af9 : Nat → Int32) (af10 : Nat → Int32) (h_n : an ≤ 10) (h_t : ∀ i, i < an → bd (af9 i) an) : Ct l yX5_payTogether cX5_payTogether 4 (some .int) 2 0 0 D T [.ref a0, .int st] [(a0, .inr (5, [.int (nI an), .int am, .int al, .int ao, .int au, .ref a1, .ref a2, .ref a3, .ref a4, .ref a5, .ref a6, .ref a7, .ref a8, .ref a9, .ref a10])), (a1, .inl (T 0, 10, .inl af1)), (a2, .inl (T 0, 10, .inl af2)), (a3, .inl (T 0, 10, .inl af3)), (a4, .inl (T 0, 10, .inl af4)), (a5, .inl (T 0, 10, .inl af5)), (a9, .inl (T 0, 10, .inl af9)), (a10, .inl (T 0, 10, .inl af10))] (q_s_payTogether T a0 st an am al ao au a1 a2 a3 a4 a5 a6 a7 a8 a9 a10 af1 af2 af3 af4 af5 af9 af10) := by
  refine Ct.of (cc := cX5_payTogether) (maxL := 4) (ret := (some .int)) (by decide) (Nat.le_of_ble_eq_true rfl) ?_
  intro p e s m args below meth c A ls hC hnm V hl
  obtain ⟨hx, hb, hr, hml, hown, hts, hlocks⟩ := id hC
  generalize hH : s.heap = H at V ⊢
  clear hH
  have hl : lv_has ls 4 [(0, .ref a0), (1, .int st)] := hl
  generalize hlo : ([] : List Loc) = locs at V ⊢
  clear hlo
  refine lv_aload_n hx hb dX5_payTogether_0 rfl (lv_at hl 0 rfl) ?_
  refine lv_iload_n hx hb dX5_payTogether_1 rfl (lv_at hl 1 rfl) ?_
  refine g_callVU (nA := 1) hC V hl.1 (s_weighChanges l D T a0 st an am al ao au a1 a2 a3 a4 a5 a6 a7 a8 a9 a10 af1 af2 af9 af10 (by first | assumption | omega) (by first | assumption | omega)) w_482 w_484 w_s9 w_3 w_485 (by decide +kernel) rfl ⟨(Nat.le_of_ble_eq_true rfl), (Nat.le_of_ble_eq_true rfl)⟩ 0 (ci := 5) rfl rfl [0, 1, 2, 6, 7] rfl rfl (Nat.le_of_ble_eq_true rfl) dX5_payTogether_2 ⟨(Nat.le_of_ble_eq_true rfl), (Nat.le_of_ble_eq_true rfl)⟩ rfl (fun r w1 H locs hQ V => ?_)
  obtain ⟨g10_1, rfl, rfl⟩ := hQ
  have V : gW D T A s [(a0, .inr (5, [.int (nI an), .int am, .int al, .int ao, .int au, .ref a1, .ref a2, .ref a3, .ref a4, .ref a5, .ref a6, .ref a7, .ref a8, .ref a9, .ref a10])), (a1, .inl (T 0, 10, .inl af1)), (a2, .inl (T 0, 10, .inl af2)), (a3, .inl (T 0, 10, .inl af3)), (a4, .inl (T 0, 10, .inl af4)), (a5, .inl (T 0, 10, .inl af5)), (a9, .inl (T 0, 10, .inl af9)), (a10, .inl (T 0, 10, .inl g10_1))] H locs := V _ [0, 0, 0, 3, 0] rfl rfl rfl (by decide +kernel) rfl
  show W p l e _ s m args below meth c H locs _ _ _ (F0 m 5 ls [])
  refine lv_iload_n hx hb dX5_payTogether_5 rfl (lv_at hl 1 rfl) ?_
  refine g_callSU (nA := 1) hC V hl.1 (c_bitCount l D T st) w_681 w_661 w_16 w_662 (by decide +kernel) rfl ⟨(Nat.le_of_ble_eq_true rfl), (Nat.le_of_ble_eq_true rfl)⟩ [] rfl rfl (Nat.le_of_ble_eq_true rfl) dX5_payTogether_6 ⟨(Nat.le_of_ble_eq_true rfl), (Nat.le_of_ble_eq_true rfl)⟩ rfl (fun r w1 H locs hQ V => ?_)
  obtain ⟨z_2, rfl, rfl⟩ := hQ
  have V : gW D T A s [(a0, .inr (5, [.int (nI an), .int am, .int al, .int ao, .int au, .ref a1, .ref a2, .ref a3, .ref a4, .ref a5, .ref a6, .ref a7, .ref a8, .ref a9, .ref a10])), (a1, .inl (T 0, 10, .inl af1)), (a2, .inl (T 0, 10, .inl af2)), (a3, .inl (T 0, 10, .inl af3)), (a4, .inl (T 0, 10, .inl af4)), (a5, .inl (T 0, 10, .inl af5)), (a9, .inl (T 0, 10, .inl af9)), (a10, .inl (T 0, 10, .inl g10_1))] H locs := V _ [] rfl rfl rfl (by decide +kernel) rfl
  show W p l e _ s m args below meth c H locs _ _ _ (F0 m 9 ls [.int z_2])
  refine lv_ineg hx hb dX5_payTogether_9 ?_
  refine lv_istore_n (lv' := [(2, .int (-z_2)), (0, .ref a0), (1, .int st)]) hx hb dX5_payTogether_10 rfl hl (by decide) rfl (fun ls hl => ?_)
  refine lv_iconst (v := (nI 0)) hx hb dX5_payTogether_11 (by decide +kernel) ?_
  refine lv_istore_n (lv' := [(3, .int (nI 0)), (2, .int (-z_2)), (0, .ref a0), (1, .int st)]) hx hb dX5_payTogether_12 rfl hl (by decide) rfl (fun ls hl => ?_)
  have L_3 : ∀ (fu : Nat) (k13 : Nat) (x13_2 : Int32), k13 ≤ an → an - k13 < fu → ∀ (H : Heap) (locs : List Loc) (ls : Array Slot), gW D T A s [(a0, .inr (5, [.int (nI an), .int am, .int al, .int ao, .int au, .ref a1, .ref a2, .ref a3, .ref a4, .ref a5, .ref a6, .ref a7, .ref a8, .ref a9, .ref a10])), (a1, .inl (T 0, 10, .inl af1)), (a2, .inl (T 0, 10, .inl af2)), (a3, .inl (T 0, 10, .inl af3)), (a4, .inl (T 0, 10, .inl af4)), (a5, .inl (T 0, 10, .inl af5)), (a9, .inl (T 0, 10, .inl af9)), (a10, .inl (T 0, 10, .inl g10_1))] H locs → lv_has ls 4 [(3, .int (nI k13)), (2, .int x13_2), (0, .ref a0), (1, .int st)] → W p l e (rmD 2 0 0) s m args below meth c H locs 0 0 (MQ below (gQ D A (q_s_payTogether T a0 st an am al ao au a1 a2 a3 a4 a5 a6 a7 a8 a9 a10 af1 af2 af3 af4 af5 af9 af10)) args s 0 0 A) (F0 m 13 ls []) := by
    intro fu_13
    induction fu_13 with
    | zero => intro k13 x13_2 hk13 hmu; exact absurd hmu (Nat.not_lt_zero _)
    | succ fu_13 ih_13 =>
      intro k13 x13_2 hk13 hmu_13 H locs ls V hl
      refine lv_iload_n hx hb dX5_payTogether_13 rfl (lv_at hl 0 rfl) ?_
      refine lv_aload_n hx hb dX5_payTogether_14 rfl (lv_at hl 2 rfl) ?_
      refine g_get hC V (ci := 5) uwX5 0 rfl rfl 0 (by decide) w_33 rfl rfl dX5_payTogether_15 ?_
      refine lv_icmp_ge (tgt := 59) hx hb dX5_payTogether_18 (by decide) (fun c_4 => ?_) (fun c_4 => ?_)
      · skip
        have c_4 := b_le (by omega) (by omega) c_4
        refine lv_iload_n hx hb dX5_payTogether_59 rfl (lv_at hl 1 rfl) ?_
        exact g_iret (Qr := (q_s_payTogether T a0 st an am al ao au a1 a2 a3 a4 a5 a6 a7 a8 a9 a10 af1 af2 af3 af4 af5 af9 af10)) hC V ⟨(Nat.le_of_ble_eq_true rfl), (Nat.le_of_ble_eq_true rfl)⟩ ⟨x13_2, g10_1, rfl, rfl⟩ dX5_payTogether_60
      · skip
        have c_4 := b_nle (by omega) (by omega) c_4
        refine lv_iload_n hx hb dX5_payTogether_21 rfl (lv_at hl 1 rfl) ?_
        refine lv_aload_n hx hb dX5_payTogether_22 rfl (lv_at hl 2 rfl) ?_
        refine lv_iload_n hx hb dX5_payTogether_23 rfl (lv_at hl 0 rfl) ?_
        refine lv_aload_n hx hb dX5_payTogether_24 rfl (lv_at hl 2 rfl) ?_
        refine g_get hC V (ci := 5) uwX5 0 rfl rfl 7 (by decide) w_62 rfl rfl dX5_payTogether_25 ?_
        refine lv_iload_n hx hb dX5_payTogether_28 rfl (lv_at hl 0 rfl) ?_
        refine g_iald hC V 3 rfl (vp_in_nI (by omega) (by omega)) (v := (af3 k13)) (congrArg _ (nI_clamp (by omega))) dX5_payTogether_29 ?_
        refine lv_aload_n hx hb dX5_payTogether_30 rfl (lv_at hl 2 rfl) ?_
        refine g_get hC V (ci := 5) uwX5 0 rfl rfl 14 (by decide) w_86 rfl rfl dX5_payTogether_31 ?_
        refine lv_iload_n hx hb dX5_payTogether_34 rfl (lv_at hl 0 rfl) ?_
        refine g_iald hC V 7 rfl (vp_in_nI (by omega) (by omega)) (v := (g10_1 k13)) (congrArg _ (nI_clamp (by omega))) dX5_payTogether_35 ?_
        refine lv_iadd hx hb dX5_payTogether_36 ?_
        refine g_callSNU (nA := 1) (host := RX7) hC V hl.1 (c_bounded l D T ((af3 k13) + (g10_1 k13))) w_489 (List.mem_of_getElem? (i := 14) rfl) w_2 w_488 (by decide +kernel) rfl ⟨(Nat.le_of_ble_eq_true rfl), (Nat.le_of_ble_eq_true rfl)⟩ [] rfl rfl (Nat.le_of_ble_eq_true rfl) dX5_payTogether_37 ⟨(Nat.le_of_ble_eq_true rfl), (Nat.le_of_ble_eq_true rfl)⟩ rfl (fun r w1 H locs hQ V => ?_)
        obtain ⟨z_5, rfl, rfl⟩ := hQ
        have V : gW D T A s [(a0, .inr (5, [.int (nI an), .int am, .int al, .int ao, .int au, .ref a1, .ref a2, .ref a3, .ref a4, .ref a5, .ref a6, .ref a7, .ref a8, .ref a9, .ref a10])), (a1, .inl (T 0, 10, .inl af1)), (a2, .inl (T 0, 10, .inl af2)), (a3, .inl (T 0, 10, .inl af3)), (a4, .inl (T 0, 10, .inl af4)), (a5, .inl (T 0, 10, .inl af5)), (a9, .inl (T 0, 10, .inl af9)), (a10, .inl (T 0, 10, .inl g10_1))] H locs := V _ [] rfl rfl rfl (by decide +kernel) rfl
        show W p l e _ s m args below meth c H locs _ _ _ (F0 m 40 ls [.int z_5, .int (nI k13), .ref a0, .int x13_2])
        refine g_callVU (nA := 2) hC V hl.1 (s_isWorkableAt l D T a0 k13 z_5 an am al ao au a1 a2 a3 a4 a5 a6 a7 a8 a9 a10 af4 af5 (by first | assumption | omega)) w_478 w_479 w_480 w_3 w_481 (by decide +kernel) rfl ⟨(Nat.le_of_ble_eq_true rfl), (Nat.le_of_ble_eq_true rfl)⟩ 0 (ci := 5) rfl rfl [0, 4, 5] rfl rfl (Nat.le_of_ble_eq_true rfl) dX5_payTogether_40 ⟨(Nat.le_of_ble_eq_true rfl), (Nat.le_of_ble_eq_true rfl)⟩ rfl (fun r w1 H locs hQ V => ?_)
        rcases hQ with ⟨rfl, rfl, f_6, f_7⟩ | ⟨rfl, rfl, f_8⟩
        · have V : gW D T A s [(a0, .inr (5, [.int (nI an), .int am, .int al, .int ao, .int au, .ref a1, .ref a2, .ref a3, .ref a4, .ref a5, .ref a6, .ref a7, .ref a8, .ref a9, .ref a10])), (a1, .inl (T 0, 10, .inl af1)), (a2, .inl (T 0, 10, .inl af2)), (a3, .inl (T 0, 10, .inl af3)), (a4, .inl (T 0, 10, .inl af4)), (a5, .inl (T 0, 10, .inl af5)), (a9, .inl (T 0, 10, .inl af9)), (a10, .inl (T 0, 10, .inl g10_1))] H locs := V _ [0, 3, 0] rfl rfl rfl (by decide +kernel) rfl
          show W p l e _ s m args below meth c H locs _ _ _ (F0 m 43 ls [.int (nI 1), .int x13_2])
          refine lv_if_eq (tgt := 50) hx hb dX5_payTogether_43 (by decide) (fun c => absurd (show (nI 1) = 0 from c) (by decide +kernel)) (fun _ => ?_)
          refine lv_iconst (v := (nI 2)) hx hb dX5_payTogether_46 (by decide +kernel) ?_
          refine lv_goto (tgt := 51) hx hb dX5_payTogether_47 (by decide) ?_
          refine lv_iadd hx hb dX5_payTogether_51 ?_
          refine lv_istore_n (lv' := [(2, .int (x13_2 + (nI 2))), (3, .int (nI k13)), (0, .ref a0), (1, .int st)]) hx hb dX5_payTogether_52 rfl hl (by decide) rfl (fun ls hl => ?_)
          refine lv_iinc (v := (nI (k13 + 1))) (lv' := [(3, .int (nI (k13 + 1))), (2, .int (x13_2 + (nI 2))), (0, .ref a0), (1, .int st)]) hx hb dX5_payTogether_53 hl (k := 1) rfl (nI_1 _) (by decide) rfl (fun ls hl => ?_)
          refine lv_goto (tgt := 13) hx hb dX5_payTogether_56 (by decide) ?_
          exact ih_13 (k13 + 1) (x13_2 + (nI 2)) (by omega) (by omega) _ _ _ V (lv_sub hl [0, 1, 2, 3] rfl)
        · have V : gW D T A s [(a0, .inr (5, [.int (nI an), .int am, .int al, .int ao, .int au, .ref a1, .ref a2, .ref a3, .ref a4, .ref a5, .ref a6, .ref a7, .ref a8, .ref a9, .ref a10])), (a1, .inl (T 0, 10, .inl af1)), (a2, .inl (T 0, 10, .inl af2)), (a3, .inl (T 0, 10, .inl af3)), (a4, .inl (T 0, 10, .inl af4)), (a5, .inl (T 0, 10, .inl af5)), (a9, .inl (T 0, 10, .inl af9)), (a10, .inl (T 0, 10, .inl g10_1))] H locs := V _ [0, 3, 0] rfl rfl rfl (by decide +kernel) rfl
          show W p l e _ s m args below meth c H locs _ _ _ (F0 m 43 ls [.int (nI 0), .int x13_2])
          refine lv_if_eq (tgt := 50) hx hb dX5_payTogether_43 (by decide) (fun _ => ?_) (fun c => absurd (show (nI 0) = 0 by decide +kernel) c)
          refine lv_iconst (v := (nI 0)) hx hb dX5_payTogether_50 (by decide +kernel) ?_
          refine lv_iadd hx hb dX5_payTogether_51 ?_
          refine lv_istore_n (lv' := [(2, .int (x13_2 + (nI 0))), (3, .int (nI k13)), (0, .ref a0), (1, .int st)]) hx hb dX5_payTogether_52 rfl hl (by decide) rfl (fun ls hl => ?_)
          refine lv_iinc (v := (nI (k13 + 1))) (lv' := [(3, .int (nI (k13 + 1))), (2, .int (x13_2 + (nI 0))), (0, .ref a0), (1, .int st)]) hx hb dX5_payTogether_53 hl (k := 1) rfl (nI_1 _) (by decide) rfl (fun ls hl => ?_)
          refine lv_goto (tgt := 13) hx hb dX5_payTogether_56 (by decide) ?_
          exact ih_13 (k13 + 1) (x13_2 + (nI 0)) (by omega) (by omega) _ _ _ V (lv_sub hl [0, 1, 2, 3] rfl)
  exact L_3 _ 0 (-z_2) (by omega) (Nat.lt_succ_self _) _ _ _ V (lv_sub hl [0, 1, 2, 3] rfl)

def q_s_isSelfish (T : Nat → ClassId) (a0 : Nat) (st : Int32) (an : Nat) (am : Int32) (al : Int32) (ao : Int32) (au : Int32) (a1 : Nat) (a2 : Nat) (a3 : Nat) (a4 : Nat) (a5 : Nat) (a6 : Nat) (a7 : Nat) (a8 : Nat) (a9 : Nat) (a10 : Nat) (af1 : Nat → Int32) (af2 : Nat → Int32) (af3 : Nat → Int32) (af4 : Nat → Int32) (af5 : Nat → Int32) (af9 : Nat → Int32) : Option Value → va_W → Prop := fun rr ww => (rr = some (.int (nI 1)) ∧ ww = [(a0, .inr (5, [.int (nI an), .int am, .int al, .int ao, .int au, .ref a1, .ref a2, .ref a3, .ref a4, .ref a5, .ref a6, .ref a7, .ref a8, .ref a9, .ref a10])), (a1, .inl (T 0, 10, .inl af1)), (a2, .inl (T 0, 10, .inl af2)), (a3, .inl (T 0, 10, .inl af3)), (a4, .inl (T 0, 10, .inl af4)), (a5, .inl (T 0, 10, .inl af5)), (a9, .inl (T 0, 10, .inl af9))]) ∨ (rr = some (.int (nI 0)) ∧ ww = [(a0, .inr (5, [.int (nI an), .int am, .int al, .int ao, .int au, .ref a1, .ref a2, .ref a3, .ref a4, .ref a5, .ref a6, .ref a7, .ref a8, .ref a9, .ref a10])), (a1, .inl (T 0, 10, .inl af1)), (a2, .inl (T 0, 10, .inl af2)), (a3, .inl (T 0, 10, .inl af3)), (a4, .inl (T 0, 10, .inl af4)), (a5, .inl (T 0, 10, .inl af5)), (a9, .inl (T 0, 10, .inl af9))])
set_option maxHeartbeats 4000000 in
set_option maxRecDepth 100000 in
theorem s_isSelfish (l : Launch) (D : va_G) (T : Nat → ClassId) (a0 : Nat) (st : Int32) (an : Nat) (am : Int32) (al : Int32) (ao : Int32) (au : Int32) (a1 : Nat) (a2 : Nat) (a3 : Nat) (a4 : Nat) (a5 : Nat) (a6 : Nat) (a7 : Nat) (a8 : Nat) (a9 : Nat) (a10 : Nat) (af1 : Nat → Int32) (af2 : Nat → Int32) (af3 : Nat → Int32) (af4 : Nat → Int32) (af5 : Nat → Int32) (af9 : Nat → Int32) (h_n : an ≤ 10) : Ct l yX5_isSelfish cX5_isSelfish 3 (some .boolean) 4 0 0 D T [.ref a0, .int st] [(a0, .inr (5, [.int (nI an), .int am, .int al, .int ao, .int au, .ref a1, .ref a2, .ref a3, .ref a4, .ref a5, .ref a6, .ref a7, .ref a8, .ref a9, .ref a10])), (a1, .inl (T 0, 10, .inl af1)), (a2, .inl (T 0, 10, .inl af2)), (a3, .inl (T 0, 10, .inl af3)), (a4, .inl (T 0, 10, .inl af4)), (a5, .inl (T 0, 10, .inl af5)), (a9, .inl (T 0, 10, .inl af9))] (q_s_isSelfish T a0 st an am al ao au a1 a2 a3 a4 a5 a6 a7 a8 a9 a10 af1 af2 af3 af4 af5 af9) := by
  refine Ct.of (cc := cX5_isSelfish) (maxL := 3) (ret := (some .boolean)) (by decide) (Nat.le_of_ble_eq_true rfl) ?_
  intro p e s m args below meth c A ls hC hnm V hl
  obtain ⟨hx, hb, hr, hml, hown, hts, hlocks⟩ := id hC
  generalize hH : s.heap = H at V ⊢
  clear hH
  have hl : lv_has ls 3 [(0, .ref a0), (1, .int st)] := hl
  generalize hlo : ([] : List Loc) = locs at V ⊢
  clear hlo
  refine lv_iconst (v := (nI 0)) hx hb dX5_isSelfish_0 (by decide +kernel) ?_
  refine lv_istore_n (lv' := [(2, .int (nI 0)), (0, .ref a0), (1, .int st)]) hx hb dX5_isSelfish_1 rfl hl (by decide) rfl (fun ls hl => ?_)
  have L_1 : ∀ (fu : Nat) (k2 : Nat), k2 ≤ an → an - k2 < fu → ∀ (H : Heap) (locs : List Loc) (ls : Array Slot), gW D T A s [(a0, .inr (5, [.int (nI an), .int am, .int al, .int ao, .int au, .ref a1, .ref a2, .ref a3, .ref a4, .ref a5, .ref a6, .ref a7, .ref a8, .ref a9, .ref a10])), (a1, .inl (T 0, 10, .inl af1)), (a2, .inl (T 0, 10, .inl af2)), (a3, .inl (T 0, 10, .inl af3)), (a4, .inl (T 0, 10, .inl af4)), (a5, .inl (T 0, 10, .inl af5)), (a9, .inl (T 0, 10, .inl af9))] H locs → lv_has ls 3 [(2, .int (nI k2)), (0, .ref a0), (1, .int st)] → W p l e (rmD 4 0 0) s m args below meth c H locs 0 0 (MQ below (gQ D A (q_s_isSelfish T a0 st an am al ao au a1 a2 a3 a4 a5 a6 a7 a8 a9 a10 af1 af2 af3 af4 af5 af9)) args s 0 0 A) (F0 m 2 ls []) := by
    intro fu_2
    induction fu_2 with
    | zero => intro k2 hk2 hmu; exact absurd hmu (Nat.not_lt_zero _)
    | succ fu_2 ih_2 =>
      intro k2 hk2 hmu_2 H locs ls V hl
      refine lv_iload_n hx hb dX5_isSelfish_2 rfl (lv_at hl 0 rfl) ?_
      refine lv_aload_n hx hb dX5_isSelfish_3 rfl (lv_at hl 1 rfl) ?_
      refine g_get hC V (ci := 5) uwX5 0 rfl rfl 0 (by decide) w_33 rfl rfl dX5_isSelfish_4 ?_
      refine lv_icmp_ge (tgt := 37) hx hb dX5_isSelfish_7 (by decide) (fun c_2 => ?_) (fun c_2 => ?_)
      · skip
        have c_2 := b_le (by omega) (by omega) c_2
        refine lv_iconst (v := (nI 1)) hx hb dX5_isSelfish_37 (by decide +kernel) ?_
        exact g_zret (Qr := (q_s_isSelfish T a0 st an am al ao au a1 a2 a3 a4 a5 a6 a7 a8 a9 a10 af1 af2 af3 af4 af5 af9)) hC V ⟨(Nat.le_of_ble_eq_true rfl), (Nat.le_of_ble_eq_true rfl)⟩ (by first | decide +kernel | exact rfl) (.inl ⟨rfl, rfl⟩) dX5_isSelfish_38
      · skip
        have c_2 := b_nle (by omega) (by omega) c_2
        refine lv_aload_n hx hb dX5_isSelfish_10 rfl (lv_at hl 1 rfl) ?_
        refine lv_iload_n hx hb dX5_isSelfish_11 rfl (lv_at hl 0 rfl) ?_
        refine lv_iload_n hx hb dX5_isSelfish_12 rfl (lv_at hl 2 rfl) ?_
        refine lv_iconst (v := (nI 1)) hx hb dX5_isSelfish_13 (by decide +kernel) ?_
        refine lv_iload_n hx hb dX5_isSelfish_14 rfl (lv_at hl 0 rfl) ?_
        refine lv_ishl hx hb dX5_isSelfish_15 ?_
        refine lv_ixor hx hb dX5_isSelfish_16 ?_
        refine g_callV (wr := []) (nA := 2) hC V hl.1 (s_payOf l D T a0 k2 (st ^^^ ((nI 1) <<< ((nI k2) &&& 31))) an am al ao au a1 a2 a3 a4 a5 a6 a7 a8 a9 a10 af1 af2 af3 af4 af5 af9 (by first | assumption | omega) (by first | assumption | omega)) w_691 w_693 w_s22 w_3 w_694 (by decide +kernel) rfl ⟨(Nat.le_of_ble_eq_true rfl), (Nat.le_of_ble_eq_true rfl)⟩ 0 (ci := 5) rfl rfl [0, 1, 2, 3, 4, 5, 6] [] rfl rfl rfl rfl (by decide) (Nat.le_of_ble_eq_true rfl) dX5_isSelfish_17 ⟨(Nat.le_of_ble_eq_true rfl), (Nat.le_of_ble_eq_true rfl)⟩ rfl (fun r w1 H locs hQ V => ?_)
        obtain ⟨z_3, rfl, rfl⟩ := hQ
        have V : gW D T A s [(a0, .inr (5, [.int (nI an), .int am, .int al, .int ao, .int au, .ref a1, .ref a2, .ref a3, .ref a4, .ref a5, .ref a6, .ref a7, .ref a8, .ref a9, .ref a10])), (a1, .inl (T 0, 10, .inl af1)), (a2, .inl (T 0, 10, .inl af2)), (a3, .inl (T 0, 10, .inl af3)), (a4, .inl (T 0, 10, .inl af4)), (a5, .inl (T 0, 10, .inl af5)), (a9, .inl (T 0, 10, .inl af9))] H locs := V
        show W p l e _ s m args below meth c H locs _ _ _ (F0 m 20 ls [.int z_3])
        refine lv_aload_n hx hb dX5_isSelfish_20 rfl (lv_at hl 1 rfl) ?_
        refine lv_iload_n hx hb dX5_isSelfish_21 rfl (lv_at hl 0 rfl) ?_
        refine lv_iload_n hx hb dX5_isSelfish_22 rfl (lv_at hl 2 rfl) ?_
        refine g_callV (wr := []) (nA := 2) hC V hl.1 (s_payOf l D T a0 k2 st an am al ao au a1 a2 a3 a4 a5 a6 a7 a8 a9 a10 af1 af2 af3 af4 af5 af9 (by first | assumption | omega) (by first | assumption | omega)) w_691 w_693 w_s22 w_3 w_694 (by decide +kernel) rfl ⟨(Nat.le_of_ble_eq_true rfl), (Nat.le_of_ble_eq_true rfl)⟩ 0 (ci := 5) rfl rfl [0, 1, 2, 3, 4, 5, 6] [] rfl rfl rfl rfl (by decide) (Nat.le_of_ble_eq_true rfl) dX5_isSelfish_23 ⟨(Nat.le_of_ble_eq_true rfl), (Nat.le_of_ble_eq_true rfl)⟩ rfl (fun r w1 H locs hQ V => ?_)
        obtain ⟨z_4, rfl, rfl⟩ := hQ
        have V : gW D T A s [(a0, .inr (5, [.int (nI an), .int am, .int al, .int ao, .int au, .ref a1, .ref a2, .ref a3, .ref a4, .ref a5, .ref a6, .ref a7, .ref a8, .ref a9, .ref a10])), (a1, .inl (T 0, 10, .inl af1)), (a2, .inl (T 0, 10, .inl af2)), (a3, .inl (T 0, 10, .inl af3)), (a4, .inl (T 0, 10, .inl af4)), (a5, .inl (T 0, 10, .inl af5)), (a9, .inl (T 0, 10, .inl af9))] H locs := V
        show W p l e _ s m args below meth c H locs _ _ _ (F0 m 26 ls [.int z_4, .int z_3])
        refine lv_icmp_le (tgt := 31) hx hb dX5_isSelfish_26 (by decide) (fun c_5 => ?_) (fun c_5 => ?_)
        · skip
          refine lv_iinc (v := (nI (k2 + 1))) (lv' := [(2, .int (nI (k2 + 1))), (0, .ref a0), (1, .int st)]) hx hb dX5_isSelfish_31 hl (k := 0) rfl (nI_1 _) (by decide) rfl (fun ls hl => ?_)
          refine lv_goto (tgt := 2) hx hb dX5_isSelfish_34 (by decide) ?_
          exact ih_2 (k2 + 1) (by omega) (by omega) _ _ _ V (lv_sub hl [0, 1, 2] rfl)
        · skip
          refine lv_iconst (v := (nI 0)) hx hb dX5_isSelfish_29 (by decide +kernel) ?_
          exact g_zret (Qr := (q_s_isSelfish T a0 st an am al ao au a1 a2 a3 a4 a5 a6 a7 a8 a9 a10 af1 af2 af3 af4 af5 af9)) hC V ⟨(Nat.le_of_ble_eq_true rfl), (Nat.le_of_ble_eq_true rfl)⟩ (by first | decide +kernel | exact rfl) (.inr ⟨rfl, rfl⟩) dX5_isSelfish_30
  exact L_1 _ 0 (by omega) (Nat.lt_succ_self _) _ _ _ V (lv_sub hl [0, 1, 2] rfl)

def q_s_comesAs (T : Nat → ClassId) (a0 : Nat) (r0 : Nat) (st : Int32) (an : Nat) (am : Int32) (al : Int32) (ao : Int32) (au : Int32) (a1 : Nat) (a2 : Nat) (a3 : Nat) (a4 : Nat) (a5 : Nat) (a6 : Nat) (a7 : Nat) (a8 : Nat) (a9 : Nat) (a10 : Nat) (af1 : Nat → Int32) (af2 : Nat → Int32) (af3 : Nat → Int32) (af9 : Nat → Int32) (rh : Int32) (rz : Nat) (r1 : Nat) (rs : Nat) (rf : Nat → Int64) : Option Value → va_W → Prop := fun rr ww => (rr = some (.int (nI 1)) ∧ ww = [(a0, .inr (5, [.int (nI an), .int am, .int al, .int ao, .int au, .ref a1, .ref a2, .ref a3, .ref a4, .ref a5, .ref a6, .ref a7, .ref a8, .ref a9, .ref a10])), (a1, .inl (T 0, 10, .inl af1)), (a2, .inl (T 0, 10, .inl af2)), (a3, .inl (T 0, 10, .inl af3)), (a9, .inl (T 0, 10, .inl af9)), (r0, .inr (1, [.int rh, .int (nI rz), .ref r1, .int (nI rs)])), (r1, .inl (T 1, 40, .inr (.inl rf)))]) ∨ (rr = some (.int (nI 0)) ∧ ww = [(a0, .inr (5, [.int (nI an), .int am, .int al, .int ao, .int au, .ref a1, .ref a2, .ref a3, .ref a4, .ref a5, .ref a6, .ref a7, .ref a8, .ref a9, .ref a10])), (a1, .inl (T 0, 10, .inl af1)), (a2, .inl (T 0, 10, .inl af2)), (a3, .inl (T 0, 10, .inl af3)), (a9, .inl (T 0, 10, .inl af9)), (r0, .inr (1, [.int rh, .int (nI rz), .ref r1, .int (nI rs)])), (r1, .inl (T 1, 40, .inr (.inl rf)))])
set_option maxHeartbeats 4000000 in
set_option maxRecDepth 100000 in
theorem s_comesAs (l : Launch) (D : va_G) (T : Nat → ClassId) (a0 : Nat) (r0 : Nat) (st : Int32) (an : Nat) (am : Int32) (al : Int32) (ao : Int32) (au : Int32) (a1 : Nat) (a2 : Nat) (a3 : Nat) (a4 : Nat) (a5 : Nat) (a6 : Nat) (a7 : Nat) (a8 : Nat) (a9 : Nat) (a10 : Nat) (af1 : Nat → Int32) (af2 : Nat → Int32) (af3 : Nat → Int32) (af9 : Nat → Int32) (rh : Int32) (rz : Nat) (r1 : Nat) (rs : Nat) (rf : Nat → Int64) (h_n : an ≤ 10) : Ct l yX5_comesAs cX5_comesAs 4 (some .boolean) 3 0 0 D T [.ref a0, .ref r0, .int st] [(a0, .inr (5, [.int (nI an), .int am, .int al, .int ao, .int au, .ref a1, .ref a2, .ref a3, .ref a4, .ref a5, .ref a6, .ref a7, .ref a8, .ref a9, .ref a10])), (a1, .inl (T 0, 10, .inl af1)), (a2, .inl (T 0, 10, .inl af2)), (a3, .inl (T 0, 10, .inl af3)), (a9, .inl (T 0, 10, .inl af9)), (r0, .inr (1, [.int rh, .int (nI rz), .ref r1, .int (nI rs)])), (r1, .inl (T 1, 40, .inr (.inl rf)))] (q_s_comesAs T a0 r0 st an am al ao au a1 a2 a3 a4 a5 a6 a7 a8 a9 a10 af1 af2 af3 af9 rh rz r1 rs rf) := by
  refine Ct.of (cc := cX5_comesAs) (maxL := 4) (ret := (some .boolean)) (by decide) (Nat.le_of_ble_eq_true rfl) ?_
  intro p e s m args below meth c A ls hC hnm V hl
  obtain ⟨hx, hb, hr, hml, hown, hts, hlocks⟩ := id hC
  generalize hH : s.heap = H at V ⊢
  clear hH
  have hl : lv_has ls 4 [(0, .ref a0), (1, .ref r0), (2, .int st)] := hl
  generalize hlo : ([] : List Loc) = locs at V ⊢
  clear hlo
  refine lv_iconst (v := (nI 0)) hx hb dX5_comesAs_0 (by decide +kernel) ?_
  refine lv_istore_n (lv' := [(3, .int (nI 0)), (0, .ref a0), (1, .ref r0), (2, .int st)]) hx hb dX5_comesAs_1 rfl hl (by decide) rfl (fun ls hl => ?_)
  have L_1 : ∀ (fu : Nat) (k2 : Nat), k2 ≤ an → an - k2 < fu → ∀ (H : Heap) (locs : List Loc) (ls : Array Slot), gW D T A s [(a0, .inr (5, [.int (nI an), .int am, .int al, .int ao, .int au, .ref a1, .ref a2, .ref a3, .ref a4, .ref a5, .ref a6, .ref a7, .ref a8, .ref a9, .ref a10])), (a1, .inl (T 0, 10, .inl af1)), (a2, .inl (T 0, 10, .inl af2)), (a3, .inl (T 0, 10, .inl af3)), (a9, .inl (T 0, 10, .inl af9)), (r0, .inr (1, [.int rh, .int (nI rz), .ref r1, .int (nI rs)])), (r1, .inl (T 1, 40, .inr (.inl rf)))] H locs → lv_has ls 4 [(3, .int (nI k2)), (0, .ref a0), (1, .ref r0), (2, .int st)] → W p l e (rmD 3 0 0) s m args below meth c H locs 0 0 (MQ below (gQ D A (q_s_comesAs T a0 r0 st an am al ao au a1 a2 a3 a4 a5 a6 a7 a8 a9 a10 af1 af2 af3 af9 rh rz r1 rs rf)) args s 0 0 A) (F0 m 2 ls []) := by
    intro fu_2
    induction fu_2 with
    | zero => intro k2 hk2 hmu; exact absurd hmu (Nat.not_lt_zero _)
    | succ fu_2 ih_2 =>
      intro k2 hk2 hmu_2 H locs ls V hl
      refine lv_iload_n hx hb dX5_comesAs_2 rfl (lv_at hl 0 rfl) ?_
      refine lv_aload_n hx hb dX5_comesAs_3 rfl (lv_at hl 1 rfl) ?_
      refine g_get hC V (ci := 5) uwX5 0 rfl rfl 0 (by decide) w_33 rfl rfl dX5_comesAs_4 ?_
      refine lv_icmp_ge (tgt := 35) hx hb dX5_comesAs_7 (by decide) (fun c_2 => ?_) (fun c_2 => ?_)
      · skip
        have c_2 := b_le (by omega) (by omega) c_2
        refine lv_iconst (v := (nI 1)) hx hb dX5_comesAs_35 (by decide +kernel) ?_
        exact g_zret (Qr := (q_s_comesAs T a0 r0 st an am al ao au a1 a2 a3 a4 a5 a6 a7 a8 a9 a10 af1 af2 af3 af9 rh rz r1 rs rf)) hC V ⟨(Nat.le_of_ble_eq_true rfl), (Nat.le_of_ble_eq_true rfl)⟩ (by first | decide +kernel | exact rfl) (.inl ⟨rfl, rfl⟩) dX5_comesAs_36
      · skip
        have c_2 := b_nle (by omega) (by omega) c_2
        refine lv_aload_n hx hb dX5_comesAs_10 rfl (lv_at hl 1 rfl) ?_
        refine lv_iload_n hx hb dX5_comesAs_11 rfl (lv_at hl 0 rfl) ?_
        refine lv_iload_n hx hb dX5_comesAs_12 rfl (lv_at hl 3 rfl) ?_
        refine g_callVU (nA := 2) hC V hl.1 (s_heatBehind l D T a0 k2 st an am al ao au a1 a2 a3 a4 a5 a6 a7 a8 a9 a10 af1 af2 af3 af9 (by first | assumption | omega) (by first | assumption | omega)) w_695 w_696 w_697 w_3 w_698 (by decide +kernel) rfl ⟨(Nat.le_of_ble_eq_true rfl), (Nat.le_of_ble_eq_true rfl)⟩ 0 (ci := 5) rfl rfl [0, 1, 2, 3, 4] rfl rfl (Nat.le_of_ble_eq_true rfl) dX5_comesAs_13 ⟨(Nat.le_of_ble_eq_true rfl), (Nat.le_of_ble_eq_true rfl)⟩ rfl (fun r w1 H locs hQ V => ?_)
        obtain ⟨z_3, rfl, rfl⟩ := hQ
        have V : gW D T A s [(a0, .inr (5, [.int (nI an), .int am, .int al, .int ao, .int au, .ref a1, .ref a2, .ref a3, .ref a4, .ref a5, .ref a6, .ref a7, .ref a8, .ref a9, .ref a10])), (a1, .inl (T 0, 10, .inl af1)), (a2, .inl (T 0, 10, .inl af2)), (a3, .inl (T 0, 10, .inl af3)), (a9, .inl (T 0, 10, .inl af9)), (r0, .inr (1, [.int rh, .int (nI rz), .ref r1, .int (nI rs)])), (r1, .inl (T 1, 40, .inr (.inl rf)))] H locs := V _ [0, 0, 0, 0, 0] rfl rfl rfl (by decide +kernel) rfl
        show W p l e _ s m args below meth c H locs _ _ _ (F0 m 16 ls [.int z_3])
        refine lv_i2l (v := z_3.toInt64) hx hb dX5_comesAs_16 rfl ?_
        refine lv_aload_n hx hb dX5_comesAs_17 rfl (lv_at hl 2 rfl) ?_
        refine g_get hC V (ci := 1) uwX1 5 rfl rfl 2 (by decide) w_236 rfl rfl dX5_comesAs_18 ?_
        refine lv_iload_n hx hb dX5_comesAs_21 rfl (lv_at hl 0 rfl) ?_
        refine g_lald hC V 6 rfl (vp_in_nI (by omega) (by omega)) (v := (rf k2)) (congrArg _ (nI_clamp (by omega))) dX5_comesAs_22 ?_
        refine W.lcmp hx hb dX5_comesAs_23 ?_
        refine lv_if_eq (tgt := 29) hx hb dX5_comesAs_24 (by decide) (fun c_4 => ?_) (fun c_4 => ?_)
        · skip
          refine lv_iinc (v := (nI (k2 + 1))) (lv' := [(3, .int (nI (k2 + 1))), (0, .ref a0), (1, .ref r0), (2, .int st)]) hx hb dX5_comesAs_29 hl (k := 0) rfl (nI_1 _) (by decide) rfl (fun ls hl => ?_)
          refine lv_goto (tgt := 2) hx hb dX5_comesAs_32 (by decide) ?_
          exact ih_2 (k2 + 1) (by omega) (by omega) _ _ _ V (lv_sub hl [0, 1, 2, 3] rfl)
        · skip
          refine lv_iconst (v := (nI 0)) hx hb dX5_comesAs_27 (by decide +kernel) ?_
          exact g_zret (Qr := (q_s_comesAs T a0 r0 st an am al ao au a1 a2 a3 a4 a5 a6 a7 a8 a9 a10 af1 af2 af3 af9 rh rz r1 rs rf)) hC V ⟨(Nat.le_of_ble_eq_true rfl), (Nat.le_of_ble_eq_true rfl)⟩ (by first | decide +kernel | exact rfl) (.inr ⟨rfl, rfl⟩) dX5_comesAs_28
  exact L_1 _ 0 (by omega) (Nat.lt_succ_self _) _ _ _ V (lv_sub hl [0, 1, 2, 3] rfl)
