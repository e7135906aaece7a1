def q_isSmith (T : Nat → ClassId) (a0 : Nat) (i : Int32) (am : Nat) (a1 : Nat) (a2 : Nat) (a3 : Nat) (a4 : Nat) (a5 : Nat) (a6 : Nat) (a7 : Nat) (a8 : Nat) (a9 : Nat) (a10 : Nat) : Option Value → va_W → Prop := fun rr ww => (rr = some (.int (nI 0)) ∧ ww = [(a0, .inr (5, [.int (nI 0), .int (nI am), .int (nI 0), .int (nI 20), .int (nI 0), .ref a1, .ref a2, .ref a3, .ref a4, .ref a5, .ref a6, .ref a7, .ref a8, .ref a9, .ref a10]))])
set_option maxHeartbeats 4000000 in
set_option maxRecDepth 100000 in
theorem c_isSmith (l : Launch) (D : va_G) (T : Nat → ClassId) (a0 : Nat) (i : Int32) (am : Nat) (a1 : Nat) (a2 : Nat) (a3 : Nat) (a4 : Nat) (a5 : Nat) (a6 : Nat) (a7 : Nat) (a8 : Nat) (a9 : Nat) (a10 : Nat) : Ct l yX5_isSmith cX5_isSmith 2 (some .boolean) 0 0 0 D T [.ref a0, .int i] [(a0, .inr (5, [.int (nI 0), .int (nI am), .int (nI 0), .int (nI 20), .int (nI 0), .ref a1, .ref a2, .ref a3, .ref a4, .ref a5, .ref a6, .ref a7, .ref a8, .ref a9, .ref a10]))] (q_isSmith T a0 i am a1 a2 a3 a4 a5 a6 a7 a8 a9 a10) := by
  refine Ct.of (cc := cX5_isSmith) (maxL := 2) (ret := (some .boolean)) (by decide) (Nat.le_of_ble_eq_true rfl) ?_
  intro p e s m args below meth c A ls hC hnm V hl
  obtain ⟨hx, hb, hr, hml, hown, hts, hlocks⟩ := id hC
  generalize hH : s.heap = H at V ⊢
  clear hH
  have hl : lv_has ls 2 [(0, .ref a0), (1, .int i)] := hl
  generalize hlo : ([] : List Loc) = locs at V ⊢
  clear hlo
  refine lv_iload_n hx hb dX5_isSmith_0 rfl (lv_at hl 1 rfl) ?_
  refine lv_if_lt (tgt := 16) hx hb dX5_isSmith_1 (by decide) (fun c_1 => ?_) (fun c_1 => ?_)
  · skip
    refine lv_iconst (v := (nI 0)) hx hb dX5_isSmith_16 (by decide +kernel) ?_
    exact g_zret (Qr := (q_isSmith T a0 i am a1 a2 a3 a4 a5 a6 a7 a8 a9 a10)) hC V ⟨(Nat.le_of_ble_eq_true rfl), (Nat.le_of_ble_eq_true rfl)⟩ (by first | decide +kernel | exact rfl) ⟨rfl, rfl⟩ dX5_isSmith_17
  · skip
    refine lv_iload_n hx hb dX5_isSmith_4 rfl (lv_at hl 1 rfl) ?_
    refine lv_aload_n hx hb dX5_isSmith_5 rfl (lv_at hl 0 rfl) ?_
    refine g_get hC V (ci := 5) uwX5 0 rfl rfl 0 (by decide) w_33 rfl rfl dX5_isSmith_6 ?_
    refine lv_icmp_ge (tgt := 16) hx hb dX5_isSmith_9 (by decide) (fun c_2 => ?_) (fun c_2 => ?_)
    · skip
      refine lv_iconst (v := (nI 0)) hx hb dX5_isSmith_16 (by decide +kernel) ?_
      exact g_zret (Qr := (q_isSmith T a0 i am a1 a2 a3 a4 a5 a6 a7 a8 a9 a10)) hC V ⟨(Nat.le_of_ble_eq_true rfl), (Nat.le_of_ble_eq_true rfl)⟩ (by first | decide +kernel | exact rfl) ⟨rfl, rfl⟩ dX5_isSmith_17
    · skip
      exact (by exact c_2 (Int32.not_lt.mp c_1) : False).elim

def q_everyone (T : Nat → ClassId) (a0 : Nat) (am : Nat) (a1 : Nat) (a2 : Nat) (a3 : Nat) (a4 : Nat) (a5 : Nat) (a6 : Nat) (a7 : Nat) (a8 : Nat) (a9 : Nat) (a10 : Nat) : Option Value → va_W → Prop := fun rr ww => (rr = some (.int (nI 0)) ∧ ww = [(a0, .inr (5, [.int (nI 0), .int (nI am), .int (nI 0), .int (nI 20), .int (nI 0), .ref a1, .ref a2, .ref a3, .ref a4, .ref a5, .ref a6, .ref a7, .ref a8, .ref a9, .ref a10]))])
set_option maxHeartbeats 4000000 in
set_option maxRecDepth 100000 in
theorem c_everyone (l : Launch) (D : va_G) (T : Nat → ClassId) (a0 : Nat) (am : Nat) (a1 : Nat) (a2 : Nat) (a3 : Nat) (a4 : Nat) (a5 : Nat) (a6 : Nat) (a7 : Nat) (a8 : Nat) (a9 : Nat) (a10 : Nat) : Ct l yX5_everyone cX5_everyone 1 (some .int) 0 0 0 D T [.ref a0] [(a0, .inr (5, [.int (nI 0), .int (nI am), .int (nI 0), .int (nI 20), .int (nI 0), .ref a1, .ref a2, .ref a3, .ref a4, .ref a5, .ref a6, .ref a7, .ref a8, .ref a9, .ref a10]))] (q_everyone T a0 am a1 a2 a3 a4 a5 a6 a7 a8 a9 a10) := by
  refine Ct.of (cc := cX5_everyone) (maxL := 1) (ret := (some .int)) (by decide) (Nat.le_of_ble_eq_true rfl) ?_
  intro p e s m args below meth c A ls hC hnm V hl
  obtain ⟨hx, hb, hr, hml, hown, hts, hlocks⟩ := id hC
  generalize hH : s.heap = H at V ⊢
  clear hH
  have hl : lv_has ls 1 [(0, .ref a0)] := hl
  generalize hlo : ([] : List Loc) = locs at V ⊢
  clear hlo
  refine lv_iconst (v := (nI 1)) hx hb dX5_everyone_0 (by decide +kernel) ?_
  refine lv_aload_n hx hb dX5_everyone_1 rfl (lv_at hl 0 rfl) ?_
  refine g_get hC V (ci := 5) uwX5 0 rfl rfl 0 (by decide) w_33 rfl rfl dX5_everyone_2 ?_
  refine lv_ishl hx hb dX5_everyone_5 ?_
  refine g_vi (y := (nI 1)) (by decide +kernel) ?_
  refine lv_iconst (v := (nI 1)) hx hb dX5_everyone_6 (by decide +kernel) ?_
  refine lv_isub hx hb dX5_everyone_7 ?_
  refine g_vi (y := (nI 0)) (by decide +kernel) ?_
  exact g_iret (Qr := (q_everyone T a0 am a1 a2 a3 a4 a5 a6 a7 a8 a9 a10)) hC V ⟨(Nat.le_of_ble_eq_true rfl), (Nat.le_of_ble_eq_true rfl)⟩ ⟨rfl, rfl⟩ dX5_everyone_8

def q_isSet (T : Nat → ClassId) (a0 : Nat) (v : Int32) (am : Nat) (a1 : Nat) (a2 : Nat) (a3 : Nat) (a4 : Nat) (a5 : Nat) (a6 : Nat) (a7 : Nat) (a8 : Nat) (a9 : Nat) (a10 : Nat) : Option Value → va_W → Prop := fun rr ww => (rr = some (.int (nI 1)) ∧ ww = [(a0, .inr (5, [.int (nI 0), .int (nI am), .int (nI 0), .int (nI 20), .int (nI 0), .ref a1, .ref a2, .ref a3, .ref a4, .ref a5, .ref a6, .ref a7, .ref a8, .ref a9, .ref a10]))] ∧ v = 0) ∨ (rr = some (.int (nI 0)) ∧ ww = [(a0, .inr (5, [.int (nI 0), .int (nI am), .int (nI 0), .int (nI 20), .int (nI 0), .ref a1, .ref a2, .ref a3, .ref a4, .ref a5, .ref a6, .ref a7, .ref a8, .ref a9, .ref a10]))] ∧ ¬ v = 0)
set_option maxHeartbeats 4000000 in
set_option maxRecDepth 100000 in
theorem c_isSet (l : Launch) (D : va_G) (T : Nat → ClassId) (a0 : Nat) (v : Int32) (am : Nat) (a1 : Nat) (a2 : Nat) (a3 : Nat) (a4 : Nat) (a5 : Nat) (a6 : Nat) (a7 : Nat) (a8 : Nat) (a9 : Nat) (a10 : Nat) : Ct l yX5_isSet cX5_isSet 2 (some .boolean) 1 0 0 D T [.ref a0, .int v] [(a0, .inr (5, [.int (nI 0), .int (nI am), .int (nI 0), .int (nI 20), .int (nI 0), .ref a1, .ref a2, .ref a3, .ref a4, .ref a5, .ref a6, .ref a7, .ref a8, .ref a9, .ref a10]))] (q_isSet T a0 v am a1 a2 a3 a4 a5 a6 a7 a8 a9 a10) := by
  refine Ct.of (cc := cX5_isSet) (maxL := 2) (ret := (some .boolean)) (by decide) (Nat.le_of_ble_eq_true rfl) ?_
  intro p e s m args below meth c A ls hC hnm V hl
  obtain ⟨hx, hb, hr, hml, hown, hts, hlocks⟩ := id hC
  generalize hH : s.heap = H at V ⊢
  clear hH
  have hl : lv_has ls 2 [(0, .ref a0), (1, .int v)] := hl
  generalize hlo : ([] : List Loc) = locs at V ⊢
  clear hlo
  refine lv_iload_n hx hb dX5_isSet_0 rfl (lv_at hl 1 rfl) ?_
  refine lv_aload_n hx hb dX5_isSet_1 rfl (lv_at hl 0 rfl) ?_
  refine g_callV (wr := []) (nA := 0) hC V hl.1 (c_everyone l D T a0 am a1 a2 a3 a4 a5 a6 a7 a8 a9 a10) w_462 w_463 w_464 w_3 w_465 (by decide +kernel) rfl ⟨(Nat.le_of_ble_eq_true rfl), (Nat.le_of_ble_eq_true rfl)⟩ 0 (ci := 5) rfl rfl [0] [] rfl rfl rfl rfl (by decide) (Nat.le_of_ble_eq_true rfl) dX5_isSet_2 ⟨(Nat.le_of_ble_eq_true rfl), (Nat.le_of_ble_eq_true rfl)⟩ rfl (fun r w1 H locs hQ V => ?_)
  obtain ⟨rfl, rfl⟩ := hQ
  have V : gW D T A s [(a0, .inr (5, [.int (nI 0), .int (nI am), .int (nI 0), .int (nI 20), .int (nI 0), .ref a1, .ref a2, .ref a3, .ref a4, .ref a5, .ref a6, .ref a7, .ref a8, .ref a9, .ref a10]))] H locs := V
  show W p l e _ s m args below meth c H locs _ _ _ (F0 m 5 ls [.int (nI 0), .int v])
  refine lv_iconst (v := (-1)) hx hb dX5_isSet_5 (by decide +kernel) ?_
  refine lv_ixor hx hb dX5_isSet_6 ?_
  refine g_vi (y := (-1)) (by decide +kernel) ?_
  refine lv_iand hx hb dX5_isSet_7 ?_
  refine g_vi (y := v) (by rw [show (-1 : Int32) = -1 from rfl, Int32.and_neg_one]) ?_
  refine lv_if_ne (tgt := 15) hx hb dX5_isSet_8 (by decide) (fun c_1 => ?_) (fun c_1 => ?_)
  · skip
    refine lv_iconst (v := (nI 0)) hx hb dX5_isSet_15 (by decide +kernel) ?_
    exact g_zret (Qr := (q_isSet T a0 v am a1 a2 a3 a4 a5 a6 a7 a8 a9 a10)) hC V ⟨(Nat.le_of_ble_eq_true rfl), (Nat.le_of_ble_eq_true rfl)⟩ (by first | decide +kernel | exact rfl) (.inr ⟨rfl, rfl, (by assumption)⟩) dX5_isSet_16
  · skip
    refine lv_iconst (v := (nI 1)) hx hb dX5_isSet_11 (by decide +kernel) ?_
    refine lv_goto (tgt := 16) hx hb dX5_isSet_12 (by decide) ?_
    exact g_zret (Qr := (q_isSet T a0 v am a1 a2 a3 a4 a5 a6 a7 a8 a9 a10)) hC V ⟨(Nat.le_of_ble_eq_true rfl), (Nat.le_of_ble_eq_true rfl)⟩ (by first | decide +kernel | exact rfl) (.inl ⟨rfl, rfl, (by assumption)⟩) dX5_isSet_16

def q_takeFrom (T : Nat → ClassId) (a0 : Nat) (b0 : Nat) (az : Int32) (am : Int32) (al : Int32) (ao : Int32) (au : Int32) (a1 : Nat) (a2 : Nat) (a3 : Nat) (a4 : Nat) (a5 : Nat) (a6 : Nat) (a7 : Nat) (a8 : Nat) (a9 : Nat) (a10 : Nat) (bm : Nat) (b1 : Nat) (b2 : Nat) (b3 : Nat) (b4 : Nat) (b5 : Nat) (b6 : Nat) (b7 : Nat) (b8 : Nat) (b9 : Nat) (b10 : Nat) : Option Value → va_W → Prop := fun rr ww => (rr = none ∧ ww = [(a0, .inr (5, [.int (nI 0), .int (nI bm), .int (nI 0), .int (nI 20), .int (nI 0), .ref a1, .ref a2, .ref a3, .ref a4, .ref a5, .ref a6, .ref a7, .ref a8, .ref a9, .ref a10])), (b0, .inr (5, [.int (nI 0), .int (nI bm), .int (nI 0), .int (nI 20), .int (nI 0), .ref b1, .ref b2, .ref b3, .ref b4, .ref b5, .ref b6, .ref b7, .ref b8, .ref b9, .ref b10]))])
set_option maxHeartbeats 4000000 in
set_option maxRecDepth 100000 in
theorem c_takeFrom (l : Launch) (D : va_G) (T : Nat → ClassId) (a0 : Nat) (b0 : Nat) (az : Int32) (am : Int32) (al : Int32) (ao : Int32) (au : Int32) (a1 : Nat) (a2 : Nat) (a3 : Nat) (a4 : Nat) (a5 : Nat) (a6 : Nat) (a7 : Nat) (a8 : Nat) (a9 : Nat) (a10 : Nat) (bm : Nat) (b1 : Nat) (b2 : Nat) (b3 : Nat) (b4 : Nat) (b5 : Nat) (b6 : Nat) (b7 : Nat) (b8 : Nat) (b9 : Nat) (b10 : Nat) : Ct l yX5_takeFrom cX5_takeFrom 3 none 0 0 0 D T [.ref a0, .ref b0] [(a0, .inr (5, [.int az, .int am, .int al, .int ao, .int au, .ref a1, .ref a2, .ref a3, .ref a4, .ref a5, .ref a6, .ref a7, .ref a8, .ref a9, .ref a10])), (b0, .inr (5, [.int (nI 0), .int (nI bm), .int (nI 0), .int (nI 20), .int (nI 0), .ref b1, .ref b2, .ref b3, .ref b4, .ref b5, .ref b6, .ref b7, .ref b8, .ref b9, .ref b10]))] (q_takeFrom T a0 b0 az am al ao au a1 a2 a3 a4 a5 a6 a7 a8 a9 a10 bm b1 b2 b3 b4 b5 b6 b7 b8 b9 b10) := by
  refine Ct.of (cc := cX5_takeFrom) (maxL := 3) (ret := none) (by decide) (Nat.le_of_ble_eq_true rfl) ?_
  intro p e s m args below meth c A ls hC hnm V hl
  obtain ⟨hx, hb, hr, hml, hown, hts, hlocks⟩ := id hC
  generalize hH : s.heap = H at V ⊢
  clear hH
  have hl : lv_has ls 3 [(0, .ref a0), (1, .ref b0)] := hl
  generalize hlo : ([] : List Loc) = locs at V ⊢
  clear hlo
  refine lv_aload_n hx hb dX5_takeFrom_0 rfl (lv_at hl 0 rfl) ?_
  refine lv_aload_n hx hb dX5_takeFrom_1 rfl (lv_at hl 1 rfl) ?_
  refine g_get hC V (ci := 5) uwX5 1 rfl rfl 0 (by decide) w_33 rfl rfl dX5_takeFrom_2 ?_
  refine g_put hC V (ci := 5) uwX5 tyX5 tyX5_ok nmX5 0 rfl rfl 0 (by decide) w_33 rfl rfl rfl rfl (Nat.le_of_ble_eq_true rfl) (ws' := [(a0, .inr (5, [.int (nI 0), .int am, .int al, .int ao, .int au, .ref a1, .ref a2, .ref a3, .ref a4, .ref a5, .ref a6, .ref a7, .ref a8, .ref a9, .ref a10])), (b0, .inr (5, [.int (nI 0), .int (nI bm), .int (nI 0), .int (nI 20), .int (nI 0), .ref b1, .ref b2, .ref b3, .ref b4, .ref b5, .ref b6, .ref b7, .ref b8, .ref b9, .ref b10]))]) rfl dX5_takeFrom_5 (fun H locs V => ?_)
  refine lv_aload_n hx hb dX5_takeFrom_8 rfl (lv_at hl 0 rfl) ?_
  refine lv_aload_n hx hb dX5_takeFrom_9 rfl (lv_at hl 1 rfl) ?_
  refine g_get hC V (ci := 5) uwX5 1 rfl rfl 1 (by decide) w_39 rfl rfl dX5_takeFrom_10 ?_
  refine g_put hC V (ci := 5) uwX5 tyX5 tyX5_ok nmX5 0 rfl rfl 1 (by decide) w_39 rfl rfl rfl rfl (Nat.le_of_ble_eq_true rfl) (ws' := [(a0, .inr (5, [.int (nI 0), .int (nI bm), .int al, .int ao, .int au, .ref a1, .ref a2, .ref a3, .ref a4, .ref a5, .ref a6, .ref a7, .ref a8, .ref a9, .ref a10])), (b0, .inr (5, [.int (nI 0), .int (nI bm), .int (nI 0), .int (nI 20), .int (nI 0), .ref b1, .ref b2, .ref b3, .ref b4, .ref b5, .ref b6, .ref b7, .ref b8, .ref b9, .ref b10]))]) rfl dX5_takeFrom_13 (fun H locs V => ?_)
  refine lv_aload_n hx hb dX5_takeFrom_16 rfl (lv_at hl 0 rfl) ?_
  refine lv_aload_n hx hb dX5_takeFrom_17 rfl (lv_at hl 1 rfl) ?_
  refine g_get hC V (ci := 5) uwX5 1 rfl rfl 2 (by decide) w_42 rfl rfl dX5_takeFrom_18 ?_
  refine g_put hC V (ci := 5) uwX5 tyX5 tyX5_ok nmX5 0 rfl rfl 2 (by decide) w_42 rfl rfl rfl rfl (Nat.le_of_ble_eq_true rfl) (ws' := [(a0, .inr (5, [.int (nI 0), .int (nI bm), .int (nI 0), .int ao, .int au, .ref a1, .ref a2, .ref a3, .ref a4, .ref a5, .ref a6, .ref a7, .ref a8, .ref a9, .ref a10])), (b0, .inr (5, [.int (nI 0), .int (nI bm), .int (nI 0), .int (nI 20), .int (nI 0), .ref b1, .ref b2, .ref b3, .ref b4, .ref b5, .ref b6, .ref b7, .ref b8, .ref b9, .ref b10]))]) rfl dX5_takeFrom_21 (fun H locs V => ?_)
  refine lv_aload_n hx hb dX5_takeFrom_24 rfl (lv_at hl 0 rfl) ?_
  refine lv_aload_n hx hb dX5_takeFrom_25 rfl (lv_at hl 1 rfl) ?_
  refine g_get hC V (ci := 5) uwX5 1 rfl rfl 3 (by decide) w_45 rfl rfl dX5_takeFrom_26 ?_
  refine g_put hC V (ci := 5) uwX5 tyX5 tyX5_ok nmX5 0 rfl rfl 3 (by decide) w_45 rfl rfl rfl rfl (Nat.le_of_ble_eq_true rfl) (ws' := [(a0, .inr (5, [.int (nI 0), .int (nI bm), .int (nI 0), .int (nI 20), .int au, .ref a1, .ref a2, .ref a3, .ref a4, .ref a5, .ref a6, .ref a7, .ref a8, .ref a9, .ref a10])), (b0, .inr (5, [.int (nI 0), .int (nI bm), .int (nI 0), .int (nI 20), .int (nI 0), .ref b1, .ref b2, .ref b3, .ref b4, .ref b5, .ref b6, .ref b7, .ref b8, .ref b9, .ref b10]))]) rfl dX5_takeFrom_29 (fun H locs V => ?_)
  refine lv_aload_n hx hb dX5_takeFrom_32 rfl (lv_at hl 0 rfl) ?_
  refine lv_aload_n hx hb dX5_takeFrom_33 rfl (lv_at hl 1 rfl) ?_
  refine g_get hC V (ci := 5) uwX5 1 rfl rfl 4 (by decide) w_49 rfl rfl dX5_takeFrom_34 ?_
  refine g_put hC V (ci := 5) uwX5 tyX5 tyX5_ok nmX5 0 rfl rfl 4 (by decide) w_49 rfl rfl rfl rfl (Nat.le_of_ble_eq_true rfl) (ws' := [(a0, .inr (5, [.int (nI 0), .int (nI bm), .int (nI 0), .int (nI 20), .int (nI 0), .ref a1, .ref a2, .ref a3, .ref a4, .ref a5, .ref a6, .ref a7, .ref a8, .ref a9, .ref a10])), (b0, .inr (5, [.int (nI 0), .int (nI bm), .int (nI 0), .int (nI 20), .int (nI 0), .ref b1, .ref b2, .ref b3, .ref b4, .ref b5, .ref b6, .ref b7, .ref b8, .ref b9, .ref b10]))]) rfl dX5_takeFrom_37 (fun H locs V => ?_)
  refine lv_iconst (v := (nI 0)) hx hb dX5_takeFrom_40 (by decide +kernel) ?_
  refine lv_istore_n (lv' := [(2, .int (nI 0)), (0, .ref a0), (1, .ref b0)]) hx hb dX5_takeFrom_41 rfl hl (by decide) rfl (fun ls hl => ?_)
  refine lv_iload_n hx hb dX5_takeFrom_42 rfl (lv_at hl 0 rfl) ?_
  refine lv_aload_n hx hb dX5_takeFrom_43 rfl (lv_at hl 1 rfl) ?_
  refine g_get hC V (ci := 5) uwX5 0 rfl rfl 0 (by decide) w_33 rfl rfl dX5_takeFrom_44 ?_
  refine lv_icmp_ge (tgt := 164) hx hb dX5_takeFrom_47 (by decide) (fun _ => ?_) (fun c => absurd (show (nI 0) ≤ (nI 0) by first | rfl | decide +kernel) c)
  exact g_vret (Qr := (q_takeFrom T a0 b0 az am al ao au a1 a2 a3 a4 a5 a6 a7 a8 a9 a10 bm b1 b2 b3 b4 b5 b6 b7 b8 b9 b10)) hC V ⟨(Nat.le_of_ble_eq_true rfl), (Nat.le_of_ble_eq_true rfl)⟩ ⟨rfl, rfl⟩ dX5_takeFrom_164

def q_clear (T : Nat → ClassId) (a0 : Nat) (am : Nat) (a1 : Nat) (a2 : Nat) (a3 : Nat) (a4 : Nat) (a5 : Nat) (a6 : Nat) (a7 : Nat) (a8 : Nat) (a9 : Nat) (a10 : Nat) : Option Value → va_W → Prop := fun rr ww => (rr = none ∧ ww = [(a0, .inr (5, [.int (nI 0), .int (nI 0), .int (nI 0), .int (nI 20), .int (nI 0), .ref a1, .ref a2, .ref a3, .ref a4, .ref a5, .ref a6, .ref a7, .ref a8, .ref a9, .ref a10]))])
set_option maxHeartbeats 4000000 in
set_option maxRecDepth 100000 in
theorem c_clear (l : Launch) (D : va_G) (T : Nat → ClassId) (a0 : Nat) (am : Nat) (a1 : Nat) (a2 : Nat) (a3 : Nat) (a4 : Nat) (a5 : Nat) (a6 : Nat) (a7 : Nat) (a8 : Nat) (a9 : Nat) (a10 : Nat) : Ct l yX5_clear cX5_clear 1 none 0 0 0 D T [.ref a0] [(a0, .inr (5, [.int (nI 0), .int (nI am), .int (nI 0), .int (nI 20), .int (nI 0), .ref a1, .ref a2, .ref a3, .ref a4, .ref a5, .ref a6, .ref a7, .ref a8, .ref a9, .ref a10]))] (q_clear T a0 am a1 a2 a3 a4 a5 a6 a7 a8 a9 a10) := by
  refine Ct.of (cc := cX5_clear) (maxL := 1) (ret := none) (by decide) (Nat.le_of_ble_eq_true rfl) ?_
  intro p e s m args below meth c A ls hC hnm V hl
  obtain ⟨hx, hb, hr, hml, hown, hts, hlocks⟩ := id hC
  generalize hH : s.heap = H at V ⊢
  clear hH
  have hl : lv_has ls 1 [(0, .ref a0)] := hl
  generalize hlo : ([] : List Loc) = locs at V ⊢
  clear hlo
  refine lv_aload_n hx hb dX5_clear_0 rfl (lv_at hl 0 rfl) ?_
  refine lv_iconst (v := (nI 0)) hx hb dX5_clear_1 (by decide +kernel) ?_
  refine g_put hC V (ci := 5) uwX5 tyX5 tyX5_ok nmX5 0 rfl rfl 0 (by decide) w_33 rfl rfl rfl rfl (Nat.le_of_ble_eq_true rfl) (ws' := [(a0, .inr (5, [.int (nI 0), .int (nI am), .int (nI 0), .int (nI 20), .int (nI 0), .ref a1, .ref a2, .ref a3, .ref a4, .ref a5, .ref a6, .ref a7, .ref a8, .ref a9, .ref a10]))]) rfl dX5_clear_2 (fun H locs V => ?_)
  refine lv_aload_n hx hb dX5_clear_5 rfl (lv_at hl 0 rfl) ?_
  refine lv_iconst (v := (nI 0)) hx hb dX5_clear_6 (by decide +kernel) ?_
  refine g_put hC V (ci := 5) uwX5 tyX5 tyX5_ok nmX5 0 rfl rfl 1 (by decide) w_39 rfl rfl rfl rfl (Nat.le_of_ble_eq_true rfl) (ws' := [(a0, .inr (5, [.int (nI 0), .int (nI 0), .int (nI 0), .int (nI 20), .int (nI 0), .ref a1, .ref a2, .ref a3, .ref a4, .ref a5, .ref a6, .ref a7, .ref a8, .ref a9, .ref a10]))]) rfl dX5_clear_7 (fun H locs V => ?_)
  refine lv_aload_n hx hb dX5_clear_10 rfl (lv_at hl 0 rfl) ?_
  refine lv_iconst (v := (nI 0)) hx hb dX5_clear_11 (by decide +kernel) ?_
  refine g_put hC V (ci := 5) uwX5 tyX5 tyX5_ok nmX5 0 rfl rfl 2 (by decide) w_42 rfl rfl rfl rfl (Nat.le_of_ble_eq_true rfl) (ws' := [(a0, .inr (5, [.int (nI 0), .int (nI 0), .int (nI 0), .int (nI 20), .int (nI 0), .ref a1, .ref a2, .ref a3, .ref a4, .ref a5, .ref a6, .ref a7, .ref a8, .ref a9, .ref a10]))]) rfl dX5_clear_12 (fun H locs V => ?_)
  refine lv_aload_n hx hb dX5_clear_15 rfl (lv_at hl 0 rfl) ?_
  refine lv_bipush (v := (nI 20)) hx hb dX5_clear_16 (by decide +kernel) ?_
  refine g_put hC V (ci := 5) uwX5 tyX5 tyX5_ok nmX5 0 rfl rfl 3 (by decide) w_45 rfl rfl rfl rfl (Nat.le_of_ble_eq_true rfl) (ws' := [(a0, .inr (5, [.int (nI 0), .int (nI 0), .int (nI 0), .int (nI 20), .int (nI 0), .ref a1, .ref a2, .ref a3, .ref a4, .ref a5, .ref a6, .ref a7, .ref a8, .ref a9, .ref a10]))]) rfl dX5_clear_18 (fun H locs V => ?_)
  refine lv_aload_n hx hb dX5_clear_21 rfl (lv_at hl 0 rfl) ?_
  refine lv_iconst (v := (nI 0)) hx hb dX5_clear_22 (by decide +kernel) ?_
  refine g_put hC V (ci := 5) uwX5 tyX5 tyX5_ok nmX5 0 rfl rfl 4 (by decide) w_49 rfl rfl rfl rfl (Nat.le_of_ble_eq_true rfl) (ws' := [(a0, .inr (5, [.int (nI 0), .int (nI 0), .int (nI 0), .int (nI 20), .int (nI 0), .ref a1, .ref a2, .ref a3, .ref a4, .ref a5, .ref a6, .ref a7, .ref a8, .ref a9, .ref a10]))]) rfl dX5_clear_23 (fun H locs V => ?_)
  exact g_vret (Qr := (q_clear T a0 am a1 a2 a3 a4 a5 a6 a7 a8 a9 a10)) hC V ⟨(Nat.le_of_ble_eq_true rfl), (Nat.le_of_ble_eq_true rfl)⟩ ⟨rfl, rfl⟩ dX5_clear_26

def q_lay (T : Nat → ClassId) (a0 : Nat) (am : Nat) (a1 : Nat) (a2 : Nat) (a3 : Nat) (a4 : Nat) (a5 : Nat) (a6 : Nat) (a7 : Nat) (a8 : Nat) (a9 : Nat) (a10 : Nat) : Option Value → va_W → Prop := fun rr ww => (rr = none ∧ ww = [(a0, .inr (5, [.int (nI 0), .int (nI am), .int (nI 0), .int (nI 20), .int (nI 0), .ref a1, .ref a2, .ref a3, .ref a4, .ref a5, .ref a6, .ref a7, .ref a8, .ref a9, .ref a10]))])
set_option maxHeartbeats 4000000 in
set_option maxRecDepth 100000 in
theorem c_lay (l : Launch) (D : va_G) (T : Nat → ClassId) (a0 : Nat) (am : Nat) (a1 : Nat) (a2 : Nat) (a3 : Nat) (a4 : Nat) (a5 : Nat) (a6 : Nat) (a7 : Nat) (a8 : Nat) (a9 : Nat) (a10 : Nat) : Ct l yX5_layUntoldRopes cX5_layUntoldRopes 2 none 0 0 0 D T [.ref a0] [(a0, .inr (5, [.int (nI 0), .int (nI am), .int (nI 0), .int (nI 20), .int (nI 0), .ref a1, .ref a2, .ref a3, .ref a4, .ref a5, .ref a6, .ref a7, .ref a8, .ref a9, .ref a10]))] (q_lay T a0 am a1 a2 a3 a4 a5 a6 a7 a8 a9 a10) := by
  refine Ct.of (cc := cX5_layUntoldRopes) (maxL := 2) (ret := none) (by decide) (Nat.le_of_ble_eq_true rfl) ?_
  intro p e s m args below meth c A ls hC hnm V hl
  obtain ⟨hx, hb, hr, hml, hown, hts, hlocks⟩ := id hC
  generalize hH : s.heap = H at V ⊢
  clear hH
  have hl : lv_has ls 2 [(0, .ref a0)] := hl
  generalize hlo : ([] : List Loc) = locs at V ⊢
  clear hlo
  refine lv_iconst (v := (nI 0)) hx hb dX5_layUntoldRopes_0 (by decide +kernel) ?_
  refine lv_istore_n (lv' := [(1, .int (nI 0)), (0, .ref a0)]) hx hb dX5_layUntoldRopes_1 rfl hl (by decide) rfl (fun ls hl => ?_)
  refine lv_iload_n hx hb dX5_layUntoldRopes_2 rfl (lv_at hl 0 rfl) ?_
  refine lv_aload_n hx hb dX5_layUntoldRopes_3 rfl (lv_at hl 1 rfl) ?_
  refine g_get hC V (ci := 5) uwX5 0 rfl rfl 0 (by decide) w_33 rfl rfl dX5_layUntoldRopes_4 ?_
  refine lv_icmp_ge (tgt := 49) hx hb dX5_layUntoldRopes_7 (by decide) (fun _ => ?_) (fun c => absurd (show (nI 0) ≤ (nI 0) by first | rfl | decide +kernel) c)
  exact g_vret (Qr := (q_lay T a0 am a1 a2 a3 a4 a5 a6 a7 a8 a9 a10)) hC V ⟨(Nat.le_of_ble_eq_true rfl), (Nat.le_of_ble_eq_true rfl)⟩ ⟨rfl, rfl⟩ dX5_layUntoldRopes_49

def q_weigh (T : Nat → ClassId) (a0 : Nat) (pull : Int32) (am : Nat) (a1 : Nat) (a2 : Nat) (a3 : Nat) (a4 : Nat) (a5 : Nat) (a6 : Nat) (a7 : Nat) (a8 : Nat) (a9 : Nat) (a10 : Nat) : Option Value → va_W → Prop := fun rr ww => (rr = none ∧ ww = [(a0, .inr (5, [.int (nI 0), .int (nI am), .int (nI 0), .int (nI 20), .int (nI 0), .ref a1, .ref a2, .ref a3, .ref a4, .ref a5, .ref a6, .ref a7, .ref a8, .ref a9, .ref a10]))])
set_option maxHeartbeats 4000000 in
set_option maxRecDepth 100000 in
theorem c_weigh (l : Launch) (D : va_G) (T : Nat → ClassId) (a0 : Nat) (pull : Int32) (am : Nat) (a1 : Nat) (a2 : Nat) (a3 : Nat) (a4 : Nat) (a5 : Nat) (a6 : Nat) (a7 : Nat) (a8 : Nat) (a9 : Nat) (a10 : Nat) : Ct l yX5_weighChanges cX5_weighChanges 3 none 0 0 0 D T [.ref a0, .int pull] [(a0, .inr (5, [.int (nI 0), .int (nI am), .int (nI 0), .int (nI 20), .int (nI 0), .ref a1, .ref a2, .ref a3, .ref a4, .ref a5, .ref a6, .ref a7, .ref a8, .ref a9, .ref a10]))] (q_weigh T a0 pull am a1 a2 a3 a4 a5 a6 a7 a8 a9 a10) := by
  refine Ct.of (cc := cX5_weighChanges) (maxL := 3) (ret := none) (by decide) (Nat.le_of_ble_eq_true rfl) ?_
  intro p e s m args below meth c A ls hC hnm V hl
  obtain ⟨hx, hb, hr, hml, hown, hts, hlocks⟩ := id hC
  generalize hH : s.heap = H at V ⊢
  clear hH
  have hl : lv_has ls 3 [(0, .ref a0), (1, .int pull)] := hl
  generalize hlo : ([] : List Loc) = locs at V ⊢
  clear hlo
  refine lv_iconst (v := (nI 0)) hx hb dX5_weighChanges_0 (by decide +kernel) ?_
  refine lv_istore_n (lv' := [(2, .int (nI 0)), (0, .ref a0), (1, .int pull)]) hx hb dX5_weighChanges_1 rfl hl (by decide) rfl (fun ls hl => ?_)
  refine lv_iload_n hx hb dX5_weighChanges_2 rfl (lv_at hl 0 rfl) ?_
  refine lv_aload_n hx hb dX5_weighChanges_3 rfl (lv_at hl 1 rfl) ?_
  refine g_get hC V (ci := 5) uwX5 0 rfl rfl 0 (by decide) w_33 rfl rfl dX5_weighChanges_4 ?_
  refine lv_icmp_ge (tgt := 29) hx hb dX5_weighChanges_7 (by decide) (fun _ => ?_) (fun c => absurd (show (nI 0) ≤ (nI 0) by first | rfl | decide +kernel) c)
  refine lv_iconst (v := (nI 0)) hx hb dX5_weighChanges_29 (by decide +kernel) ?_
  refine lv_istore_n (lv' := [(2, .int (nI 0)), (0, .ref a0), (1, .int pull)]) hx hb dX5_weighChanges_30 rfl hl (by decide) rfl (fun ls hl => ?_)
  refine lv_iload_n hx hb dX5_weighChanges_31 rfl (lv_at hl 0 rfl) ?_
  refine lv_aload_n hx hb dX5_weighChanges_32 rfl (lv_at hl 1 rfl) ?_
  refine g_get hC V (ci := 5) uwX5 0 rfl rfl 0 (by decide) w_33 rfl rfl dX5_weighChanges_33 ?_
  refine lv_icmp_ge (tgt := 73) hx hb dX5_weighChanges_36 (by decide) (fun _ => ?_) (fun c => absurd (show (nI 0) ≤ (nI 0) by first | rfl | decide +kernel) c)
  exact g_vret (Qr := (q_weigh T a0 pull am a1 a2 a3 a4 a5 a6 a7 a8 a9 a10)) hC V ⟨(Nat.le_of_ble_eq_true rfl), (Nat.le_of_ble_eq_true rfl)⟩ ⟨rfl, rfl⟩ dX5_weighChanges_73

def q_pass (T : Nat → ClassId) (a0 : Nat) (pull : Int32) (strike : Int32) (fire : Int32) (bl : Int32) (am : Nat) (a1 : Nat) (a2 : Nat) (a3 : Nat) (a4 : Nat) (a5 : Nat) (a6 : Nat) (a7 : Nat) (a8 : Nat) (a9 : Nat) (a10 : Nat) : Option Value → va_W → Prop := fun rr ww => (rr = some (.int (nI 0)) ∧ ww = [(a0, .inr (5, [.int (nI 0), .int (nI (am + 1)), .int (nI 0), .int (nI 20), .int (nI 0), .ref a1, .ref a2, .ref a3, .ref a4, .ref a5, .ref a6, .ref a7, .ref a8, .ref a9, .ref a10]))])
set_option maxHeartbeats 4000000 in
set_option maxRecDepth 100000 in
theorem c_pass (l : Launch) (D : va_G) (T : Nat → ClassId) (a0 : Nat) (pull : Int32) (strike : Int32) (fire : Int32) (bl : Int32) (am : Nat) (a1 : Nat) (a2 : Nat) (a3 : Nat) (a4 : Nat) (a5 : Nat) (a6 : Nat) (a7 : Nat) (a8 : Nat) (a9 : Nat) (a10 : Nat) : Ct l yX5_pass cX5_pass 7 (some .int) 1 0 0 D T [.ref a0, .int pull, .int strike, .int fire, .int bl] [(a0, .inr (5, [.int (nI 0), .int (nI am), .int (nI 0), .int (nI 20), .int (nI 0), .ref a1, .ref a2, .ref a3, .ref a4, .ref a5, .ref a6, .ref a7, .ref a8, .ref a9, .ref a10]))] (q_pass T a0 pull strike fire bl am a1 a2 a3 a4 a5 a6 a7 a8 a9 a10) := by
  refine Ct.of (cc := cX5_pass) (maxL := 7) (ret := (some .int)) (by decide) (Nat.le_of_ble_eq_true rfl) ?_
  intro p e s m args below meth c A ls hC hnm V hl
  obtain ⟨hx, hb, hr, hml, hown, hts, hlocks⟩ := id hC
  generalize hH : s.heap = H at V ⊢
  clear hH
  have hl : lv_has ls 7 [(0, .ref a0), (1, .int pull), (2, .int strike), (3, .int fire), (4, .int bl)] := hl
  generalize hlo : ([] : List Loc) = locs at V ⊢
  clear hlo
  refine lv_iconst (v := (nI 0)) hx hb dX5_pass_0 (by decide +kernel) ?_
  refine lv_istore (lv' := [(5, .int (nI 0)), (0, .ref a0), (1, .int pull), (2, .int strike), (3, .int fire), (4, .int bl)]) hx hb dX5_pass_1 hl (by decide) rfl (fun ls hl => ?_)
  refine lv_iconst (v := (nI 0)) hx hb dX5_pass_3 (by decide +kernel) ?_
  refine lv_istore (lv' := [(6, .int (nI 0)), (5, .int (nI 0)), (0, .ref a0), (1, .int pull), (2, .int strike), (3, .int fire), (4, .int bl)]) hx hb dX5_pass_4 hl (by decide) rfl (fun ls hl => ?_)
  refine lv_iload hx hb dX5_pass_6 (lv_at hl 0 rfl) ?_
  refine lv_aload_n hx hb dX5_pass_8 rfl (lv_at hl 2 rfl) ?_
  refine g_get hC V (ci := 5) uwX5 0 rfl rfl 0 (by decide) w_33 rfl rfl dX5_pass_9 ?_
  refine lv_icmp_ge (tgt := 53) hx hb dX5_pass_12 (by decide) (fun _ => ?_) (fun c => absurd (show (nI 0) ≤ (nI 0) by first | rfl | decide +kernel) c)
  refine lv_aload_n hx hb dX5_pass_53 rfl (lv_at hl 2 rfl) ?_
  refine lv_iload_n hx hb dX5_pass_54 rfl (lv_at hl 3 rfl) ?_
  refine g_callV (wr := []) (nA := 1) hC V hl.1 (c_weigh l D T a0 pull am a1 a2 a3 a4 a5 a6 a7 a8 a9 a10) w_482 w_484 w_s9 w_3 w_485 (by decide +kernel) rfl ⟨(Nat.le_of_ble_eq_true rfl), (Nat.le_of_ble_eq_true rfl)⟩ 0 (ci := 5) rfl rfl [0] [] rfl rfl rfl rfl (by decide) (Nat.le_of_ble_eq_true rfl) dX5_pass_55 ⟨(Nat.le_of_ble_eq_true rfl), (Nat.le_of_ble_eq_true rfl)⟩ rfl (fun r w1 H locs hQ V => ?_)
  obtain ⟨rfl, rfl⟩ := hQ
  have V : gW D T A s [(a0, .inr (5, [.int (nI 0), .int (nI am), .int (nI 0), .int (nI 20), .int (nI 0), .ref a1, .ref a2, .ref a3, .ref a4, .ref a5, .ref a6, .ref a7, .ref a8, .ref a9, .ref a10]))] H locs := V
  show W p l e _ s m args below meth c H locs _ _ _ (F0 m 58 ls [])
  refine lv_aload_n hx hb dX5_pass_58 rfl (lv_at hl 2 rfl) ?_
  refine lv_iload_n hx hb dX5_pass_59 rfl (lv_at hl 5 rfl) ?_
  refine g_callV (wr := []) (nA := 1) hC V hl.1 (c_isSmith l D T a0 fire am a1 a2 a3 a4 a5 a6 a7 a8 a9 a10) w_486 w_426 w_427 w_3 w_428 (by decide +kernel) rfl ⟨(Nat.le_of_ble_eq_true rfl), (Nat.le_of_ble_eq_true rfl)⟩ 0 (ci := 5) rfl rfl [0] [] rfl rfl rfl rfl (by decide) (Nat.le_of_ble_eq_true rfl) dX5_pass_60 ⟨(Nat.le_of_ble_eq_true rfl), (Nat.le_of_ble_eq_true rfl)⟩ rfl (fun r w1 H locs hQ V => ?_)
  obtain ⟨rfl, rfl⟩ := hQ
  have V : gW D T A s [(a0, .inr (5, [.int (nI 0), .int (nI am), .int (nI 0), .int (nI 20), .int (nI 0), .ref a1, .ref a2, .ref a3, .ref a4, .ref a5, .ref a6, .ref a7, .ref a8, .ref a9, .ref a10]))] H locs := V
  show W p l e _ s m args below meth c H locs _ _ _ (F0 m 63 ls [.int (nI 0)])
  refine lv_if_eq (tgt := 77) hx hb dX5_pass_63 (by decide) (fun _ => ?_) (fun c => absurd (show (nI 0) = 0 by decide +kernel) c)
  refine lv_iconst (v := (nI 0)) hx hb dX5_pass_77 (by decide +kernel) ?_
  refine lv_istore (lv' := [(6, .int (nI 0)), (5, .int (nI 0)), (0, .ref a0), (1, .int pull), (2, .int strike), (3, .int fire), (4, .int bl)]) hx hb dX5_pass_78 hl (by decide) rfl (fun ls hl => ?_)
  refine lv_iload hx hb dX5_pass_80 (lv_at hl 0 rfl) ?_
  refine lv_aload_n hx hb dX5_pass_82 rfl (lv_at hl 2 rfl) ?_
  refine g_get hC V (ci := 5) uwX5 0 rfl rfl 0 (by decide) w_33 rfl rfl dX5_pass_83 ?_
  refine lv_icmp_ge (tgt := 126) hx hb dX5_pass_86 (by decide) (fun _ => ?_) (fun c => absurd (show (nI 0) ≤ (nI 0) by first | rfl | decide +kernel) c)
  refine lv_aload_n hx hb dX5_pass_126 rfl (lv_at hl 2 rfl) ?_
  refine lv_dup hx hb dX5_pass_127 rfl ?_
  refine g_get hC V (ci := 5) uwX5 0 rfl rfl 1 (by decide) w_39 rfl rfl dX5_pass_128 ?_
  refine lv_iconst (v := (nI 1)) hx hb dX5_pass_131 (by decide +kernel) ?_
  refine lv_iadd hx hb dX5_pass_132 ?_
  refine g_vi (y := (nI (am + 1))) (nI_add _ _) ?_
  refine g_put hC V (ci := 5) uwX5 tyX5 tyX5_ok nmX5 0 rfl rfl 1 (by decide) w_39 rfl rfl rfl rfl (Nat.le_of_ble_eq_true rfl) (ws' := [(a0, .inr (5, [.int (nI 0), .int (nI (am + 1)), .int (nI 0), .int (nI 20), .int (nI 0), .ref a1, .ref a2, .ref a3, .ref a4, .ref a5, .ref a6, .ref a7, .ref a8, .ref a9, .ref a10]))]) rfl dX5_pass_133 (fun H locs V => ?_)
  refine lv_iload hx hb dX5_pass_136 (lv_at hl 1 rfl) ?_
  exact g_iret (Qr := (q_pass T a0 pull strike fire bl am a1 a2 a3 a4 a5 a6 a7 a8 a9 a10)) hC V ⟨(Nat.le_of_ble_eq_true rfl), (Nat.le_of_ble_eq_true rfl)⟩ ⟨rfl, rfl⟩ dX5_pass_138

def q_passByCustom (T : Nat → ClassId) (a0 : Nat) (idle : Int32) (fire : Int32) (bl : Int32) (am : Nat) (a1 : Nat) (a2 : Nat) (a3 : Nat) (a4 : Nat) (a5 : Nat) (a6 : Nat) (a7 : Nat) (a8 : Nat) (a9 : Nat) (a10 : Nat) : Option Value → va_W → Prop := fun rr ww => (rr = some (.int (nI 0)) ∧ ww = [(a0, .inr (5, [.int (nI 0), .int (nI (am + 1)), .int (nI 0), .int (nI 20), .int (nI 0), .ref a1, .ref a2, .ref a3, .ref a4, .ref a5, .ref a6, .ref a7, .ref a8, .ref a9, .ref a10]))])
set_option maxHeartbeats 4000000 in
set_option maxRecDepth 100000 in
theorem c_passByCustom (l : Launch) (D : va_G) (T : Nat → ClassId) (a0 : Nat) (idle : Int32) (fire : Int32) (bl : Int32) (am : Nat) (a1 : Nat) (a2 : Nat) (a3 : Nat) (a4 : Nat) (a5 : Nat) (a6 : Nat) (a7 : Nat) (a8 : Nat) (a9 : Nat) (a10 : Nat) : Ct l yX5_passByCustom cX5_passByCustom 7 (some .int) 2 0 0 D T [.ref a0, .int idle, .int fire, .int bl] [(a0, .inr (5, [.int (nI 0), .int (nI am), .int (nI 0), .int (nI 20), .int (nI 0), .ref a1, .ref a2, .ref a3, .ref a4, .ref a5, .ref a6, .ref a7, .ref a8, .ref a9, .ref a10]))] (q_passByCustom T a0 idle fire bl am a1 a2 a3 a4 a5 a6 a7 a8 a9 a10) := by
  refine Ct.of (cc := cX5_passByCustom) (maxL := 7) (ret := (some .int)) (by decide) (Nat.le_of_ble_eq_true rfl) ?_
  intro p e s m args below meth c A ls hC hnm V hl
  obtain ⟨hx, hb, hr, hml, hown, hts, hlocks⟩ := id hC
  generalize hH : s.heap = H at V ⊢
  clear hH
  have hl : lv_has ls 7 [(0, .ref a0), (1, .int idle), (2, .int fire), (3, .int bl)] := hl
  generalize hlo : ([] : List Loc) = locs at V ⊢
  clear hlo
  refine lv_iconst (v := (nI 0)) hx hb dX5_passByCustom_0 (by decide +kernel) ?_
  refine lv_istore (lv' := [(4, .int (nI 0)), (0, .ref a0), (1, .int idle), (2, .int fire), (3, .int bl)]) hx hb dX5_passByCustom_1 hl (by decide) rfl (fun ls hl => ?_)
  refine lv_iconst (v := (nI 0)) hx hb dX5_passByCustom_3 (by decide +kernel) ?_
  refine lv_istore (lv' := [(5, .int (nI 0)), (4, .int (nI 0)), (0, .ref a0), (1, .int idle), (2, .int fire), (3, .int bl)]) hx hb dX5_passByCustom_4 hl (by decide) rfl (fun ls hl => ?_)
  refine lv_iconst (v := (nI 0)) hx hb dX5_passByCustom_6 (by decide +kernel) ?_
  refine lv_istore (lv' := [(6, .int (nI 0)), (5, .int (nI 0)), (4, .int (nI 0)), (0, .ref a0), (1, .int idle), (2, .int fire), (3, .int bl)]) hx hb dX5_passByCustom_7 hl (by decide) rfl (fun ls hl => ?_)
  refine lv_iload hx hb dX5_passByCustom_9 (lv_at hl 0 rfl) ?_
  refine lv_aload_n hx hb dX5_passByCustom_11 rfl (lv_at hl 3 rfl) ?_
  refine g_get hC V (ci := 5) uwX5 0 rfl rfl 0 (by decide) w_33 rfl rfl dX5_passByCustom_12 ?_
  refine lv_icmp_ge (tgt := 87) hx hb dX5_passByCustom_15 (by decide) (fun _ => ?_) (fun c => absurd (show (nI 0) ≤ (nI 0) by first | rfl | decide +kernel) c)
  refine lv_aload_n hx hb dX5_passByCustom_87 rfl (lv_at hl 3 rfl) ?_
  refine lv_iload_n hx hb dX5_passByCustom_88 rfl (lv_at hl 5 rfl) ?_
  refine g_callV (wr := []) (nA := 1) hC V hl.1 (c_isSmith l D T a0 fire am a1 a2 a3 a4 a5 a6 a7 a8 a9 a10) w_486 w_426 w_427 w_3 w_428 (by decide +kernel) rfl ⟨(Nat.le_of_ble_eq_true rfl), (Nat.le_of_ble_eq_true rfl)⟩ 0 (ci := 5) rfl rfl [0] [] rfl rfl rfl rfl (by decide) (Nat.le_of_ble_eq_true rfl) dX5_passByCustom_89 ⟨(Nat.le_of_ble_eq_true rfl), (Nat.le_of_ble_eq_true rfl)⟩ rfl (fun r w1 H locs hQ V => ?_)
  obtain ⟨rfl, rfl⟩ := hQ
  have V : gW D T A s [(a0, .inr (5, [.int (nI 0), .int (nI am), .int (nI 0), .int (nI 20), .int (nI 0), .ref a1, .ref a2, .ref a3, .ref a4, .ref a5, .ref a6, .ref a7, .ref a8, .ref a9, .ref a10]))] H locs := V
  show W p l e _ s m args below meth c H locs _ _ _ (F0 m 92 ls [.int (nI 0)])
  refine lv_if_eq (tgt := 108) hx hb dX5_passByCustom_92 (by decide) (fun _ => ?_) (fun c => absurd (show (nI 0) = 0 by decide +kernel) c)
  refine lv_iconst (v := (nI 0)) hx hb dX5_passByCustom_108 (by decide +kernel) ?_
  refine lv_istore (lv' := [(6, .int (nI 0)), (5, .int (nI 0)), (4, .int (nI 0)), (0, .ref a0), (1, .int idle), (2, .int fire), (3, .int bl)]) hx hb dX5_passByCustom_109 hl (by decide) rfl (fun ls hl => ?_)
  refine lv_aload_n hx hb dX5_passByCustom_111 rfl (lv_at hl 3 rfl) ?_
  refine lv_iload hx hb dX5_passByCustom_112 (lv_at hl 1 rfl) ?_
  refine lv_iload hx hb dX5_passByCustom_114 (lv_at hl 2 rfl) ?_
  refine lv_iload hx hb dX5_passByCustom_116 (lv_at hl 0 rfl) ?_
  refine lv_if_eq (tgt := 125) hx hb dX5_passByCustom_118 (by decide) (fun _ => ?_) (fun c => absurd (show (nI 0) = 0 by decide +kernel) c)
  refine lv_iconst (v := (-1)) hx hb dX5_passByCustom_125 (by decide +kernel) ?_
  refine lv_iload_n hx hb dX5_passByCustom_126 rfl (lv_at hl 6 rfl) ?_
  refine g_callV (wr := []) (nA := 4) hC V hl.1 (c_pass l D T a0 (nI 0) (nI 0) (-1) bl am a1 a2 a3 a4 a5 a6 a7 a8 a9 a10) w_552 w_467 w_468 w_3 w_469 (by decide +kernel) rfl ⟨(Nat.le_of_ble_eq_true rfl), (Nat.le_of_ble_eq_true rfl)⟩ 0 (ci := 5) rfl rfl [0] [] rfl rfl rfl rfl (by decide) (Nat.le_of_ble_eq_true rfl) dX5_passByCustom_127 ⟨(Nat.le_of_ble_eq_true rfl), (Nat.le_of_ble_eq_true rfl)⟩ rfl (fun r w1 H locs hQ V => ?_)
  obtain ⟨rfl, rfl⟩ := hQ
  have V : gW D T A s [(a0, .inr (5, [.int (nI 0), .int (nI (am + 1)), .int (nI 0), .int (nI 20), .int (nI 0), .ref a1, .ref a2, .ref a3, .ref a4, .ref a5, .ref a6, .ref a7, .ref a8, .ref a9, .ref a10]))] H locs := V
  show W p l e _ s m args below meth c H locs _ _ _ (F0 m 130 ls [.int (nI 0)])
  exact g_iret (Qr := (q_passByCustom T a0 idle fire bl am a1 a2 a3 a4 a5 a6 a7 a8 a9 a10)) hC V ⟨(Nat.le_of_ble_eq_true rfl), (Nat.le_of_ble_eq_true rfl)⟩ ⟨rfl, rfl⟩ dX5_passByCustom_130

def q_passAll (T : Nat → ClassId) (a0 : Nat) (n : Nat) (idle : Int32) (fire : Int32) (bl : Int32) (am : Nat) (a1 : Nat) (a2 : Nat) (a3 : Nat) (a4 : Nat) (a5 : Nat) (a6 : Nat) (a7 : Nat) (a8 : Nat) (a9 : Nat) (a10 : Nat) : Option Value → va_W → Prop := fun rr ww => (∃ (z : Nat), rr = some (.int (nI 0)) ∧ ww = [(a0, .inr (5, [.int (nI 0), .int (nI z), .int (nI 0), .int (nI 20), .int (nI 0), .ref a1, .ref a2, .ref a3, .ref a4, .ref a5, .ref a6, .ref a7, .ref a8, .ref a9, .ref a10]))])
set_option maxHeartbeats 4000000 in
set_option maxRecDepth 100000 in
theorem c_passAll (l : Launch) (D : va_G) (T : Nat → ClassId) (a0 : Nat) (n : Nat) (idle : Int32) (fire : Int32) (bl : Int32) (am : Nat) (a1 : Nat) (a2 : Nat) (a3 : Nat) (a4 : Nat) (a5 : Nat) (a6 : Nat) (a7 : Nat) (a8 : Nat) (a9 : Nat) (a10 : Nat) (h_n : n ≤ 200) : Ct l yX5_passAllByCustom cX5_passAllByCustom 7 (some .int) 3 0 0 D T [.ref a0, .int (nI n), .int idle, .int fire, .int bl] [(a0, .inr (5, [.int (nI 0), .int (nI am), .int (nI 0), .int (nI 20), .int (nI 0), .ref a1, .ref a2, .ref a3, .ref a4, .ref a5, .ref a6, .ref a7, .ref a8, .ref a9, .ref a10]))] (q_passAll T a0 n idle fire bl am a1 a2 a3 a4 a5 a6 a7 a8 a9 a10) := by
  refine Ct.of (cc := cX5_passAllByCustom) (maxL := 7) (ret := (some .int)) (by decide) (Nat.le_of_ble_eq_true rfl) ?_
  intro p e s m args below meth c A ls hC hnm V hl
  obtain ⟨hx, hb, hr, hml, hown, hts, hlocks⟩ := id hC
  generalize hH : s.heap = H at V ⊢
  clear hH
  have hl : lv_has ls 7 [(0, .ref a0), (1, .int (nI n)), (2, .int idle), (3, .int fire), (4, .int bl)] := hl
  generalize hlo : ([] : List Loc) = locs at V ⊢
  clear hlo
  refine lv_iconst (v := (nI 0)) hx hb dX5_passAllByCustom_0 (by decide +kernel) ?_
  refine lv_istore (lv' := [(5, .int (nI 0)), (0, .ref a0), (1, .int (nI n)), (2, .int idle), (3, .int fire), (4, .int bl)]) hx hb dX5_passAllByCustom_1 hl (by decide) rfl (fun ls hl => ?_)
  refine lv_iconst (v := (nI 0)) hx hb dX5_passAllByCustom_3 (by decide +kernel) ?_
  refine lv_istore (lv' := [(6, .int (nI 0)), (5, .int (nI 0)), (0, .ref a0), (1, .int (nI n)), (2, .int idle), (3, .int fire), (4, .int bl)]) hx hb dX5_passAllByCustom_4 hl (by decide) rfl (fun ls hl => ?_)
  have L_1 : ∀ (fu : Nat) (k : Nat) (mm : Nat), k ≤ n → n - k < fu → ∀ (H : Heap) (locs : List Loc) (ls : Array Slot), gW D T A s [(a0, .inr (5, [.int (nI 0), .int (nI mm), .int (nI 0), .int (nI 20), .int (nI 0), .ref a1, .ref a2, .ref a3, .ref a4, .ref a5, .ref a6, .ref a7, .ref a8, .ref a9, .ref a10]))] H locs → lv_has ls 7 [(6, .int (nI k)), (5, .int (nI 0)), (0, .ref a0), (1, .int (nI n)), (2, .int idle), (3, .int fire), (4, .int bl)] → W p l e (rmD 3 0 0) s m args below meth c H locs 0 0 (MQ below (gQ D A (q_passAll T a0 n idle fire bl am a1 a2 a3 a4 a5 a6 a7 a8 a9 a10)) args s 0 0 A) (F0 m 6 ls []) := by
    intro fu
    induction fu with
    | zero => intro k mm hk hmu; exact absurd hmu (Nat.not_lt_zero _)
    | succ fu ih =>
      intro k mm hk hmu H locs ls V hl
      refine lv_iload hx hb dX5_passAllByCustom_6 (lv_at hl 0 rfl) ?_
      refine lv_iload_n hx hb dX5_passAllByCustom_8 rfl (lv_at hl 3 rfl) ?_
      refine lv_icmp_ge (tgt := 31) hx hb dX5_passAllByCustom_9 (by decide) (fun c_2 => ?_) (fun c_2 => ?_)
      · skip
        have c_2 := b_le (by omega) (by omega) c_2
        refine lv_iload hx hb dX5_passAllByCustom_31 (lv_at hl 1 rfl) ?_
        exact g_iret (Qr := (q_passAll T a0 n idle fire bl am a1 a2 a3 a4 a5 a6 a7 a8 a9 a10)) hC V ⟨(Nat.le_of_ble_eq_true rfl), (Nat.le_of_ble_eq_true rfl)⟩ ⟨mm, rfl, rfl⟩ dX5_passAllByCustom_33
      · skip
        have c_2 := b_nle (by omega) (by omega) c_2
        refine lv_iload hx hb dX5_passAllByCustom_12 (lv_at hl 1 rfl) ?_
        refine lv_aload_n hx hb dX5_passAllByCustom_14 rfl (lv_at hl 2 rfl) ?_
        refine lv_iload_n hx hb dX5_passAllByCustom_15 rfl (lv_at hl 4 rfl) ?_
        refine lv_iload_n hx hb dX5_passAllByCustom_16 rfl (lv_at hl 5 rfl) ?_
        refine lv_iload hx hb dX5_passAllByCustom_17 (lv_at hl 6 rfl) ?_
        refine g_callV (wr := []) (nA := 3) hC V hl.1 (c_passByCustom l D T a0 idle fire bl mm a1 a2 a3 a4 a5 a6 a7 a8 a9 a10) w_544 w_545 w_546 w_3 w_547 (by decide +kernel) rfl ⟨(Nat.le_of_ble_eq_true rfl), (Nat.le_of_ble_eq_true rfl)⟩ 0 (ci := 5) rfl rfl [0] [] rfl rfl rfl rfl (by decide) (Nat.le_of_ble_eq_true rfl) dX5_passAllByCustom_19 ⟨(Nat.le_of_ble_eq_true rfl), (Nat.le_of_ble_eq_true rfl)⟩ rfl (fun r w1 H locs hQ V => ?_)
        obtain ⟨rfl, rfl⟩ := hQ
        have V : gW D T A s [(a0, .inr (5, [.int (nI 0), .int (nI (mm + 1)), .int (nI 0), .int (nI 20), .int (nI 0), .ref a1, .ref a2, .ref a3, .ref a4, .ref a5, .ref a6, .ref a7, .ref a8, .ref a9, .ref a10]))] H locs := V
        show W p l e _ s m args below meth c H locs _ _ _ (F0 m 22 ls [.int (nI 0), .int (nI 0)])
        refine lv_iadd hx hb dX5_passAllByCustom_22 ?_
        refine g_vi (y := (nI 0)) (by decide +kernel) ?_
        refine lv_istore (lv' := [(5, .int (nI 0)), (6, .int (nI k)), (0, .ref a0), (1, .int (nI n)), (2, .int idle), (3, .int fire), (4, .int bl)]) hx hb dX5_passAllByCustom_23 hl (by decide) rfl (fun ls hl => ?_)
        refine lv_iinc (v := (nI (k + 1))) (lv' := [(6, .int (nI (k + 1))), (5, .int (nI 0)), (0, .ref a0), (1, .int (nI n)), (2, .int idle), (3, .int fire), (4, .int bl)]) hx hb dX5_passAllByCustom_25 hl (k := 1) rfl (nI_1 _) (by decide) rfl (fun ls hl => ?_)
        refine lv_goto (tgt := 6) hx hb dX5_passAllByCustom_28 (by decide) ?_
        exact ih (k + 1) (mm + 1) (by omega) (by omega) _ _ _ V (lv_sub hl [0, 1, 2, 3, 4, 5, 6] rfl)
  exact L_1 _ 0 am (Nat.zero_le _) (Nat.lt_succ_self _) _ _ _ V (lv_sub hl [0, 1, 2, 3, 4, 5, 6] rfl)

def q_piecesDone (T : Nat → ClassId) (a0 : Nat) (am : Nat) (a1 : Nat) (a2 : Nat) (a3 : Nat) (a4 : Nat) (a5 : Nat) (a6 : Nat) (a7 : Nat) (a8 : Nat) (a9 : Nat) (a10 : Nat) : Option Value → va_W → Prop := fun rr ww => (rr = some (.int (nI 0)) ∧ ww = [(a0, .inr (5, [.int (nI 0), .int (nI am), .int (nI 0), .int (nI 20), .int (nI 0), .ref a1, .ref a2, .ref a3, .ref a4, .ref a5, .ref a6, .ref a7, .ref a8, .ref a9, .ref a10]))])
set_option maxHeartbeats 4000000 in
set_option maxRecDepth 100000 in
theorem c_piecesDone (l : Launch) (D : va_G) (T : Nat → ClassId) (a0 : Nat) (am : Nat) (a1 : Nat) (a2 : Nat) (a3 : Nat) (a4 : Nat) (a5 : Nat) (a6 : Nat) (a7 : Nat) (a8 : Nat) (a9 : Nat) (a10 : Nat) : Ct l yX5_piecesDone cX5_piecesDone 3 (some .int) 0 0 0 D T [.ref a0] [(a0, .inr (5, [.int (nI 0), .int (nI am), .int (nI 0), .int (nI 20), .int (nI 0), .ref a1, .ref a2, .ref a3, .ref a4, .ref a5, .ref a6, .ref a7, .ref a8, .ref a9, .ref a10]))] (q_piecesDone T a0 am a1 a2 a3 a4 a5 a6 a7 a8 a9 a10) := by
  refine Ct.of (cc := cX5_piecesDone) (maxL := 3) (ret := (some .int)) (by decide) (Nat.le_of_ble_eq_true rfl) ?_
  intro p e s m args below meth c A ls hC hnm V hl
  obtain ⟨hx, hb, hr, hml, hown, hts, hlocks⟩ := id hC
  generalize hH : s.heap = H at V ⊢
  clear hH
  have hl : lv_has ls 3 [(0, .ref a0)] := hl
  generalize hlo : ([] : List Loc) = locs at V ⊢
  clear hlo
  refine lv_iconst (v := (nI 0)) hx hb dX5_piecesDone_0 (by decide +kernel) ?_
  refine lv_istore_n (lv' := [(1, .int (nI 0)), (0, .ref a0)]) hx hb dX5_piecesDone_1 rfl hl (by decide) rfl (fun ls hl => ?_)
  refine lv_iconst (v := (nI 0)) hx hb dX5_piecesDone_2 (by decide +kernel) ?_
  refine lv_istore_n (lv' := [(2, .int (nI 0)), (1, .int (nI 0)), (0, .ref a0)]) hx hb dX5_piecesDone_3 rfl hl (by decide) rfl (fun ls hl => ?_)
  refine lv_iload_n hx hb dX5_piecesDone_4 rfl (lv_at hl 0 rfl) ?_
  refine lv_aload_n hx hb dX5_piecesDone_5 rfl (lv_at hl 2 rfl) ?_
  refine g_get hC V (ci := 5) uwX5 0 rfl rfl 0 (by decide) w_33 rfl rfl dX5_piecesDone_6 ?_
  refine lv_icmp_ge (tgt := 34) hx hb dX5_piecesDone_9 (by decide) (fun _ => ?_) (fun c => absurd (show (nI 0) ≤ (nI 0) by first | rfl | decide +kernel) c)
  refine lv_iload_n hx hb dX5_piecesDone_34 rfl (lv_at hl 1 rfl) ?_
  exact g_iret (Qr := (q_piecesDone T a0 am a1 a2 a3 a4 a5 a6 a7 a8 a9 a10)) hC V ⟨(Nat.le_of_ble_eq_true rfl), (Nat.le_of_ble_eq_true rfl)⟩ ⟨rfl, rfl⟩ dX5_piecesDone_35

def q_heatTogether (T : Nat → ClassId) (a0 : Nat) (am : Nat) (a1 : Nat) (a2 : Nat) (a3 : Nat) (a4 : Nat) (a5 : Nat) (a6 : Nat) (a7 : Nat) (a8 : Nat) (a9 : Nat) (a10 : Nat) : Option Value → va_W → Prop := fun rr ww => (rr = some (.int (nI 0)) ∧ ww = [(a0, .inr (5, [.int (nI 0), .int (nI am), .int (nI 0), .int (nI 20), .int (nI 0), .ref a1, .ref a2, .ref a3, .ref a4, .ref a5, .ref a6, .ref a7, .ref a8, .ref a9, .ref a10]))])
set_option maxHeartbeats 4000000 in
set_option maxRecDepth 100000 in
theorem c_heatTogether (l : Launch) (D : va_G) (T : Nat → ClassId) (a0 : Nat) (am : Nat) (a1 : Nat) (a2 : Nat) (a3 : Nat) (a4 : Nat) (a5 : Nat) (a6 : Nat) (a7 : Nat) (a8 : Nat) (a9 : Nat) (a10 : Nat) : Ct l yX5_heatTogether cX5_heatTogether 3 (some .int) 0 0 0 D T [.ref a0] [(a0, .inr (5, [.int (nI 0), .int (nI am), .int (nI 0), .int (nI 20), .int (nI 0), .ref a1, .ref a2, .ref a3, .ref a4, .ref a5, .ref a6, .ref a7, .ref a8, .ref a9, .ref a10]))] (q_heatTogether T a0 am a1 a2 a3 a4 a5 a6 a7 a8 a9 a10) := by
  refine Ct.of (cc := cX5_heatTogether) (maxL := 3) (ret := (some .int)) (by decide) (Nat.le_of_ble_eq_true rfl) ?_
  intro p e s m args below meth c A ls hC hnm V hl
  obtain ⟨hx, hb, hr, hml, hown, hts, hlocks⟩ := id hC
  generalize hH : s.heap = H at V ⊢
  clear hH
  have hl : lv_has ls 3 [(0, .ref a0)] := hl
  generalize hlo : ([] : List Loc) = locs at V ⊢
  clear hlo
  refine lv_iconst (v := (nI 0)) hx hb dX5_heatTogether_0 (by decide +kernel) ?_
  refine lv_istore_n (lv' := [(1, .int (nI 0)), (0, .ref a0)]) hx hb dX5_heatTogether_1 rfl hl (by decide) rfl (fun ls hl => ?_)
  refine lv_iconst (v := (nI 0)) hx hb dX5_heatTogether_2 (by decide +kernel) ?_
  refine lv_istore_n (lv' := [(2, .int (nI 0)), (1, .int (nI 0)), (0, .ref a0)]) hx hb dX5_heatTogether_3 rfl hl (by decide) rfl (fun ls hl => ?_)
  refine lv_iload_n hx hb dX5_heatTogether_4 rfl (lv_at hl 0 rfl) ?_
  refine lv_aload_n hx hb dX5_heatTogether_5 rfl (lv_at hl 2 rfl) ?_
  refine g_get hC V (ci := 5) uwX5 0 rfl rfl 0 (by decide) w_33 rfl rfl dX5_heatTogether_6 ?_
  refine lv_icmp_ge (tgt := 27) hx hb dX5_heatTogether_9 (by decide) (fun _ => ?_) (fun c => absurd (show (nI 0) ≤ (nI 0) by first | rfl | decide +kernel) c)
  refine lv_iload_n hx hb dX5_heatTogether_27 rfl (lv_at hl 1 rfl) ?_
  exact g_iret (Qr := (q_heatTogether T a0 am a1 a2 a3 a4 a5 a6 a7 a8 a9 a10)) hC V ⟨(Nat.le_of_ble_eq_true rfl), (Nat.le_of_ble_eq_true rfl)⟩ ⟨rfl, rfl⟩ dX5_heatTogether_28

def q_workable (T : Nat → ClassId) (a0 : Nat) (am : Nat) (a1 : Nat) (a2 : Nat) (a3 : Nat) (a4 : Nat) (a5 : Nat) (a6 : Nat) (a7 : Nat) (a8 : Nat) (a9 : Nat) (a10 : Nat) : Option Value → va_W → Prop := fun rr ww => (rr = some (.int (nI 0)) ∧ ww = [(a0, .inr (5, [.int (nI 0), .int (nI am), .int (nI 0), .int (nI 20), .int (nI 0), .ref a1, .ref a2, .ref a3, .ref a4, .ref a5, .ref a6, .ref a7, .ref a8, .ref a9, .ref a10]))])
set_option maxHeartbeats 4000000 in
set_option maxRecDepth 100000 in
theorem c_workable (l : Launch) (D : va_G) (T : Nat → ClassId) (a0 : Nat) (am : Nat) (a1 : Nat) (a2 : Nat) (a3 : Nat) (a4 : Nat) (a5 : Nat) (a6 : Nat) (a7 : Nat) (a8 : Nat) (a9 : Nat) (a10 : Nat) : Ct l yX5_workable cX5_workable 3 (some .int) 0 0 0 D T [.ref a0] [(a0, .inr (5, [.int (nI 0), .int (nI am), .int (nI 0), .int (nI 20), .int (nI 0), .ref a1, .ref a2, .ref a3, .ref a4, .ref a5, .ref a6, .ref a7, .ref a8, .ref a9, .ref a10]))] (q_workable T a0 am a1 a2 a3 a4 a5 a6 a7 a8 a9 a10) := by
  refine Ct.of (cc := cX5_workable) (maxL := 3) (ret := (some .int)) (by decide) (Nat.le_of_ble_eq_true rfl) ?_
  intro p e s m args below meth c A ls hC hnm V hl
  obtain ⟨hx, hb, hr, hml, hown, hts, hlocks⟩ := id hC
  generalize hH : s.heap = H at V ⊢
  clear hH
  have hl : lv_has ls 3 [(0, .ref a0)] := hl
  generalize hlo : ([] : List Loc) = locs at V ⊢
  clear hlo
  refine lv_iconst (v := (nI 0)) hx hb dX5_workable_0 (by decide +kernel) ?_
  refine lv_istore_n (lv' := [(1, .int (nI 0)), (0, .ref a0)]) hx hb dX5_workable_1 rfl hl (by decide) rfl (fun ls hl => ?_)
  refine lv_iconst (v := (nI 0)) hx hb dX5_workable_2 (by decide +kernel) ?_
  refine lv_istore_n (lv' := [(2, .int (nI 0)), (1, .int (nI 0)), (0, .ref a0)]) hx hb dX5_workable_3 rfl hl (by decide) rfl (fun ls hl => ?_)
  refine lv_iload_n hx hb dX5_workable_4 rfl (lv_at hl 0 rfl) ?_
  refine lv_aload_n hx hb dX5_workable_5 rfl (lv_at hl 2 rfl) ?_
  refine g_get hC V (ci := 5) uwX5 0 rfl rfl 0 (by decide) w_33 rfl rfl dX5_workable_6 ?_
  refine lv_icmp_ge (tgt := 42) hx hb dX5_workable_9 (by decide) (fun _ => ?_) (fun c => absurd (show (nI 0) ≤ (nI 0) by first | rfl | decide +kernel) c)
  refine lv_iload_n hx hb dX5_workable_42 rfl (lv_at hl 1 rfl) ?_
  exact g_iret (Qr := (q_workable T a0 am a1 a2 a3 a4 a5 a6 a7 a8 a9 a10)) hC V ⟨(Nat.le_of_ble_eq_true rfl), (Nat.le_of_ble_eq_true rfl)⟩ ⟨rfl, rfl⟩ dX5_workable_43

def q_isSelfish (T : Nat → ClassId) (a0 : Nat) (v : Int32) (am : Nat) (a1 : Nat) (a2 : Nat) (a3 : Nat) (a4 : Nat) (a5 : Nat) (a6 : Nat) (a7 : Nat) (a8 : Nat) (a9 : Nat) (a10 : Nat) : Option Value → va_W → Prop := fun rr ww => (rr = some (.int (nI 1)) ∧ ww = [(a0, .inr (5, [.int (nI 0), .int (nI am), .int (nI 0), .int (nI 20), .int (nI 0), .ref a1, .ref a2, .ref a3, .ref a4, .ref a5, .ref a6, .ref a7, .ref a8, .ref a9, .ref a10]))])
set_option maxHeartbeats 4000000 in
set_option maxRecDepth 100000 in
theorem c_isSelfish (l : Launch) (D : va_G) (T : Nat → ClassId) (a0 : Nat) (v : Int32) (am : Nat) (a1 : Nat) (a2 : Nat) (a3 : Nat) (a4 : Nat) (a5 : Nat) (a6 : Nat) (a7 : Nat) (a8 : Nat) (a9 : Nat) (a10 : Nat) : Ct l yX5_isSelfish cX5_isSelfish 3 (some .boolean) 0 0 0 D T [.ref a0, .int v] [(a0, .inr (5, [.int (nI 0), .int (nI am), .int (nI 0), .int (nI 20), .int (nI 0), .ref a1, .ref a2, .ref a3, .ref a4, .ref a5, .ref a6, .ref a7, .ref a8, .ref a9, .ref a10]))] (q_isSelfish T a0 v am a1 a2 a3 a4 a5 a6 a7 a8 a9 a10) := by
  refine Ct.of (cc := cX5_isSelfish) (maxL := 3) (ret := (some .boolean)) (by decide) (Nat.le_of_ble_eq_true rfl) ?_
  intro p e s m args below meth c A ls hC hnm V hl
  obtain ⟨hx, hb, hr, hml, hown, hts, hlocks⟩ := id hC
  generalize hH : s.heap = H at V ⊢
  clear hH
  have hl : lv_has ls 3 [(0, .ref a0), (1, .int v)] := hl
  generalize hlo : ([] : List Loc) = locs at V ⊢
  clear hlo
  refine lv_iconst (v := (nI 0)) hx hb dX5_isSelfish_0 (by decide +kernel) ?_
  refine lv_istore_n (lv' := [(2, .int (nI 0)), (0, .ref a0), (1, .int v)]) hx hb dX5_isSelfish_1 rfl hl (by decide) rfl (fun ls hl => ?_)
  refine lv_iload_n hx hb dX5_isSelfish_2 rfl (lv_at hl 0 rfl) ?_
  refine lv_aload_n hx hb dX5_isSelfish_3 rfl (lv_at hl 1 rfl) ?_
  refine g_get hC V (ci := 5) uwX5 0 rfl rfl 0 (by decide) w_33 rfl rfl dX5_isSelfish_4 ?_
  refine lv_icmp_ge (tgt := 37) hx hb dX5_isSelfish_7 (by decide) (fun _ => ?_) (fun c => absurd (show (nI 0) ≤ (nI 0) by first | rfl | decide +kernel) c)
  refine lv_iconst (v := (nI 1)) hx hb dX5_isSelfish_37 (by decide +kernel) ?_
  exact g_zret (Qr := (q_isSelfish T a0 v am a1 a2 a3 a4 a5 a6 a7 a8 a9 a10)) hC V ⟨(Nat.le_of_ble_eq_true rfl), (Nat.le_of_ble_eq_true rfl)⟩ (by first | decide +kernel | exact rfl) ⟨rfl, rfl⟩ dX5_isSelfish_38

def q_bitCount0 (T : Nat → ClassId)  : Option Value → va_W → Prop := fun rr ww => (rr = some (.int (nI 0)) ∧ ww = [])
set_option maxHeartbeats 4000000 in
set_option maxRecDepth 100000 in
theorem c_bitCount0 (l : Launch) (D : va_G) (T : Nat → ClassId)  : Ct l yJ6_bitCount_0f7a4 cJ6_bitCount_0f7a4 1 (some .int) 0 0 0 D T [.int (nI 0)] [] (q_bitCount0 T) := by
  refine Ct.of (cc := cJ6_bitCount_0f7a4) (maxL := 1) (ret := (some .int)) (by decide) (Nat.le_of_ble_eq_true rfl) ?_
  intro p e s m args below meth c A ls hC hnm V hl
  obtain ⟨hx, hb, hr, hml, hown, hts, hlocks⟩ := id hC
  generalize hH : s.heap = H at V ⊢
  clear hH
  have hl : lv_has ls 1 [(0, .int (nI 0))] := hl
  generalize hlo : ([] : List Loc) = locs at V ⊢
  clear hlo
  refine lv_iload_n hx hb dJ6_bitCount_0f7a4_0 rfl (lv_at hl 0 rfl) ?_
  refine lv_iload_n hx hb dJ6_bitCount_0f7a4_1 rfl (lv_at hl 0 rfl) ?_
  refine lv_iconst (v := (nI 1)) hx hb dJ6_bitCount_0f7a4_2 (by decide +kernel) ?_
  refine lv_iushr (v := (nI 0)) hx hb dJ6_bitCount_0f7a4_3 (by decide +kernel) ?_
  refine lv_ldcw (v := (1431655765)) hx hb hown (hts _ w_663) dJ6_bitCount_0f7a4_4 ?_
  refine g_vi (y := (nI 1431655765)) (by decide +kernel) ?_
  refine lv_iand hx hb dJ6_bitCount_0f7a4_7 ?_
  refine g_vi (y := (nI 0)) (by decide +kernel) ?_
  refine lv_isub hx hb dJ6_bitCount_0f7a4_8 ?_
  refine g_vi (y := (nI 0)) (by decide +kernel) ?_
  refine lv_istore_n (lv' := [(0, .int (nI 0))]) hx hb dJ6_bitCount_0f7a4_9 rfl hl (by decide) rfl (fun ls hl => ?_)
  refine lv_iload_n hx hb dJ6_bitCount_0f7a4_10 rfl (lv_at hl 0 rfl) ?_
  refine lv_ldcw (v := (858993459)) hx hb hown (hts _ w_664) dJ6_bitCount_0f7a4_11 ?_
  refine g_vi (y := (nI 858993459)) (by decide +kernel) ?_
  refine lv_iand hx hb dJ6_bitCount_0f7a4_14 ?_
  refine g_vi (y := (nI 0)) (by decide +kernel) ?_
  refine lv_iload_n hx hb dJ6_bitCount_0f7a4_15 rfl (lv_at hl 0 rfl) ?_
  refine lv_iconst (v := (nI 2)) hx hb dJ6_bitCount_0f7a4_16 (by decide +kernel) ?_
  refine lv_iushr (v := (nI 0)) hx hb dJ6_bitCount_0f7a4_17 (by decide +kernel) ?_
  refine lv_ldcw (v := (858993459)) hx hb hown (hts _ w_664) dJ6_bitCount_0f7a4_18 ?_
  refine g_vi (y := (nI 858993459)) (by decide +kernel) ?_
  refine lv_iand hx hb dJ6_bitCount_0f7a4_21 ?_
  refine g_vi (y := (nI 0)) (by decide +kernel) ?_
  refine lv_iadd hx hb dJ6_bitCount_0f7a4_22 ?_
  refine g_vi (y := (nI 0)) (by decide +kernel) ?_
  refine lv_istore_n (lv' := [(0, .int (nI 0))]) hx hb dJ6_bitCount_0f7a4_23 rfl hl (by decide) rfl (fun ls hl => ?_)
  refine lv_iload_n hx hb dJ6_bitCount_0f7a4_24 rfl (lv_at hl 0 rfl) ?_
  refine lv_iload_n hx hb dJ6_bitCount_0f7a4_25 rfl (lv_at hl 0 rfl) ?_
  refine lv_iconst (v := (nI 4)) hx hb dJ6_bitCount_0f7a4_26 (by decide +kernel) ?_
  refine lv_iushr (v := (nI 0)) hx hb dJ6_bitCount_0f7a4_27 (by decide +kernel) ?_
  refine lv_iadd hx hb dJ6_bitCount_0f7a4_28 ?_
  refine g_vi (y := (nI 0)) (by decide +kernel) ?_
  refine lv_ldcw (v := (252645135)) hx hb hown (hts _ w_665) dJ6_bitCount_0f7a4_29 ?_
  refine g_vi (y := (nI 252645135)) (by decide +kernel) ?_
  refine lv_iand hx hb dJ6_bitCount_0f7a4_32 ?_
  refine g_vi (y := (nI 0)) (by decide +kernel) ?_
  refine lv_istore_n (lv' := [(0, .int (nI 0))]) hx hb dJ6_bitCount_0f7a4_33 rfl hl (by decide) rfl (fun ls hl => ?_)
  refine lv_iload_n hx hb dJ6_bitCount_0f7a4_34 rfl (lv_at hl 0 rfl) ?_
  refine lv_iload_n hx hb dJ6_bitCount_0f7a4_35 rfl (lv_at hl 0 rfl) ?_
  refine lv_bipush (v := (nI 8)) hx hb dJ6_bitCount_0f7a4_36 (by decide +kernel) ?_
  refine lv_iushr (v := (nI 0)) hx hb dJ6_bitCount_0f7a4_38 (by decide +kernel) ?_
  refine lv_iadd hx hb dJ6_bitCount_0f7a4_39 ?_
  refine g_vi (y := (nI 0)) (by decide +kernel) ?_
  refine lv_istore_n (lv' := [(0, .int (nI 0))]) hx hb dJ6_bitCount_0f7a4_40 rfl hl (by decide) rfl (fun ls hl => ?_)
  refine lv_iload_n hx hb dJ6_bitCount_0f7a4_41 rfl (lv_at hl 0 rfl) ?_
  refine lv_iload_n hx hb dJ6_bitCount_0f7a4_42 rfl (lv_at hl 0 rfl) ?_
  refine lv_bipush (v := (nI 16)) hx hb dJ6_bitCount_0f7a4_43 (by decide +kernel) ?_
  refine lv_iushr (v := (nI 0)) hx hb dJ6_bitCount_0f7a4_45 (by decide +kernel) ?_
  refine lv_iadd hx hb dJ6_bitCount_0f7a4_46 ?_
  refine g_vi (y := (nI 0)) (by decide +kernel) ?_
  refine lv_istore_n (lv' := [(0, .int (nI 0))]) hx hb dJ6_bitCount_0f7a4_47 rfl hl (by decide) rfl (fun ls hl => ?_)
  refine lv_iload_n hx hb dJ6_bitCount_0f7a4_48 rfl (lv_at hl 0 rfl) ?_
  refine lv_bipush (v := (nI 63)) hx hb dJ6_bitCount_0f7a4_49 (by decide +kernel) ?_
  refine lv_iand hx hb dJ6_bitCount_0f7a4_51 ?_
  refine g_vi (y := (nI 0)) (by decide +kernel) ?_
  exact g_iret (Qr := (q_bitCount0 T)) hC V ⟨(Nat.le_of_ble_eq_true rfl), (Nat.le_of_ble_eq_true rfl)⟩ ⟨rfl, rfl⟩ dJ6_bitCount_0f7a4_52

def q_payTogether (T : Nat → ClassId) (a0 : Nat) (am : Nat) (a1 : Nat) (a2 : Nat) (a3 : Nat) (a4 : Nat) (a5 : Nat) (a6 : Nat) (a7 : Nat) (a8 : Nat) (a9 : Nat) (a10 : Nat) : Option Value → va_W → Prop := fun rr ww => (rr = some (.int (nI 0)) ∧ ww = [(a0, .inr (5, [.int (nI 0), .int (nI am), .int (nI 0), .int (nI 20), .int (nI 0), .ref a1, .ref a2, .ref a3, .ref a4, .ref a5, .ref a6, .ref a7, .ref a8, .ref a9, .ref a10]))])
set_option maxHeartbeats 4000000 in
set_option maxRecDepth 100000 in
theorem c_payTogether (l : Launch) (D : va_G) (T : Nat → ClassId) (a0 : Nat) (am : Nat) (a1 : Nat) (a2 : Nat) (a3 : Nat) (a4 : Nat) (a5 : Nat) (a6 : Nat) (a7 : Nat) (a8 : Nat) (a9 : Nat) (a10 : Nat) : Ct l yX5_payTogether cX5_payTogether 4 (some .int) 1 0 0 D T [.ref a0, .int (nI 0)] [(a0, .inr (5, [.int (nI 0), .int (nI am), .int (nI 0), .int (nI 20), .int (nI 0), .ref a1, .ref a2, .ref a3, .ref a4, .ref a5, .ref a6, .ref a7, .ref a8, .ref a9, .ref a10]))] (q_payTogether T a0 am a1 a2 a3 a4 a5 a6 a7 a8 a9 a10) := by
  refine Ct.of (cc := cX5_payTogether) (maxL := 4) (ret := (some .int)) (by decide) (Nat.le_of_ble_eq_true rfl) ?_
  intro p e s m args below meth c A ls hC hnm V hl
  obtain ⟨hx, hb, hr, hml, hown, hts, hlocks⟩ := id hC
  generalize hH : s.heap = H at V ⊢
  clear hH
  have hl : lv_has ls 4 [(0, .ref a0), (1, .int (nI 0))] := hl
  generalize hlo : ([] : List Loc) = locs at V ⊢
  clear hlo
  refine lv_aload_n hx hb dX5_payTogether_0 rfl (lv_at hl 0 rfl) ?_
  refine lv_iload_n hx hb dX5_payTogether_1 rfl (lv_at hl 1 rfl) ?_
  refine g_callV (wr := []) (nA := 1) hC V hl.1 (c_weigh l D T a0 (nI 0) am a1 a2 a3 a4 a5 a6 a7 a8 a9 a10) w_482 w_484 w_s9 w_3 w_485 (by decide +kernel) rfl ⟨(Nat.le_of_ble_eq_true rfl), (Nat.le_of_ble_eq_true rfl)⟩ 0 (ci := 5) rfl rfl [0] [] rfl rfl rfl rfl (by decide) (Nat.le_of_ble_eq_true rfl) dX5_payTogether_2 ⟨(Nat.le_of_ble_eq_true rfl), (Nat.le_of_ble_eq_true rfl)⟩ rfl (fun r w1 H locs hQ V => ?_)
  obtain ⟨rfl, rfl⟩ := hQ
  have V : gW D T A s [(a0, .inr (5, [.int (nI 0), .int (nI am), .int (nI 0), .int (nI 20), .int (nI 0), .ref a1, .ref a2, .ref a3, .ref a4, .ref a5, .ref a6, .ref a7, .ref a8, .ref a9, .ref a10]))] H locs := V
  show W p l e _ s m args below meth c H locs _ _ _ (F0 m 5 ls [])
  refine lv_iload_n hx hb dX5_payTogether_5 rfl (lv_at hl 1 rfl) ?_
  refine g_callS (wr := [(a0, .inr (5, [.int (nI 0), .int (nI am), .int (nI 0), .int (nI 20), .int (nI 0), .ref a1, .ref a2, .ref a3, .ref a4, .ref a5, .ref a6, .ref a7, .ref a8, .ref a9, .ref a10]))]) (nA := 1) hC V hl.1 (c_bitCount0 l D T) w_681 w_661 w_16 w_662 (by decide +kernel) rfl ⟨(Nat.le_of_ble_eq_true rfl), (Nat.le_of_ble_eq_true rfl)⟩ [] [0] rfl rfl rfl rfl (by decide) (Nat.le_of_ble_eq_true rfl) dX5_payTogether_6 ⟨(Nat.le_of_ble_eq_true rfl), (Nat.le_of_ble_eq_true rfl)⟩ rfl (fun r w1 H locs hQ V => ?_)
  obtain ⟨rfl, rfl⟩ := hQ
  have V : gW D T A s [(a0, .inr (5, [.int (nI 0), .int (nI am), .int (nI 0), .int (nI 20), .int (nI 0), .ref a1, .ref a2, .ref a3, .ref a4, .ref a5, .ref a6, .ref a7, .ref a8, .ref a9, .ref a10]))] H locs := V
  show W p l e _ s m args below meth c H locs _ _ _ (F0 m 9 ls [.int (nI 0)])
  refine lv_ineg hx hb dX5_payTogether_9 ?_
  refine g_vi (y := (nI 0)) (by decide +kernel) ?_
  refine lv_istore_n (lv' := [(2, .int (nI 0)), (0, .ref a0), (1, .int (nI 0))]) hx hb dX5_payTogether_10 rfl hl (by decide) rfl (fun ls hl => ?_)
  refine lv_iconst (v := (nI 0)) hx hb dX5_payTogether_11 (by decide +kernel) ?_
  refine lv_istore_n (lv' := [(3, .int (nI 0)), (2, .int (nI 0)), (0, .ref a0), (1, .int (nI 0))]) hx hb dX5_payTogether_12 rfl hl (by decide) rfl (fun ls hl => ?_)
  refine lv_iload_n hx hb dX5_payTogether_13 rfl (lv_at hl 0 rfl) ?_
  refine lv_aload_n hx hb dX5_payTogether_14 rfl (lv_at hl 2 rfl) ?_
  refine g_get hC V (ci := 5) uwX5 0 rfl rfl 0 (by decide) w_33 rfl rfl dX5_payTogether_15 ?_
  refine lv_icmp_ge (tgt := 59) hx hb dX5_payTogether_18 (by decide) (fun _ => ?_) (fun c => absurd (show (nI 0) ≤ (nI 0) by first | rfl | decide +kernel) c)
  refine lv_iload_n hx hb dX5_payTogether_59 rfl (lv_at hl 1 rfl) ?_
  exact g_iret (Qr := (q_payTogether T a0 am a1 a2 a3 a4 a5 a6 a7 a8 a9 a10)) hC V ⟨(Nat.le_of_ble_eq_true rfl), (Nat.le_of_ble_eq_true rfl)⟩ ⟨rfl, rfl⟩ dX5_payTogether_60
