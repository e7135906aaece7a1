def q_h_everyTime (T : Nat → ClassId) (h0 : Nat) (h1 : Nat) (qx : Int32) (qy : Int32) (ql : Nat) (h2 : Nat) (h3 : Nat) : Option Value → va_W → Prop := fun rr ww => (∃ (z : Int32), rr = some (.int z) ∧ ww = [(h0, .inr (3, [.ref h1, .int qx, .int qy, .int (nI ql), .ref h2, .ref h3]))])
set_option maxHeartbeats 4000000 in
set_option maxRecDepth 100000 in
theorem h_everyTime (l : Launch) (D : va_G) (T : Nat → ClassId) (h0 : Nat) (h1 : Nat) (qx : Int32) (qy : Int32) (ql : Nat) (h2 : Nat) (h3 : Nat) : Ct l yX3_everyTime cX3_everyTime 1 (some .int) 0 0 0 D T [.ref h0] [(h0, .inr (3, [.ref h1, .int qx, .int qy, .int (nI ql), .ref h2, .ref h3]))] (q_h_everyTime T h0 h1 qx qy ql h2 h3) := by
  refine Ct.of (cc := cX3_everyTime) (maxL := 1) (ret := (some .int)) (by decide) (Nat.le_of_ble_eq_true rfl) ?_
  intro p e s m args below meth c A ls hC hnm V hl
  obtain ⟨hx, hb, hr, hml, hown, hts, hlocks⟩ := id hC
  generalize hH : s.heap = H at V ⊢
  clear hH
  have hl : lv_has ls 1 [(0, .ref h0)] := hl
  generalize hlo : ([] : List Loc) = locs at V ⊢
  clear hlo
  refine lv_iconst (v := (nI 1)) hx hb dX3_everyTime_0 (by decide +kernel) ?_
  refine lv_aload_n hx hb dX3_everyTime_1 rfl (lv_at hl 0 rfl) ?_
  refine g_get hC V (ci := 3) uwX3 0 rfl rfl 3 (by decide) w_189 rfl rfl dX3_everyTime_2 ?_
  refine lv_ishl hx hb dX3_everyTime_5 ?_
  refine lv_iconst (v := (nI 1)) hx hb dX3_everyTime_6 (by decide +kernel) ?_
  refine lv_isub hx hb dX3_everyTime_7 ?_
  exact g_iret (Qr := (q_h_everyTime T h0 h1 qx qy ql h2 h3)) hC V ⟨(Nat.le_of_ble_eq_true rfl), (Nat.le_of_ble_eq_true rfl)⟩ ⟨(((nI 1) <<< ((nI ql) &&& 31)) - (nI 1)), rfl, rfl⟩ dX3_everyTime_8

def q_h_takeRow (T : Nat → ClassId) (h0 : Nat) (r0 : Nat) (le : Nat) (h1 : Nat) (qx : Int32) (qy : Int32) (ql : Int32) (h2 : Nat) (h3 : Nat) (qp : Nat → Int32) (rh : Int32) (rz : Nat) (r1 : Nat) (rs : Nat) (rf : Nat → Int64) : Option Value → va_W → Prop := fun rr ww => (∃ (g : Nat → Int32), rr = none ∧ ww = [(h0, .inr (3, [.ref h1, .int qx, .int qy, .int (nI le), .ref h2, .ref h3])), (h2, .inl (T 0, 10, .inl g)), (r0, .inr (1, [.int rh, .int (nI rz), .ref r1, .int (nI rs)])), (r1, .inl (T 1, 40, .inr (.inl rf)))])
set_option maxHeartbeats 4000000 in
set_option maxRecDepth 100000 in
theorem h_takeRow (l : Launch) (D : va_G) (T : Nat → ClassId) (h0 : Nat) (r0 : Nat) (le : Nat) (h1 : Nat) (qx : Int32) (qy : Int32) (ql : Int32) (h2 : Nat) (h3 : Nat) (qp : Nat → Int32) (rh : Int32) (rz : Nat) (r1 : Nat) (rs : Nat) (rf : Nat → Int64) : Ct l yX3_takeRow cX3_takeRow 4 none 1 0 0 D T [.ref h0, .ref r0, .int (nI le)] [(h0, .inr (3, [.ref h1, .int qx, .int qy, .int ql, .ref h2, .ref h3])), (h2, .inl (T 0, 10, .inl qp)), (r0, .inr (1, [.int rh, .int (nI rz), .ref r1, .int (nI rs)])), (r1, .inl (T 1, 40, .inr (.inl rf)))] (q_h_takeRow T h0 r0 le h1 qx qy ql h2 h3 qp rh rz r1 rs rf) := by
  refine Ct.of (cc := cX3_takeRow) (maxL := 4) (ret := none) (by decide) (Nat.le_of_ble_eq_true rfl) ?_
  intro p e s m args below meth c A ls hC hnm V hl
  obtain ⟨hx, hb, hr, hml, hown, hts, hlocks⟩ := id hC
  generalize hH : s.heap = H at V ⊢
  clear hH
  have hl : lv_has ls 4 [(0, .ref h0), (1, .ref r0), (2, .int (nI le))] := hl
  generalize hlo : ([] : List Loc) = locs at V ⊢
  clear hlo
  refine lv_aload_n hx hb dX3_takeRow_0 rfl (lv_at hl 0 rfl) ?_
  refine lv_iload_n hx hb dX3_takeRow_1 rfl (lv_at hl 2 rfl) ?_
  refine g_put hC V (ci := 3) uwX3 tyX3 tyX3_ok nmX3 0 rfl rfl 3 (by decide) w_189 rfl rfl rfl rfl (Nat.le_of_ble_eq_true rfl) (ws' := [(h0, .inr (3, [.ref h1, .int qx, .int qy, .int (nI le), .ref h2, .ref h3])), (h2, .inl (T 0, 10, .inl qp)), (r0, .inr (1, [.int rh, .int (nI rz), .ref r1, .int (nI rs)])), (r1, .inl (T 1, 40, .inr (.inl rf)))]) rfl dX3_takeRow_2 (fun H locs V => ?_)
  refine lv_iconst (v := (nI 0)) hx hb dX3_takeRow_5 (by decide +kernel) ?_
  refine lv_istore_n (lv' := [(3, .int (nI 0)), (0, .ref h0), (1, .ref r0), (2, .int (nI le))]) hx hb dX3_takeRow_6 rfl hl (by decide) rfl (fun ls hl => ?_)
  have L_1 : ∀ (fu : Nat) (k7 : Nat) (g : Nat → Int32), k7 ≤ 10 → 10 - k7 < fu → ∀ (H : Heap) (locs : List Loc) (ls : Array Slot), gW D T A s [(h0, .inr (3, [.ref h1, .int qx, .int qy, .int (nI le), .ref h2, .ref h3])), (h2, .inl (T 0, 10, .inl g)), (r0, .inr (1, [.int rh, .int (nI rz), .ref r1, .int (nI rs)])), (r1, .inl (T 1, 40, .inr (.inl rf)))] H locs → lv_has ls 4 [(3, .int (nI k7)), (0, .ref h0), (1, .ref r0), (2, .int (nI le))] → W p l e (rmD 1 0 0) s m args below meth c H locs 0 0 (MQ below (gQ D A (q_h_takeRow T h0 r0 le h1 qx qy ql h2 h3 qp rh rz r1 rs rf)) args s 0 0 A) (F0 m 7 ls []) := by
    intro fu_7
    induction fu_7 with
    | zero => intro k7 g hk7 hmu; exact absurd hmu (Nat.not_lt_zero _)
    | succ fu_7 ih_7 =>
      intro k7 g hk7 hmu_7 H locs ls V hl
      refine lv_iload_n hx hb dX3_takeRow_7 rfl (lv_at hl 0 rfl) ?_
      refine lv_bipush (v := (nI 10)) hx hb dX3_takeRow_8 (by decide +kernel) ?_
      refine lv_icmp_ge (tgt := 37) hx hb dX3_takeRow_10 (by decide) (fun c_2 => ?_) (fun c_2 => ?_)
      · skip
        have c_2 := b_le (by omega) (by omega) c_2
        exact g_vret (Qr := (q_h_takeRow T h0 r0 le h1 qx qy ql h2 h3 qp rh rz r1 rs rf)) hC V ⟨(Nat.le_of_ble_eq_true rfl), (Nat.le_of_ble_eq_true rfl)⟩ ⟨g, rfl, rfl⟩ dX3_takeRow_37
      · skip
        have c_2 := b_nle (by omega) (by omega) c_2
        refine lv_aload_n hx hb dX3_takeRow_13 rfl (lv_at hl 1 rfl) ?_
        refine g_get hC V (ci := 3) uwX3 0 rfl rfl 4 (by decide) w_190 rfl rfl dX3_takeRow_14 ?_
        refine lv_iload_n hx hb dX3_takeRow_17 rfl (lv_at hl 0 rfl) ?_
        refine lv_aload_n hx hb dX3_takeRow_18 rfl (lv_at hl 2 rfl) ?_
        refine g_get hC V (ci := 1) uwX1 2 rfl rfl 2 (by decide) w_234 rfl rfl dX3_takeRow_19 ?_
        refine lv_iload_n hx hb dX3_takeRow_22 rfl (lv_at hl 0 rfl) ?_
        refine g_lald hC V 3 rfl (vp_in_nI (by omega) (by omega)) (v := (rf k7)) (congrArg _ (nI_clamp (by omega))) dX3_takeRow_23 ?_
        refine lv_l2i hx hb dX3_takeRow_24 rfl ?_
        refine lv_aload_n hx hb dX3_takeRow_25 rfl (lv_at hl 1 rfl) ?_
        refine g_callVU (nA := 0) hC V hl.1 (h_everyTime l D T h0 h1 qx qy le h2 h3) w_606 w_608 w_s17 w_6 w_609 (by decide +kernel) rfl ⟨(Nat.le_of_ble_eq_true rfl), (Nat.le_of_ble_eq_true rfl)⟩ 0 (ci := 3) rfl rfl [0] rfl rfl (Nat.le_of_ble_eq_true rfl) dX3_takeRow_26 ⟨(Nat.le_of_ble_eq_true rfl), (Nat.le_of_ble_eq_true rfl)⟩ rfl (fun r w1 H locs hQ V => ?_)
        obtain ⟨z_3, rfl, rfl⟩ := hQ
        have V : gW D T A s [(h0, .inr (3, [.ref h1, .int qx, .int qy, .int (nI le), .ref h2, .ref h3])), (h2, .inl (T 0, 10, .inl g)), (r0, .inr (1, [.int rh, .int (nI rz), .ref r1, .int (nI rs)])), (r1, .inl (T 1, 40, .inr (.inl rf)))] H locs := V _ [0] rfl rfl rfl (by decide +kernel) rfl
        show W p l e _ s m args below meth c H locs _ _ _ (F0 m 29 ls [.int z_3, .int ((rf k7).toInt32), .int (nI k7), .ref h2])
        refine lv_iand hx hb dX3_takeRow_29 ?_
        refine g_iast hC V 1 rfl (vp_in_nI (by omega) (by omega)) (f' := (upd g k7 (((rf k7).toInt32) &&& z_3))) (by rw [nI_clamp (by omega)]) (ws' := [(h0, .inr (3, [.ref h1, .int qx, .int qy, .int (nI le), .ref h2, .ref h3])), (h2, .inl (T 0, 10, .inl (upd g k7 (((rf k7).toInt32) &&& z_3)))), (r0, .inr (1, [.int rh, .int (nI rz), .ref r1, .int (nI rs)])), (r1, .inl (T 1, 40, .inr (.inl rf)))]) rfl dX3_takeRow_30 (fun H locs V => ?_)
        refine lv_iinc (v := (nI (k7 + 1))) (lv' := [(3, .int (nI (k7 + 1))), (0, .ref h0), (1, .ref r0), (2, .int (nI le))]) hx hb dX3_takeRow_31 hl (k := 0) rfl (nI_1 _) (by decide) rfl (fun ls hl => ?_)
        refine lv_goto (tgt := 7) hx hb dX3_takeRow_34 (by decide) ?_
        exact ih_7 (k7 + 1) (upd g k7 (((rf k7).toInt32) &&& z_3)) (by omega) (by omega) _ _ _ V (lv_sub hl [0, 1, 2, 3] rfl)
  exact L_1 _ 0 qp (by omega) (Nat.lt_succ_self _) _ _ _ V (lv_sub hl [0, 1, 2, 3] rfl)

def q_floorMod (T : Nat → ClassId) (x : Int32) (y : Int32) : Option Value → va_W → Prop := fun rr ww => (∃ (z : Int32), rr = some (.int z) ∧ ww = [])
set_option maxHeartbeats 4000000 in
set_option maxRecDepth 100000 in
theorem c_floorMod (l : Launch) (D : va_G) (T : Nat → ClassId) (x : Int32) (y : Int32) (h_y : ¬ y = 0) : Ct l yJ9_floorMod_7cf53 cJ9_floorMod_7cf53 3 (some .int) 0 0 0 D T [.int x, .int y] [] (q_floorMod T x y) := by
  refine Ct.ofF (cc := cJ9_floorMod_7cf53) (maxL := 3) (ret := (some .int)) (by decide +kernel) (Nat.le_of_ble_eq_true rfl) ?_
  intro p e s m args below meth c A ls hC hnm V hl
  obtain ⟨hx, hb, hr, hml, hown, hts, hlocks⟩ := id hC
  generalize hH : s.heap = H at V ⊢
  clear hH
  have hl : lv_has ls 3 [(0, .int x), (1, .int y)] := hl
  generalize hlo : ([] : List Loc) = locs at V ⊢
  clear hlo
  refine lv_iload_n hx hb dJ9_floorMod_7cf53_0 rfl (lv_at hl 0 rfl) ?_
  refine lv_iload_n hx hb dJ9_floorMod_7cf53_1 rfl (lv_at hl 1 rfl) ?_
  refine lv_irem hx hb dJ9_floorMod_7cf53_2 h_y ?_
  refine lv_istore_n (lv' := [(2, .int (x - x / y * y)), (0, .int x), (1, .int y)]) hx hb dJ9_floorMod_7cf53_3 rfl hl (by decide) rfl (fun ls hl => ?_)
  refine lv_iload_n hx hb dJ9_floorMod_7cf53_4 rfl (lv_at hl 1 rfl) ?_
  refine lv_iload_n hx hb dJ9_floorMod_7cf53_5 rfl (lv_at hl 2 rfl) ?_
  refine lv_ixor hx hb dJ9_floorMod_7cf53_6 ?_
  refine lv_if_ge (tgt := 18) hx hb dJ9_floorMod_7cf53_7 (by decide) (fun c_1 => ?_) (fun c_1 => ?_)
  · skip
    refine lv_iload_n hx hb dJ9_floorMod_7cf53_18 rfl (lv_at hl 0 rfl) ?_
    exact g_iret (Qr := (q_floorMod T x y)) hC V ⟨(Nat.le_of_ble_eq_true rfl), (Nat.le_of_ble_eq_true rfl)⟩ ⟨(x - x / y * y), rfl, rfl⟩ dJ9_floorMod_7cf53_19
  · skip
    refine lv_iload_n hx hb dJ9_floorMod_7cf53_10 rfl (lv_at hl 0 rfl) ?_
    refine lv_if_eq (tgt := 18) hx hb dJ9_floorMod_7cf53_11 (by decide) (fun c_2 => ?_) (fun c_2 => ?_)
    · skip
      refine lv_iload_n hx hb dJ9_floorMod_7cf53_18 rfl (lv_at hl 0 rfl) ?_
      exact g_iret (Qr := (q_floorMod T x y)) hC V ⟨(Nat.le_of_ble_eq_true rfl), (Nat.le_of_ble_eq_true rfl)⟩ ⟨(x - x / y * y), rfl, rfl⟩ dJ9_floorMod_7cf53_19
    · skip
      refine lv_iload_n hx hb dJ9_floorMod_7cf53_14 rfl (lv_at hl 0 rfl) ?_
      refine lv_iload_n hx hb dJ9_floorMod_7cf53_15 rfl (lv_at hl 2 rfl) ?_
      refine lv_iadd hx hb dJ9_floorMod_7cf53_16 ?_
      exact g_iret (Qr := (q_floorMod T x y)) hC V ⟨(Nat.le_of_ble_eq_true rfl), (Nat.le_of_ble_eq_true rfl)⟩ ⟨((x - x / y * y) + y), rfl, rfl⟩ dJ9_floorMod_7cf53_17

def q_h_takeWave (T : Nat → ClassId) (h0 : Nat) (le : Nat) (step : Int32) (h1 : Nat) (qx : Int32) (qy : Int32) (ql : Int32) (h2 : Nat) (h3 : Nat) (qp : Nat → Int32) : Option Value → va_W → Prop := fun rr ww => (∃ (g : Nat → Int32), rr = none ∧ ww = [(h0, .inr (3, [.ref h1, .int qx, .int qy, .int (nI le), .ref h2, .ref h3])), (h2, .inl (T 0, 10, .inl g))])
set_option maxHeartbeats 4000000 in
set_option maxRecDepth 100000 in
theorem h_takeWave (l : Launch) (D : va_G) (T : Nat → ClassId) (h0 : Nat) (le : Nat) (step : Int32) (h1 : Nat) (qx : Int32) (qy : Int32) (ql : Int32) (h2 : Nat) (h3 : Nat) (qp : Nat → Int32) (h_l : 1 ≤ le ∧ le ≤ 12) : Ct l yX3_takeWave cX3_takeWave 4 none 1 0 0 D T [.ref h0, .int (nI le), .int step] [(h0, .inr (3, [.ref h1, .int qx, .int qy, .int ql, .ref h2, .ref h3])), (h2, .inl (T 0, 10, .inl qp))] (q_h_takeWave T h0 le step h1 qx qy ql h2 h3 qp) := by
  refine Ct.of (cc := cX3_takeWave) (maxL := 4) (ret := none) (by decide) (Nat.le_of_ble_eq_true rfl) ?_
  intro p e s m args below meth c A ls hC hnm V hl
  obtain ⟨hx, hb, hr, hml, hown, hts, hlocks⟩ := id hC
  generalize hH : s.heap = H at V ⊢
  clear hH
  have hl : lv_has ls 4 [(0, .ref h0), (1, .int (nI le)), (2, .int step)] := hl
  generalize hlo : ([] : List Loc) = locs at V ⊢
  clear hlo
  refine lv_aload_n hx hb dX3_takeWave_0 rfl (lv_at hl 0 rfl) ?_
  refine lv_iload_n hx hb dX3_takeWave_1 rfl (lv_at hl 1 rfl) ?_
  refine g_put hC V (ci := 3) uwX3 tyX3 tyX3_ok nmX3 0 rfl rfl 3 (by decide) w_189 rfl rfl rfl rfl (Nat.le_of_ble_eq_true rfl) (ws' := [(h0, .inr (3, [.ref h1, .int qx, .int qy, .int (nI le), .ref h2, .ref h3])), (h2, .inl (T 0, 10, .inl qp))]) rfl dX3_takeWave_2 (fun H locs V => ?_)
  refine lv_iconst (v := (nI 0)) hx hb dX3_takeWave_5 (by decide +kernel) ?_
  refine lv_istore_n (lv' := [(3, .int (nI 0)), (0, .ref h0), (1, .int (nI le)), (2, .int step)]) hx hb dX3_takeWave_6 rfl hl (by decide) rfl (fun ls hl => ?_)
  have L_1 : ∀ (fu : Nat) (k7 : Nat) (g : Nat → Int32), k7 ≤ 10 → 10 - k7 < fu → ∀ (H : Heap) (locs : List Loc) (ls : Array Slot), gW D T A s [(h0, .inr (3, [.ref h1, .int qx, .int qy, .int (nI le), .ref h2, .ref h3])), (h2, .inl (T 0, 10, .inl g))] H locs → lv_has ls 4 [(3, .int (nI k7)), (0, .ref h0), (1, .int (nI le)), (2, .int step)] → W p l e (rmD 1 0 0) s m args below meth c H locs 0 0 (MQ below (gQ D A (q_h_takeWave T h0 le step h1 qx qy ql h2 h3 qp)) args s 0 0 A) (F0 m 7 ls []) := by
    intro fu_7
    induction fu_7 with
    | zero => intro k7 g hk7 hmu; exact absurd hmu (Nat.not_lt_zero _)
    | succ fu_7 ih_7 =>
      intro k7 g hk7 hmu_7 H locs ls V hl
      refine lv_iload_n hx hb dX3_takeWave_7 rfl (lv_at hl 0 rfl) ?_
      refine lv_bipush (v := (nI 10)) hx hb dX3_takeWave_8 (by decide +kernel) ?_
      refine lv_icmp_ge (tgt := 37) hx hb dX3_takeWave_10 (by decide) (fun c_2 => ?_) (fun c_2 => ?_)
      · skip
        have c_2 := b_le (by omega) (by omega) c_2
        exact g_vret (Qr := (q_h_takeWave T h0 le step h1 qx qy ql h2 h3 qp)) hC V ⟨(Nat.le_of_ble_eq_true rfl), (Nat.le_of_ble_eq_true rfl)⟩ ⟨g, rfl, rfl⟩ dX3_takeWave_37
      · skip
        have c_2 := b_nle (by omega) (by omega) c_2
        refine lv_aload_n hx hb dX3_takeWave_13 rfl (lv_at hl 1 rfl) ?_
        refine g_get hC V (ci := 3) uwX3 0 rfl rfl 4 (by decide) w_190 rfl rfl dX3_takeWave_14 ?_
        refine lv_iload_n hx hb dX3_takeWave_17 rfl (lv_at hl 0 rfl) ?_
        refine lv_iconst (v := (nI 1)) hx hb dX3_takeWave_18 (by decide +kernel) ?_
        refine lv_iload_n hx hb dX3_takeWave_19 rfl (lv_at hl 0 rfl) ?_
        refine lv_iload_n hx hb dX3_takeWave_20 rfl (lv_at hl 3 rfl) ?_
        refine lv_imul hx hb dX3_takeWave_21 ?_
        refine lv_aload_n hx hb dX3_takeWave_22 rfl (lv_at hl 1 rfl) ?_
        refine g_get hC V (ci := 3) uwX3 0 rfl rfl 3 (by decide) w_189 rfl rfl dX3_takeWave_23 ?_
        refine g_callSU (nA := 2) hC V hl.1 (c_floorMod l D T ((nI k7) * step) (nI le) (nI_ne0 (by omega) (by omega))) w_645 w_646 w_10 w_647 (by decide +kernel) rfl ⟨(Nat.le_of_ble_eq_true rfl), (Nat.le_of_ble_eq_true rfl)⟩ [] rfl rfl (Nat.le_of_ble_eq_true rfl) dX3_takeWave_26 ⟨(Nat.le_of_ble_eq_true rfl), (Nat.le_of_ble_eq_true rfl)⟩ rfl (fun r w1 H locs hQ V => ?_)
        obtain ⟨z_3, rfl, rfl⟩ := hQ
        have V : gW D T A s [(h0, .inr (3, [.ref h1, .int qx, .int qy, .int (nI le), .ref h2, .ref h3])), (h2, .inl (T 0, 10, .inl g))] H locs := V _ [] rfl rfl rfl (by decide +kernel) rfl
        show W p l e _ s m args below meth c H locs _ _ _ (F0 m 29 ls [.int z_3, .int (nI 1), .int (nI k7), .ref h2])
        refine lv_ishl hx hb dX3_takeWave_29 ?_
        refine g_iast hC V 1 rfl (vp_in_nI (by omega) (by omega)) (f' := (upd g k7 ((nI 1) <<< (z_3 &&& 31)))) (by rw [nI_clamp (by omega)]) (ws' := [(h0, .inr (3, [.ref h1, .int qx, .int qy, .int (nI le), .ref h2, .ref h3])), (h2, .inl (T 0, 10, .inl (upd g k7 ((nI 1) <<< (z_3 &&& 31)))))]) rfl dX3_takeWave_30 (fun H locs V => ?_)
        refine lv_iinc (v := (nI (k7 + 1))) (lv' := [(3, .int (nI (k7 + 1))), (0, .ref h0), (1, .int (nI le)), (2, .int step)]) hx hb dX3_takeWave_31 hl (k := 0) rfl (nI_1 _) (by decide) rfl (fun ls hl => ?_)
        refine lv_goto (tgt := 7) hx hb dX3_takeWave_34 (by decide) ?_
        exact ih_7 (k7 + 1) (upd g k7 ((nI 1) <<< (z_3 &&& 31))) (by omega) (by omega) _ _ _ V (lv_sub hl [0, 1, 2, 3] rfl)
  exact L_1 _ 0 qp (by omega) (Nat.lt_succ_self _) _ _ _ V (lv_sub hl [0, 1, 2, 3] rfl)

def q_h_weigh (T : Nat → ClassId) (h0 : Nat) (a0 : Nat) (j : Nat) (h1 : Nat) (qx : Int32) (qy : Int32) (ql : Nat) (h2 : Nat) (h3 : Nat) (qp : Nat → Int32) (qc : Nat → Int32) (an : Nat) (am : Int32) (al : Int32) (ao : Int32) (au : Int32) (a1 : Nat) (a2 : Nat) (a3 : Nat) (a4 : Nat) (a5 : Nat) (a6 : Nat) (a7 : Nat) (a8 : Nat) (a9 : Nat) (a10 : Nat) (af1 : Nat → Int32) (af2 : Nat → Int32) (af9 : Nat → Int32) : Option Value → va_W → Prop := fun rr ww => (∃ (g : Nat → Int32), rr = none ∧ ww = [(h0, .inr (3, [.ref h1, .int qx, .int qy, .int (nI ql), .ref h2, .ref h3])), (h2, .inl (T 0, 10, .inl qp)), (h3, .inl (T 0, 12, .inl g)), (a0, .inr (5, [.int (nI an), .int am, .int al, .int ao, .int au, .ref a1, .ref a2, .ref a3, .ref a4, .ref a5, .ref a6, .ref a7, .ref a8, .ref a9, .ref a10])), (a1, .inl (T 0, 10, .inl af1)), (a2, .inl (T 0, 10, .inl af2)), (a9, .inl (T 0, 10, .inl af9))])
set_option maxHeartbeats 4000000 in
set_option maxRecDepth 100000 in
theorem h_weigh (l : Launch) (D : va_G) (T : Nat → ClassId) (h0 : Nat) (a0 : Nat) (j : Nat) (h1 : Nat) (qx : Int32) (qy : Int32) (ql : Nat) (h2 : Nat) (h3 : Nat) (qp : Nat → Int32) (qc : Nat → Int32) (an : Nat) (am : Int32) (al : Int32) (ao : Int32) (au : Int32) (a1 : Nat) (a2 : Nat) (a3 : Nat) (a4 : Nat) (a5 : Nat) (a6 : Nat) (a7 : Nat) (a8 : Nat) (a9 : Nat) (a10 : Nat) (af1 : Nat → Int32) (af2 : Nat → Int32) (af9 : Nat → Int32) (h_n : an ≤ 10) (h_l : 1 ≤ ql ∧ ql ≤ 12) (h_j : j < an) : Ct l yX3_weighChanges cX3_weighChanges 5 none 1 0 0 D T [.ref h0, .ref a0, .int (nI j)] [(h0, .inr (3, [.ref h1, .int qx, .int qy, .int (nI ql), .ref h2, .ref h3])), (h2, .inl (T 0, 10, .inl qp)), (h3, .inl (T 0, 12, .inl qc)), (a0, .inr (5, [.int (nI an), .int am, .int al, .int ao, .int au, .ref a1, .ref a2, .ref a3, .ref a4, .ref a5, .ref a6, .ref a7, .ref a8, .ref a9, .ref a10])), (a1, .inl (T 0, 10, .inl af1)), (a2, .inl (T 0, 10, .inl af2)), (a9, .inl (T 0, 10, .inl af9))] (q_h_weigh T h0 a0 j h1 qx qy ql h2 h3 qp qc an am al ao au a1 a2 a3 a4 a5 a6 a7 a8 a9 a10 af1 af2 af9) := by
  refine Ct.of (cc := cX3_weighChanges) (maxL := 5) (ret := none) (by decide) (Nat.le_of_ble_eq_true rfl) ?_
  intro p e s m args below meth c A ls hC hnm V hl
  obtain ⟨hx, hb, hr, hml, hown, hts, hlocks⟩ := id hC
  generalize hH : s.heap = H at V ⊢
  clear hH
  have hl : lv_has ls 5 [(0, .ref h0), (1, .ref a0), (2, .int (nI j))] := hl
  generalize hlo : ([] : List Loc) = locs at V ⊢
  clear hlo
  refine lv_iconst (v := (nI 0)) hx hb dX3_weighChanges_0 (by decide +kernel) ?_
  refine lv_istore_n (lv' := [(3, .int (nI 0)), (0, .ref h0), (1, .ref a0), (2, .int (nI j))]) hx hb dX3_weighChanges_1 rfl hl (by decide) rfl (fun ls hl => ?_)
  have L_1 : ∀ (fu : Nat) (k2 : Nat) (ga : Nat → Int32), k2 ≤ ql → ql - k2 < fu → ∀ (H : Heap) (locs : List Loc) (ls : Array Slot), gW D T A s [(h0, .inr (3, [.ref h1, .int qx, .int qy, .int (nI ql), .ref h2, .ref h3])), (h2, .inl (T 0, 10, .inl qp)), (h3, .inl (T 0, 12, .inl ga)), (a0, .inr (5, [.int (nI an), .int am, .int al, .int ao, .int au, .ref a1, .ref a2, .ref a3, .ref a4, .ref a5, .ref a6, .ref a7, .ref a8, .ref a9, .ref a10])), (a1, .inl (T 0, 10, .inl af1)), (a2, .inl (T 0, 10, .inl af2)), (a9, .inl (T 0, 10, .inl af9))] H locs → lv_has ls 5 [(3, .int (nI k2)), (0, .ref h0), (1, .ref a0), (2, .int (nI j))] → W p l e (rmD 1 0 0) s m args below meth c H locs 0 0 (MQ below (gQ D A (q_h_weigh T h0 a0 j h1 qx qy ql h2 h3 qp qc an am al ao au a1 a2 a3 a4 a5 a6 a7 a8 a9 a10 af1 af2 af9)) args s 0 0 A) (F0 m 2 ls []) := by
    intro fu_2
    induction fu_2 with
    | zero => intro k2 ga hk2 hmu; exact absurd hmu (Nat.not_lt_zero _)
    | succ fu_2 ih_2 =>
      intro k2 ga hk2 hmu_2 H locs ls V hl
      refine lv_iload_n hx hb dX3_weighChanges_2 rfl (lv_at hl 0 rfl) ?_
      refine lv_aload_n hx hb dX3_weighChanges_3 rfl (lv_at hl 1 rfl) ?_
      refine g_get hC V (ci := 3) uwX3 0 rfl rfl 3 (by decide) w_189 rfl rfl dX3_weighChanges_4 ?_
      refine lv_icmp_ge (tgt := 29) hx hb dX3_weighChanges_7 (by decide) (fun c_2 => ?_) (fun c_2 => ?_)
      · skip
        have c_2 := b_le (by omega) (by omega) c_2
        refine lv_iconst (v := (nI 0)) hx hb dX3_weighChanges_29 (by decide +kernel) ?_
        refine lv_istore_n (lv' := [(3, .int (nI 0)), (0, .ref h0), (1, .ref a0), (2, .int (nI j))]) hx hb dX3_weighChanges_30 rfl hl (by decide) rfl (fun ls hl => ?_)
        have L_3 : ∀ (fu : Nat) (k31 : Nat) (gb : Nat → Int32), k31 ≤ an → an - k31 < fu → ∀ (H : Heap) (locs : List Loc) (ls : Array Slot), gW D T A s [(h0, .inr (3, [.ref h1, .int qx, .int qy, .int (nI ql), .ref h2, .ref h3])), (h2, .inl (T 0, 10, .inl qp)), (h3, .inl (T 0, 12, .inl gb)), (a0, .inr (5, [.int (nI an), .int am, .int al, .int ao, .int au, .ref a1, .ref a2, .ref a3, .ref a4, .ref a5, .ref a6, .ref a7, .ref a8, .ref a9, .ref a10])), (a1, .inl (T 0, 10, .inl af1)), (a2, .inl (T 0, 10, .inl af2)), (a9, .inl (T 0, 10, .inl af9))] H locs → lv_has ls 5 [(3, .int (nI k31)), (0, .ref h0), (1, .ref a0), (2, .int (nI j))] → W p l e (rmD 1 0 0) s m args below meth c H locs 0 0 (MQ below (gQ D A (q_h_weigh T h0 a0 j h1 qx qy ql h2 h3 qp qc an am al ao au a1 a2 a3 a4 a5 a6 a7 a8 a9 a10 af1 af2 af9)) args s 0 0 A) (F0 m 31 ls []) := by
          intro fu_31
          induction fu_31 with
          | zero => intro k31 gb hk31 hmu; exact absurd hmu (Nat.not_lt_zero _)
          | succ fu_31 ih_31 =>
            intro k31 gb hk31 hmu_31 H locs ls V hl
            refine lv_iload_n hx hb dX3_weighChanges_31 rfl (lv_at hl 0 rfl) ?_
            refine lv_aload_n hx hb dX3_weighChanges_32 rfl (lv_at hl 2 rfl) ?_
            refine g_get hC V (ci := 5) uwX5 3 rfl rfl 0 (by decide) w_37 rfl rfl dX3_weighChanges_33 ?_
            refine lv_icmp_ge (tgt := 107) hx hb dX3_weighChanges_36 (by decide) (fun c_4 => ?_) (fun c_4 => ?_)
            · skip
              have c_4 := b_le (by omega) (by omega) c_4
              exact g_vret (Qr := (q_h_weigh T h0 a0 j h1 qx qy ql h2 h3 qp qc an am al ao au a1 a2 a3 a4 a5 a6 a7 a8 a9 a10 af1 af2 af9)) hC V ⟨(Nat.le_of_ble_eq_true rfl), (Nat.le_of_ble_eq_true rfl)⟩ ⟨gb, rfl, rfl⟩ dX3_weighChanges_107
            · skip
              have c_4 := b_nle (by omega) (by omega) c_4
              refine lv_aload_n hx hb dX3_weighChanges_39 rfl (lv_at hl 2 rfl) ?_
              refine g_get hC V (ci := 5) uwX5 3 rfl rfl 13 (by decide) w_85 rfl rfl dX3_weighChanges_40 ?_
              refine lv_iload_n hx hb dX3_weighChanges_43 rfl (lv_at hl 0 rfl) ?_
              refine g_iald hC V 6 rfl (vp_in_nI (by omega) (by omega)) (v := (af9 k31)) (congrArg _ (nI_clamp (by omega))) dX3_weighChanges_44 ?_
              refine lv_iload_n hx hb dX3_weighChanges_45 rfl (lv_at hl 3 rfl) ?_
              refine lv_icmp_ne (tgt := 101) hx hb dX3_weighChanges_46 (by decide) (fun c_5 => ?_) (fun c_5 => ?_)
              · skip
                refine lv_iinc (v := (nI (k31 + 1))) (lv' := [(3, .int (nI (k31 + 1))), (0, .ref h0), (1, .ref a0), (2, .int (nI j))]) hx hb dX3_weighChanges_101 hl (k := 0) rfl (nI_1 _) (by decide) rfl (fun ls hl => ?_)
                refine lv_goto (tgt := 31) hx hb dX3_weighChanges_104 (by decide) ?_
                exact ih_31 (k31 + 1) gb (by omega) (by omega) _ _ _ V (lv_sub hl [0, 1, 2, 3] rfl)
              · skip
                refine lv_iconst (v := (nI 0)) hx hb dX3_weighChanges_49 (by decide +kernel) ?_
                refine lv_istore (lv' := [(4, .int (nI 0)), (3, .int (nI k31)), (0, .ref h0), (1, .ref a0), (2, .int (nI j))]) hx hb dX3_weighChanges_50 hl (by decide) rfl (fun ls hl => ?_)
                have L_6 : ∀ (fu : Nat) (k52 : Nat) (gc : Nat → Int32), k52 ≤ ql → ql - k52 < fu → ∀ (H : Heap) (locs : List Loc) (ls : Array Slot), gW D T A s [(h0, .inr (3, [.ref h1, .int qx, .int qy, .int (nI ql), .ref h2, .ref h3])), (h2, .inl (T 0, 10, .inl qp)), (h3, .inl (T 0, 12, .inl gc)), (a0, .inr (5, [.int (nI an), .int am, .int al, .int ao, .int au, .ref a1, .ref a2, .ref a3, .ref a4, .ref a5, .ref a6, .ref a7, .ref a8, .ref a9, .ref a10])), (a1, .inl (T 0, 10, .inl af1)), (a2, .inl (T 0, 10, .inl af2)), (a9, .inl (T 0, 10, .inl af9))] H locs → lv_has ls 5 [(4, .int (nI k52)), (3, .int (nI k31)), (0, .ref h0), (1, .ref a0), (2, .int (nI j))] → W p l e (rmD 1 0 0) s m args below meth c H locs 0 0 (MQ below (gQ D A (q_h_weigh T h0 a0 j h1 qx qy ql h2 h3 qp qc an am al ao au a1 a2 a3 a4 a5 a6 a7 a8 a9 a10 af1 af2 af9)) args s 0 0 A) (F0 m 52 ls []) := by
                  intro fu_52
                  induction fu_52 with
                  | zero => intro k52 gc hk52 hmu; exact absurd hmu (Nat.not_lt_zero _)
                  | succ fu_52 ih_52 =>
                    intro k52 gc hk52 hmu_52 H locs ls V hl
                    refine lv_iload hx hb dX3_weighChanges_52 (lv_at hl 0 rfl) ?_
                    refine lv_aload_n hx hb dX3_weighChanges_54 rfl (lv_at hl 2 rfl) ?_
                    refine g_get hC V (ci := 3) uwX3 0 rfl rfl 3 (by decide) w_189 rfl rfl dX3_weighChanges_55 ?_
                    refine lv_icmp_ge (tgt := 101) hx hb dX3_weighChanges_58 (by decide) (fun c_7 => ?_) (fun c_7 => ?_)
                    · skip
                      have c_7 := b_le (by omega) (by omega) c_7
                      refine lv_iinc (v := (nI (k31 + 1))) (lv' := [(3, .int (nI (k31 + 1))), (4, .int (nI k52)), (0, .ref h0), (1, .ref a0), (2, .int (nI j))]) hx hb dX3_weighChanges_101 hl (k := 1) rfl (nI_1 _) (by decide) rfl (fun ls hl => ?_)
                      refine lv_goto (tgt := 31) hx hb dX3_weighChanges_104 (by decide) ?_
                      exact ih_31 (k31 + 1) gc (by omega) (by omega) _ _ _ V (lv_sub hl [0, 2, 3, 4] rfl)
                    · skip
                      have c_7 := b_nle (by omega) (by omega) c_7
                      refine lv_aload_n hx hb dX3_weighChanges_61 rfl (lv_at hl 2 rfl) ?_
                      refine g_get hC V (ci := 3) uwX3 0 rfl rfl 5 (by decide) w_191 rfl rfl dX3_weighChanges_62 ?_
                      refine lv_iload hx hb dX3_weighChanges_65 (lv_at hl 0 rfl) ?_
                      refine lv_dup2_11 hx hb dX3_weighChanges_67 rfl rfl ?_
                      refine g_iald hC V 2 rfl (vp_in_nI (by omega) (by omega)) (v := (gc k52)) (congrArg _ (nI_clamp (by omega))) dX3_weighChanges_68 ?_
                      refine lv_aload_n hx hb dX3_weighChanges_69 rfl (lv_at hl 2 rfl) ?_
                      refine g_get hC V (ci := 3) uwX3 0 rfl rfl 4 (by decide) w_190 rfl rfl dX3_weighChanges_70 ?_
                      refine lv_iload_n hx hb dX3_weighChanges_73 rfl (lv_at hl 1 rfl) ?_
                      refine g_iald hC V 1 rfl (vp_in_nI (by omega) (by omega)) (v := (qp k31)) (congrArg _ (nI_clamp (by omega))) dX3_weighChanges_74 ?_
                      refine lv_iload hx hb dX3_weighChanges_75 (lv_at hl 0 rfl) ?_
                      refine g_callSNU (nA := 2) (host := RX7) hC V hl.1 (c_isIn l D T (qp k31) (nI k52)) w_472 (List.mem_of_getElem? (i := 10) rfl) w_2 w_471 (by decide +kernel) rfl ⟨(Nat.le_of_ble_eq_true rfl), (Nat.le_of_ble_eq_true rfl)⟩ [] rfl rfl (Nat.le_of_ble_eq_true rfl) dX3_weighChanges_77 ⟨(Nat.le_of_ble_eq_true rfl), (Nat.le_of_ble_eq_true rfl)⟩ rfl (fun r w1 H locs hQ V => ?_)
                      rcases hQ with ⟨rfl, rfl⟩ | ⟨rfl, rfl⟩
                      · have V : gW D T A s [(h0, .inr (3, [.ref h1, .int qx, .int qy, .int (nI ql), .ref h2, .ref h3])), (h2, .inl (T 0, 10, .inl qp)), (h3, .inl (T 0, 12, .inl gc)), (a0, .inr (5, [.int (nI an), .int am, .int al, .int ao, .int au, .ref a1, .ref a2, .ref a3, .ref a4, .ref a5, .ref a6, .ref a7, .ref a8, .ref a9, .ref a10])), (a1, .inl (T 0, 10, .inl af1)), (a2, .inl (T 0, 10, .inl af2)), (a9, .inl (T 0, 10, .inl af9))] H locs := V _ [] rfl rfl rfl (by decide +kernel) rfl
                        show W p l e _ s m args below meth c H locs _ _ _ (F0 m 80 ls [.int (nI 1), .int (gc k52), .int (nI k52), .ref h3])
                        refine lv_if_eq (tgt := 92) hx hb dX3_weighChanges_80 (by decide) (fun c => absurd (show (nI 1) = 0 from c) (by decide +kernel)) (fun _ => ?_)
                        refine lv_aload_n hx hb dX3_weighChanges_83 rfl (lv_at hl 3 rfl) ?_
                        refine g_get hC V (ci := 5) uwX5 3 rfl rfl 5 (by decide) w_55 rfl rfl dX3_weighChanges_84 ?_
                        refine lv_iload_n hx hb dX3_weighChanges_87 rfl (lv_at hl 1 rfl) ?_
                        refine g_iald hC V 4 rfl (vp_in_nI (by omega) (by omega)) (v := (af1 k31)) (congrArg _ (nI_clamp (by omega))) dX3_weighChanges_88 ?_
                        refine lv_goto (tgt := 93) hx hb dX3_weighChanges_89 (by decide) ?_
                        refine lv_iadd hx hb dX3_weighChanges_93 ?_
                        refine g_iast hC V 2 rfl (vp_in_nI (by omega) (by omega)) (f' := (upd gc k52 ((gc k52) + (af1 k31)))) (by rw [nI_clamp (by omega)]) (ws' := [(h0, .inr (3, [.ref h1, .int qx, .int qy, .int (nI ql), .ref h2, .ref h3])), (h2, .inl (T 0, 10, .inl qp)), (h3, .inl (T 0, 12, .inl (upd gc k52 ((gc k52) + (af1 k31))))), (a0, .inr (5, [.int (nI an), .int am, .int al, .int ao, .int au, .ref a1, .ref a2, .ref a3, .ref a4, .ref a5, .ref a6, .ref a7, .ref a8, .ref a9, .ref a10])), (a1, .inl (T 0, 10, .inl af1)), (a2, .inl (T 0, 10, .inl af2)), (a9, .inl (T 0, 10, .inl af9))]) rfl dX3_weighChanges_94 (fun H locs V => ?_)
                        refine lv_iinc (v := (nI (k52 + 1))) (lv' := [(4, .int (nI (k52 + 1))), (3, .int (nI k31)), (0, .ref h0), (1, .ref a0), (2, .int (nI j))]) hx hb dX3_weighChanges_95 hl (k := 0) rfl (nI_1 _) (by decide) rfl (fun ls hl => ?_)
                        refine lv_goto (tgt := 52) hx hb dX3_weighChanges_98 (by decide) ?_
                        exact ih_52 (k52 + 1) (upd gc k52 ((gc k52) + (af1 k31))) (by omega) (by omega) _ _ _ V (lv_sub hl [0, 1, 2, 3, 4] rfl)
                      · have V : gW D T A s [(h0, .inr (3, [.ref h1, .int qx, .int qy, .int (nI ql), .ref h2, .ref h3])), (h2, .inl (T 0, 10, .inl qp)), (h3, .inl (T 0, 12, .inl gc)), (a0, .inr (5, [.int (nI an), .int am, .int al, .int ao, .int au, .ref a1, .ref a2, .ref a3, .ref a4, .ref a5, .ref a6, .ref a7, .ref a8, .ref a9, .ref a10])), (a1, .inl (T 0, 10, .inl af1)), (a2, .inl (T 0, 10, .inl af2)), (a9, .inl (T 0, 10, .inl af9))] H locs := V _ [] rfl rfl rfl (by decide +kernel) rfl
                        show W p l e _ s m args below meth c H locs _ _ _ (F0 m 80 ls [.int (nI 0), .int (gc k52), .int (nI k52), .ref h3])
                        refine lv_if_eq (tgt := 92) hx hb dX3_weighChanges_80 (by decide) (fun _ => ?_) (fun c => absurd (show (nI 0) = 0 by decide +kernel) c)
                        refine lv_iconst (v := (nI 0)) hx hb dX3_weighChanges_92 (by decide +kernel) ?_
                        refine lv_iadd hx hb dX3_weighChanges_93 ?_
                        refine g_iast hC V 2 rfl (vp_in_nI (by omega) (by omega)) (f' := (upd gc k52 ((gc k52) + (nI 0)))) (by rw [nI_clamp (by omega)]) (ws' := [(h0, .inr (3, [.ref h1, .int qx, .int qy, .int (nI ql), .ref h2, .ref h3])), (h2, .inl (T 0, 10, .inl qp)), (h3, .inl (T 0, 12, .inl (upd gc k52 ((gc k52) + (nI 0))))), (a0, .inr (5, [.int (nI an), .int am, .int al, .int ao, .int au, .ref a1, .ref a2, .ref a3, .ref a4, .ref a5, .ref a6, .ref a7, .ref a8, .ref a9, .ref a10])), (a1, .inl (T 0, 10, .inl af1)), (a2, .inl (T 0, 10, .inl af2)), (a9, .inl (T 0, 10, .inl af9))]) rfl dX3_weighChanges_94 (fun H locs V => ?_)
                        refine lv_iinc (v := (nI (k52 + 1))) (lv' := [(4, .int (nI (k52 + 1))), (3, .int (nI k31)), (0, .ref h0), (1, .ref a0), (2, .int (nI j))]) hx hb dX3_weighChanges_95 hl (k := 0) rfl (nI_1 _) (by decide) rfl (fun ls hl => ?_)
                        refine lv_goto (tgt := 52) hx hb dX3_weighChanges_98 (by decide) ?_
                        exact ih_52 (k52 + 1) (upd gc k52 ((gc k52) + (nI 0))) (by omega) (by omega) _ _ _ V (lv_sub hl [0, 1, 2, 3, 4] rfl)
                exact L_6 _ 0 gb (by omega) (Nat.lt_succ_self _) _ _ _ V (lv_sub hl [0, 1, 2, 3, 4] rfl)
        exact L_3 _ 0 ga (by omega) (Nat.lt_succ_self _) _ _ _ V (lv_sub hl [0, 1, 2, 3] rfl)
      · skip
        have c_2 := b_nle (by omega) (by omega) c_2
        refine lv_aload_n hx hb dX3_weighChanges_10 rfl (lv_at hl 1 rfl) ?_
        refine g_get hC V (ci := 3) uwX3 0 rfl rfl 5 (by decide) w_191 rfl rfl dX3_weighChanges_11 ?_
        refine lv_iload_n hx hb dX3_weighChanges_14 rfl (lv_at hl 0 rfl) ?_
        refine lv_aload_n hx hb dX3_weighChanges_15 rfl (lv_at hl 2 rfl) ?_
        refine g_get hC V (ci := 5) uwX5 3 rfl rfl 6 (by decide) w_61 rfl rfl dX3_weighChanges_16 ?_
        refine lv_iload_n hx hb dX3_weighChanges_19 rfl (lv_at hl 3 rfl) ?_
        refine g_iald hC V 5 rfl (vp_in_nI (by omega) (by omega)) (v := (af2 j)) (congrArg _ (nI_clamp (by omega))) dX3_weighChanges_20 ?_
        refine lv_ineg hx hb dX3_weighChanges_21 ?_
        refine g_iast hC V 2 rfl (vp_in_nI (by omega) (by omega)) (f' := (upd ga k2 (-(af2 j)))) (by rw [nI_clamp (by omega)]) (ws' := [(h0, .inr (3, [.ref h1, .int qx, .int qy, .int (nI ql), .ref h2, .ref h3])), (h2, .inl (T 0, 10, .inl qp)), (h3, .inl (T 0, 12, .inl (upd ga k2 (-(af2 j))))), (a0, .inr (5, [.int (nI an), .int am, .int al, .int ao, .int au, .ref a1, .ref a2, .ref a3, .ref a4, .ref a5, .ref a6, .ref a7, .ref a8, .ref a9, .ref a10])), (a1, .inl (T 0, 10, .inl af1)), (a2, .inl (T 0, 10, .inl af2)), (a9, .inl (T 0, 10, .inl af9))]) rfl dX3_weighChanges_22 (fun H locs V => ?_)
        refine lv_iinc (v := (nI (k2 + 1))) (lv' := [(3, .int (nI (k2 + 1))), (0, .ref h0), (1, .ref a0), (2, .int (nI j))]) hx hb dX3_weighChanges_23 hl (k := 0) rfl (nI_1 _) (by decide) rfl (fun ls hl => ?_)
        refine lv_goto (tgt := 2) hx hb dX3_weighChanges_26 (by decide) ?_
        exact ih_2 (k2 + 1) (upd ga k2 (-(af2 j))) (by omega) (by omega) _ _ _ V (lv_sub hl [0, 1, 2, 3] rfl)
  exact L_1 _ 0 qc (by omega) (Nat.lt_succ_self _) _ _ _ V (lv_sub hl [0, 1, 2, 3] rfl)

def q_h_breaks (T : Nat → ClassId) (h0 : Nat) (a0 : Nat) (j : Nat) (h1 : Nat) (qx : Int32) (qy : Int32) (ql : Nat) (h2 : Nat) (h3 : Nat) (qp : Nat → Int32) (qc : Nat → Int32) (an : Nat) (am : Int32) (al : Int32) (ao : Int32) (au : Int32) (a1 : Nat) (a2 : Nat) (a3 : Nat) (a4 : Nat) (a5 : Nat) (a6 : Nat) (a7 : Nat) (a8 : Nat) (a9 : Nat) (a10 : Nat) (af1 : Nat → Int32) (af2 : Nat → Int32) (af3 : Nat → Int32) (af4 : Nat → Int32) (af5 : Nat → Int32) (af9 : Nat → Int32) : Option Value → va_W → Prop := fun rr ww => (∃ (z : Int32) (g : Nat → Int32), rr = some (.int z) ∧ ww = [(h0, .inr (3, [.ref h1, .int qx, .int qy, .int (nI ql), .ref h2, .ref h3])), (h2, .inl (T 0, 10, .inl qp)), (h3, .inl (T 0, 12, .inl g)), (a0, .inr (5, [.int (nI an), .int am, .int al, .int ao, .int au, .ref a1, .ref a2, .ref a3, .ref a4, .ref a5, .ref a6, .ref a7, .ref a8, .ref a9, .ref a10])), (a1, .inl (T 0, 10, .inl af1)), (a2, .inl (T 0, 10, .inl af2)), (a3, .inl (T 0, 10, .inl af3)), (a4, .inl (T 0, 10, .inl af4)), (a5, .inl (T 0, 10, .inl af5)), (a9, .inl (T 0, 10, .inl af9))])
set_option maxHeartbeats 4000000 in
set_option maxRecDepth 100000 in
theorem h_breaks (l : Launch) (D : va_G) (T : Nat → ClassId) (h0 : Nat) (a0 : Nat) (j : Nat) (h1 : Nat) (qx : Int32) (qy : Int32) (ql : Nat) (h2 : Nat) (h3 : Nat) (qp : Nat → Int32) (qc : Nat → Int32) (an : Nat) (am : Int32) (al : Int32) (ao : Int32) (au : Int32) (a1 : Nat) (a2 : Nat) (a3 : Nat) (a4 : Nat) (a5 : Nat) (a6 : Nat) (a7 : Nat) (a8 : Nat) (a9 : Nat) (a10 : Nat) (af1 : Nat → Int32) (af2 : Nat → Int32) (af3 : Nat → Int32) (af4 : Nat → Int32) (af5 : Nat → Int32) (af9 : Nat → Int32) (h_n : an ≤ 10) (h_l : 1 ≤ ql ∧ ql ≤ 12) (h_j : j < an) : Ct l yX3_breaksBehind cX3_breaksBehind 7 (some .int) 2 0 0 D T [.ref h0, .ref a0, .int (nI j)] [(h0, .inr (3, [.ref h1, .int qx, .int qy, .int (nI ql), .ref h2, .ref h3])), (h2, .inl (T 0, 10, .inl qp)), (h3, .inl (T 0, 12, .inl qc)), (a0, .inr (5, [.int (nI an), .int am, .int al, .int ao, .int au, .ref a1, .ref a2, .ref a3, .ref a4, .ref a5, .ref a6, .ref a7, .ref a8, .ref a9, .ref a10])), (a1, .inl (T 0, 10, .inl af1)), (a2, .inl (T 0, 10, .inl af2)), (a3, .inl (T 0, 10, .inl af3)), (a4, .inl (T 0, 10, .inl af4)), (a5, .inl (T 0, 10, .inl af5)), (a9, .inl (T 0, 10, .inl af9))] (q_h_breaks T h0 a0 j h1 qx qy ql h2 h3 qp qc an am al ao au a1 a2 a3 a4 a5 a6 a7 a8 a9 a10 af1 af2 af3 af4 af5 af9) := by
  refine Ct.of (cc := cX3_breaksBehind) (maxL := 7) (ret := (some .int)) (by decide) (Nat.le_of_ble_eq_true rfl) ?_
  intro p e s m args below meth c A ls hC hnm V hl
  obtain ⟨hx, hb, hr, hml, hown, hts, hlocks⟩ := id hC
  generalize hH : s.heap = H at V ⊢
  clear hH
  have hl : lv_has ls 7 [(0, .ref h0), (1, .ref a0), (2, .int (nI j))] := hl
  generalize hlo : ([] : List Loc) = locs at V ⊢
  clear hlo
  refine lv_aload_n hx hb dX3_breaksBehind_0 rfl (lv_at hl 0 rfl) ?_
  refine lv_aload_n hx hb dX3_breaksBehind_1 rfl (lv_at hl 1 rfl) ?_
  refine lv_iload_n hx hb dX3_breaksBehind_2 rfl (lv_at hl 2 rfl) ?_
  refine g_callVU (nA := 2) hC V hl.1 (h_weigh l D T h0 a0 j h1 qx qy ql h2 h3 qp qc an am al ao au a1 a2 a3 a4 a5 a6 a7 a8 a9 a10 af1 af2 af9 (by first | assumption | omega) (by first | assumption | omega) (by first | assumption | omega)) w_618 w_620 w_s19 w_6 w_621 (by decide +kernel) rfl ⟨(Nat.le_of_ble_eq_true rfl), (Nat.le_of_ble_eq_true rfl)⟩ 0 (ci := 3) rfl rfl [0, 1, 2, 3, 4, 5, 9] rfl rfl (Nat.le_of_ble_eq_true rfl) dX3_breaksBehind_3 ⟨(Nat.le_of_ble_eq_true rfl), (Nat.le_of_ble_eq_true rfl)⟩ rfl (fun r w1 H locs hQ V => ?_)
  obtain ⟨g_1, rfl, rfl⟩ := hQ
  have V : gW D T A s [(h0, .inr (3, [.ref h1, .int qx, .int qy, .int (nI ql), .ref h2, .ref h3])), (h2, .inl (T 0, 10, .inl qp)), (h3, .inl (T 0, 12, .inl g_1)), (a0, .inr (5, [.int (nI an), .int am, .int al, .int ao, .int au, .ref a1, .ref a2, .ref a3, .ref a4, .ref a5, .ref a6, .ref a7, .ref a8, .ref a9, .ref a10])), (a1, .inl (T 0, 10, .inl af1)), (a2, .inl (T 0, 10, .inl af2)), (a3, .inl (T 0, 10, .inl af3)), (a4, .inl (T 0, 10, .inl af4)), (a5, .inl (T 0, 10, .inl af5)), (a9, .inl (T 0, 10, .inl af9))] H locs := V _ [0, 0, 0, 0, 0, 0, 3] rfl rfl rfl (by decide +kernel) rfl
  show W p l e _ s m args below meth c H locs _ _ _ (F0 m 6 ls [])
  refine lv_aload_n hx hb dX3_breaksBehind_6 rfl (lv_at hl 1 rfl) ?_
  refine g_get hC V (ci := 5) uwX5 3 rfl rfl 7 (by decide) w_66 rfl rfl dX3_breaksBehind_7 ?_
  refine lv_iload_n hx hb dX3_breaksBehind_10 rfl (lv_at hl 2 rfl) ?_
  refine g_iald hC V 6 rfl (vp_in_nI (by omega) (by omega)) (v := (af3 j)) (congrArg _ (nI_clamp (by omega))) dX3_breaksBehind_11 ?_
  refine lv_istore_n (lv' := [(3, .int (af3 j)), (0, .ref h0), (1, .ref a0), (2, .int (nI j))]) hx hb dX3_breaksBehind_12 rfl hl (by decide) rfl (fun ls hl => ?_)
  refine lv_iconst (v := (nI 0)) hx hb dX3_breaksBehind_13 (by decide +kernel) ?_
  refine lv_istore (lv' := [(4, .int (nI 0)), (3, .int (af3 j)), (0, .ref h0), (1, .ref a0), (2, .int (nI j))]) hx hb dX3_breaksBehind_14 hl (by decide) rfl (fun ls hl => ?_)
  have L_2 : ∀ (fu : Nat) (k16 : Nat) (x16_3 : Int32), k16 ≤ 202 → 202 - k16 < fu → ∀ (H : Heap) (locs : List Loc) (ls : Array Slot), gW D T A s [(h0, .inr (3, [.ref h1, .int qx, .int qy, .int (nI ql), .ref h2, .ref h3])), (h2, .inl (T 0, 10, .inl qp)), (h3, .inl (T 0, 12, .inl g_1)), (a0, .inr (5, [.int (nI an), .int am, .int al, .int ao, .int au, .ref a1, .ref a2, .ref a3, .ref a4, .ref a5, .ref a6, .ref a7, .ref a8, .ref a9, .ref a10])), (a1, .inl (T 0, 10, .inl af1)), (a2, .inl (T 0, 10, .inl af2)), (a3, .inl (T 0, 10, .inl af3)), (a4, .inl (T 0, 10, .inl af4)), (a5, .inl (T 0, 10, .inl af5)), (a9, .inl (T 0, 10, .inl af9))] H locs → lv_has ls 7 [(4, .int (nI k16)), (3, .int x16_3), (0, .ref h0), (1, .ref a0), (2, .int (nI j))] → W p l e (rmD 2 0 0) s m args below meth c H locs 0 0 (MQ below (gQ D A (q_h_breaks T h0 a0 j h1 qx qy ql h2 h3 qp qc an am al ao au a1 a2 a3 a4 a5 a6 a7 a8 a9 a10 af1 af2 af3 af4 af5 af9)) args s 0 0 A) (F0 m 16 ls []) := by
    intro fu_16
    induction fu_16 with
    | zero => intro k16 x16_3 hk16 hmu; exact absurd hmu (Nat.not_lt_zero _)
    | succ fu_16 ih_16 =>
      intro k16 x16_3 hk16 hmu_16 H locs ls V hl
      refine lv_iload hx hb dX3_breaksBehind_16 (lv_at hl 0 rfl) ?_
      refine lv_sipush (v := (nI 201)) hx hb dX3_breaksBehind_18 (by decide +kernel) ?_
      refine lv_icmp_gt (tgt := 94) hx hb dX3_breaksBehind_21 (by decide) (fun c_3 => ?_) (fun c_3 => ?_)
      · skip
        have c_3 := b_lt (by omega) (by omega) c_3
        refine lv_iconst (v := (-1)) hx hb dX3_breaksBehind_94 (by decide +kernel) ?_
        exact g_iret (Qr := (q_h_breaks T h0 a0 j h1 qx qy ql h2 h3 qp qc an am al ao au a1 a2 a3 a4 a5 a6 a7 a8 a9 a10 af1 af2 af3 af4 af5 af9)) hC V ⟨(Nat.le_of_ble_eq_true rfl), (Nat.le_of_ble_eq_true rfl)⟩ ⟨(-1), g_1, rfl, rfl⟩ dX3_breaksBehind_95
      · skip
        have c_3 := b_nlt (by omega) (by omega) c_3
        refine lv_iload_n hx hb dX3_breaksBehind_24 rfl (lv_at hl 1 rfl) ?_
        refine lv_istore (lv' := [(5, .int x16_3), (4, .int (nI k16)), (3, .int x16_3), (0, .ref h0), (1, .ref a0), (2, .int (nI j))]) hx hb dX3_breaksBehind_25 hl (by decide) rfl (fun ls hl => ?_)
        refine lv_iconst (v := (nI 0)) hx hb dX3_breaksBehind_27 (by decide +kernel) ?_
        refine lv_istore (lv' := [(6, .int (nI 0)), (5, .int x16_3), (4, .int (nI k16)), (3, .int x16_3), (0, .ref h0), (1, .ref a0), (2, .int (nI j))]) hx hb dX3_breaksBehind_28 hl (by decide) rfl (fun ls hl => ?_)
        have L_4 : ∀ (fu : Nat) (k30 : Nat) (x30_3 : Int32), k30 ≤ ql → ql - k30 < fu → ∀ (H : Heap) (locs : List Loc) (ls : Array Slot), gW D T A s [(h0, .inr (3, [.ref h1, .int qx, .int qy, .int (nI ql), .ref h2, .ref h3])), (h2, .inl (T 0, 10, .inl qp)), (h3, .inl (T 0, 12, .inl g_1)), (a0, .inr (5, [.int (nI an), .int am, .int al, .int ao, .int au, .ref a1, .ref a2, .ref a3, .ref a4, .ref a5, .ref a6, .ref a7, .ref a8, .ref a9, .ref a10])), (a1, .inl (T 0, 10, .inl af1)), (a2, .inl (T 0, 10, .inl af2)), (a3, .inl (T 0, 10, .inl af3)), (a4, .inl (T 0, 10, .inl af4)), (a5, .inl (T 0, 10, .inl af5)), (a9, .inl (T 0, 10, .inl af9))] H locs → lv_has ls 7 [(6, .int (nI k30)), (5, .int x16_3), (4, .int (nI k16)), (3, .int x30_3), (0, .ref h0), (1, .ref a0), (2, .int (nI j))] → W p l e (rmD 2 0 0) s m args below meth c H locs 0 0 (MQ below (gQ D A (q_h_breaks T h0 a0 j h1 qx qy ql h2 h3 qp qc an am al ao au a1 a2 a3 a4 a5 a6 a7 a8 a9 a10 af1 af2 af3 af4 af5 af9)) args s 0 0 A) (F0 m 30 ls []) := by
          intro fu_30
          induction fu_30 with
          | zero => intro k30 x30_3 hk30 hmu; exact absurd hmu (Nat.not_lt_zero _)
          | succ fu_30 ih_30 =>
            intro k30 x30_3 hk30 hmu_30 H locs ls V hl
            refine lv_iload hx hb dX3_breaksBehind_30 (lv_at hl 0 rfl) ?_
            refine lv_aload_n hx hb dX3_breaksBehind_32 rfl (lv_at hl 4 rfl) ?_
            refine g_get hC V (ci := 3) uwX3 0 rfl rfl 3 (by decide) w_189 rfl rfl dX3_breaksBehind_33 ?_
            refine lv_icmp_ge (tgt := 80) hx hb dX3_breaksBehind_36 (by decide) (fun c_5 => ?_) (fun c_5 => ?_)
            · skip
              have c_5 := b_le (by omega) (by omega) c_5
              refine lv_iload_n hx hb dX3_breaksBehind_80 rfl (lv_at hl 3 rfl) ?_
              refine lv_iload hx hb dX3_breaksBehind_81 (lv_at hl 1 rfl) ?_
              refine lv_icmp_ne (tgt := 88) hx hb dX3_breaksBehind_83 (by decide) (fun c_6 => ?_) (fun c_6 => ?_)
              · skip
                refine lv_iinc (v := (nI (k16 + 1))) (lv' := [(4, .int (nI (k16 + 1))), (6, .int (nI k30)), (5, .int x16_3), (3, .int x30_3), (0, .ref h0), (1, .ref a0), (2, .int (nI j))]) hx hb dX3_breaksBehind_88 hl (k := 2) rfl (nI_1 _) (by decide) rfl (fun ls hl => ?_)
                refine lv_goto (tgt := 16) hx hb dX3_breaksBehind_91 (by decide) ?_
                exact ih_16 (k16 + 1) x30_3 (by omega) (by omega) _ _ _ V (lv_sub hl [0, 3, 4, 5, 6] rfl)
              · skip
                refine lv_iconst (v := (-1)) hx hb dX3_breaksBehind_86 (by decide +kernel) ?_
                exact g_iret (Qr := (q_h_breaks T h0 a0 j h1 qx qy ql h2 h3 qp qc an am al ao au a1 a2 a3 a4 a5 a6 a7 a8 a9 a10 af1 af2 af3 af4 af5 af9)) hC V ⟨(Nat.le_of_ble_eq_true rfl), (Nat.le_of_ble_eq_true rfl)⟩ ⟨(-1), g_1, rfl, rfl⟩ dX3_breaksBehind_87
            · skip
              have c_5 := b_nle (by omega) (by omega) c_5
              refine lv_iload_n hx hb dX3_breaksBehind_39 rfl (lv_at hl 3 rfl) ?_
              refine lv_aload_n hx hb dX3_breaksBehind_40 rfl (lv_at hl 4 rfl) ?_
              refine g_get hC V (ci := 3) uwX3 0 rfl rfl 5 (by decide) w_191 rfl rfl dX3_breaksBehind_41 ?_
              refine lv_iload hx hb dX3_breaksBehind_44 (lv_at hl 0 rfl) ?_
              refine g_iald hC V 2 rfl (vp_in_nI (by omega) (by omega)) (v := (g_1 k30)) (congrArg _ (nI_clamp (by omega))) dX3_breaksBehind_46 ?_
              refine lv_iadd hx hb dX3_breaksBehind_47 ?_
              refine g_callSNU (nA := 1) (host := RX7) hC V hl.1 (c_bounded l D T (x30_3 + (g_1 k30))) w_489 (List.mem_of_getElem? (i := 9) rfl) w_2 w_488 (by decide +kernel) rfl ⟨(Nat.le_of_ble_eq_true rfl), (Nat.le_of_ble_eq_true rfl)⟩ [] rfl rfl (Nat.le_of_ble_eq_true rfl) dX3_breaksBehind_48 ⟨(Nat.le_of_ble_eq_true rfl), (Nat.le_of_ble_eq_true rfl)⟩ rfl (fun r w1 H locs hQ V => ?_)
              obtain ⟨z_7, rfl, rfl⟩ := hQ
              have V : gW D T A s [(h0, .inr (3, [.ref h1, .int qx, .int qy, .int (nI ql), .ref h2, .ref h3])), (h2, .inl (T 0, 10, .inl qp)), (h3, .inl (T 0, 12, .inl g_1)), (a0, .inr (5, [.int (nI an), .int am, .int al, .int ao, .int au, .ref a1, .ref a2, .ref a3, .ref a4, .ref a5, .ref a6, .ref a7, .ref a8, .ref a9, .ref a10])), (a1, .inl (T 0, 10, .inl af1)), (a2, .inl (T 0, 10, .inl af2)), (a3, .inl (T 0, 10, .inl af3)), (a4, .inl (T 0, 10, .inl af4)), (a5, .inl (T 0, 10, .inl af5)), (a9, .inl (T 0, 10, .inl af9))] H locs := V _ [] rfl rfl rfl (by decide +kernel) rfl
              show W p l e _ s m args below meth c H locs _ _ _ (F0 m 51 ls [.int z_7])
              refine lv_istore_n (lv' := [(3, .int z_7), (6, .int (nI k30)), (5, .int x16_3), (4, .int (nI k16)), (0, .ref h0), (1, .ref a0), (2, .int (nI j))]) hx hb dX3_breaksBehind_51 rfl hl (by decide) rfl (fun ls hl => ?_)
              refine lv_aload_n hx hb dX3_breaksBehind_52 rfl (lv_at hl 5 rfl) ?_
              refine lv_iload_n hx hb dX3_breaksBehind_53 rfl (lv_at hl 6 rfl) ?_
              refine lv_iload_n hx hb dX3_breaksBehind_54 rfl (lv_at hl 0 rfl) ?_
              refine g_callVU (nA := 2) hC V hl.1 (s_isWorkableAt l D T a0 j z_7 an am al ao au a1 a2 a3 a4 a5 a6 a7 a8 a9 a10 af4 af5 (by first | assumption | omega)) w_624 w_479 w_480 w_3 w_481 (by decide +kernel) rfl ⟨(Nat.le_of_ble_eq_true rfl), (Nat.le_of_ble_eq_true rfl)⟩ 3 (ci := 5) rfl rfl [3, 7, 8] rfl rfl (Nat.le_of_ble_eq_true rfl) dX3_breaksBehind_55 ⟨(Nat.le_of_ble_eq_true rfl), (Nat.le_of_ble_eq_true rfl)⟩ rfl (fun r w1 H locs hQ V => ?_)
              rcases hQ with ⟨rfl, rfl, f_8, f_9⟩ | ⟨rfl, rfl, f_10⟩
              · have V : gW D T A s [(h0, .inr (3, [.ref h1, .int qx, .int qy, .int (nI ql), .ref h2, .ref h3])), (h2, .inl (T 0, 10, .inl qp)), (h3, .inl (T 0, 12, .inl g_1)), (a0, .inr (5, [.int (nI an), .int am, .int al, .int ao, .int au, .ref a1, .ref a2, .ref a3, .ref a4, .ref a5, .ref a6, .ref a7, .ref a8, .ref a9, .ref a10])), (a1, .inl (T 0, 10, .inl af1)), (a2, .inl (T 0, 10, .inl af2)), (a3, .inl (T 0, 10, .inl af3)), (a4, .inl (T 0, 10, .inl af4)), (a5, .inl (T 0, 10, .inl af5)), (a9, .inl (T 0, 10, .inl af9))] H locs := V _ [3, 3, 0] rfl rfl rfl (by decide +kernel) rfl
                show W p l e _ s m args below meth c H locs _ _ _ (F0 m 58 ls [.int (nI 1)])
                refine lv_if_ne (tgt := 74) hx hb dX3_breaksBehind_58 (by decide) (fun _ => ?_) (fun c => absurd (show (nI 1) = 0 from c) (by decide +kernel))
                refine lv_iinc (v := (nI (k30 + 1))) (lv' := [(6, .int (nI (k30 + 1))), (3, .int z_7), (5, .int x16_3), (4, .int (nI k16)), (0, .ref h0), (1, .ref a0), (2, .int (nI j))]) hx hb dX3_breaksBehind_74 hl (k := 1) rfl (nI_1 _) (by decide) rfl (fun ls hl => ?_)
                refine lv_goto (tgt := 30) hx hb dX3_breaksBehind_77 (by decide) ?_
                exact ih_30 (k30 + 1) z_7 (by omega) (by omega) _ _ _ V (lv_sub hl [0, 2, 3, 1, 4, 5, 6] rfl)
              · have V : gW D T A s [(h0, .inr (3, [.ref h1, .int qx, .int qy, .int (nI ql), .ref h2, .ref h3])), (h2, .inl (T 0, 10, .inl qp)), (h3, .inl (T 0, 12, .inl g_1)), (a0, .inr (5, [.int (nI an), .int am, .int al, .int ao, .int au, .ref a1, .ref a2, .ref a3, .ref a4, .ref a5, .ref a6, .ref a7, .ref a8, .ref a9, .ref a10])), (a1, .inl (T 0, 10, .inl af1)), (a2, .inl (T 0, 10, .inl af2)), (a3, .inl (T 0, 10, .inl af3)), (a4, .inl (T 0, 10, .inl af4)), (a5, .inl (T 0, 10, .inl af5)), (a9, .inl (T 0, 10, .inl af9))] H locs := V _ [3, 3, 0] rfl rfl rfl (by decide +kernel) rfl
                show W p l e _ s m args below meth c H locs _ _ _ (F0 m 58 ls [.int (nI 0)])
                refine lv_if_ne (tgt := 74) hx hb dX3_breaksBehind_58 (by decide) (fun c => absurd (show (nI 0) = 0 by decide +kernel) c) (fun _ => ?_)
                refine lv_iload hx hb dX3_breaksBehind_61 (lv_at hl 3 rfl) ?_
                refine lv_aload_n hx hb dX3_breaksBehind_63 rfl (lv_at hl 4 rfl) ?_
                refine g_get hC V (ci := 3) uwX3 0 rfl rfl 3 (by decide) w_189 rfl rfl dX3_breaksBehind_64 ?_
                refine lv_imul hx hb dX3_breaksBehind_67 ?_
                refine g_vi (y := (nI (k16 * ql))) (pk_mul _ _) ?_
                refine lv_iload hx hb dX3_breaksBehind_68 (lv_at hl 1 rfl) ?_
                refine lv_iadd hx hb dX3_breaksBehind_70 ?_
                refine g_vi (y := (nI ((k16 * ql) + k30))) (nI_add _ _) ?_
                refine lv_iconst (v := (nI 1)) hx hb dX3_breaksBehind_71 (by decide +kernel) ?_
                refine lv_iadd hx hb dX3_breaksBehind_72 ?_
                refine g_vi (y := (nI (((k16 * ql) + k30) + 1))) (nI_add _ _) ?_
                exact g_iret (Qr := (q_h_breaks T h0 a0 j h1 qx qy ql h2 h3 qp qc an am al ao au a1 a2 a3 a4 a5 a6 a7 a8 a9 a10 af1 af2 af3 af4 af5 af9)) hC V ⟨(Nat.le_of_ble_eq_true rfl), (Nat.le_of_ble_eq_true rfl)⟩ ⟨(nI (((k16 * ql) + k30) + 1)), g_1, rfl, rfl⟩ dX3_breaksBehind_73
        exact L_4 _ 0 x16_3 (by omega) (Nat.lt_succ_self _) _ _ _ V (lv_sub hl [0, 1, 2, 3, 4, 5, 6] rfl)
  exact L_2 _ 0 (af3 j) (by omega) (Nat.lt_succ_self _) _ _ _ V (lv_sub hl [0, 1, 2, 3, 4] rfl)

def q_h_judgeOn (T : Nat → ClassId) (h0 : Nat) (a0 : Nat) (h1 : Nat) (qx : Int32) (qy : Int32) (ql : Nat) (h2 : Nat) (h3 : Nat) (qp : Nat → Int32) (qc : Nat → Int32) (an : Nat) (am : Int32) (al : Int32) (ao : Int32) (au : Int32) (a1 : Nat) (a2 : Nat) (a3 : Nat) (a4 : Nat) (a5 : Nat) (a6 : Nat) (a7 : Nat) (a8 : Nat) (a9 : Nat) (a10 : Nat) (af1 : Nat → Int32) (af2 : Nat → Int32) (af3 : Nat → Int32) (af4 : Nat → Int32) (af5 : Nat → Int32) (af9 : Nat → Int32) : Option Value → va_W → Prop := fun rr ww => (∃ (x1 : Int32) (x2 : Int32) (g : Nat → Int32), rr = none ∧ ww = [(h0, .inr (3, [.ref h1, .int x1, .int x2, .int (nI ql), .ref h2, .ref h3])), (h2, .inl (T 0, 10, .inl qp)), (h3, .inl (T 0, 12, .inl g)), (a0, .inr (5, [.int (nI an), .int am, .int al, .int ao, .int au, .ref a1, .ref a2, .ref a3, .ref a4, .ref a5, .ref a6, .ref a7, .ref a8, .ref a9, .ref a10])), (a1, .inl (T 0, 10, .inl af1)), (a2, .inl (T 0, 10, .inl af2)), (a3, .inl (T 0, 10, .inl af3)), (a4, .inl (T 0, 10, .inl af4)), (a5, .inl (T 0, 10, .inl af5)), (a9, .inl (T 0, 10, .inl af9))])
set_option maxHeartbeats 4000000 in
set_option maxRecDepth 100000 in
theorem h_judgeOn (l : Launch) (D : va_G) (T : Nat → ClassId) (h0 : Nat) (a0 : Nat) (h1 : Nat) (qx : Int32) (qy : Int32) (ql : Nat) (h2 : Nat) (h3 : Nat) (qp : Nat → Int32) (qc : Nat → Int32) (an : Nat) (am : Int32) (al : Int32) (ao : Int32) (au : Int32) (a1 : Nat) (a2 : Nat) (a3 : Nat) (a4 : Nat) (a5 : Nat) (a6 : Nat) (a7 : Nat) (a8 : Nat) (a9 : Nat) (a10 : Nat) (af1 : Nat → Int32) (af2 : Nat → Int32) (af3 : Nat → Int32) (af4 : Nat → Int32) (af5 : Nat → Int32) (af9 : Nat → Int32) (h_n : an ≤ 10) (h_l : 1 ≤ ql ∧ ql ≤ 12) : Ct l yX3_judgeOn cX3_judgeOn 4 none 3 0 0 D T [.ref h0, .ref a0] [(h0, .inr (3, [.ref h1, .int qx, .int qy, .int (nI ql), .ref h2, .ref h3])), (h2, .inl (T 0, 10, .inl qp)), (h3, .inl (T 0, 12, .inl qc)), (a0, .inr (5, [.int (nI an), .int am, .int al, .int ao, .int au, .ref a1, .ref a2, .ref a3, .ref a4, .ref a5, .ref a6, .ref a7, .ref a8, .ref a9, .ref a10])), (a1, .inl (T 0, 10, .inl af1)), (a2, .inl (T 0, 10, .inl af2)), (a3, .inl (T 0, 10, .inl af3)), (a4, .inl (T 0, 10, .inl af4)), (a5, .inl (T 0, 10, .inl af5)), (a9, .inl (T 0, 10, .inl af9))] (q_h_judgeOn T h0 a0 h1 qx qy ql h2 h3 qp qc an am al ao au a1 a2 a3 a4 a5 a6 a7 a8 a9 a10 af1 af2 af3 af4 af5 af9) := by
  refine Ct.of (cc := cX3_judgeOn) (maxL := 4) (ret := none) (by decide) (Nat.le_of_ble_eq_true rfl) ?_
  intro p e s m args below meth c A ls hC hnm V hl
  obtain ⟨hx, hb, hr, hml, hown, hts, hlocks⟩ := id hC
  generalize hH : s.heap = H at V ⊢
  clear hH
  have hl : lv_has ls 4 [(0, .ref h0), (1, .ref a0)] := hl
  generalize hlo : ([] : List Loc) = locs at V ⊢
  clear hlo
  refine lv_aload_n hx hb dX3_judgeOn_0 rfl (lv_at hl 0 rfl) ?_
  refine lv_iconst (v := (-1)) hx hb dX3_judgeOn_1 (by decide +kernel) ?_
  refine g_put hC V (ci := 3) uwX3 tyX3 tyX3_ok nmX3 0 rfl rfl 1 (by decide) w_185 rfl rfl rfl rfl (Nat.le_of_ble_eq_true rfl) (ws' := [(h0, .inr (3, [.ref h1, .int (-1), .int qy, .int (nI ql), .ref h2, .ref h3])), (h2, .inl (T 0, 10, .inl qp)), (h3, .inl (T 0, 12, .inl qc)), (a0, .inr (5, [.int (nI an), .int am, .int al, .int ao, .int au, .ref a1, .ref a2, .ref a3, .ref a4, .ref a5, .ref a6, .ref a7, .ref a8, .ref a9, .ref a10])), (a1, .inl (T 0, 10, .inl af1)), (a2, .inl (T 0, 10, .inl af2)), (a3, .inl (T 0, 10, .inl af3)), (a4, .inl (T 0, 10, .inl af4)), (a5, .inl (T 0, 10, .inl af5)), (a9, .inl (T 0, 10, .inl af9))]) rfl dX3_judgeOn_2 (fun H locs V => ?_)
  refine lv_aload_n hx hb dX3_judgeOn_5 rfl (lv_at hl 0 rfl) ?_
  refine lv_iconst (v := (-1)) hx hb dX3_judgeOn_6 (by decide +kernel) ?_
  refine g_put hC V (ci := 3) uwX3 tyX3 tyX3_ok nmX3 0 rfl rfl 2 (by decide) w_187 rfl rfl rfl rfl (Nat.le_of_ble_eq_true rfl) (ws' := [(h0, .inr (3, [.ref h1, .int (-1), .int (-1), .int (nI ql), .ref h2, .ref h3])), (h2, .inl (T 0, 10, .inl qp)), (h3, .inl (T 0, 12, .inl qc)), (a0, .inr (5, [.int (nI an), .int am, .int al, .int ao, .int au, .ref a1, .ref a2, .ref a3, .ref a4, .ref a5, .ref a6, .ref a7, .ref a8, .ref a9, .ref a10])), (a1, .inl (T 0, 10, .inl af1)), (a2, .inl (T 0, 10, .inl af2)), (a3, .inl (T 0, 10, .inl af3)), (a4, .inl (T 0, 10, .inl af4)), (a5, .inl (T 0, 10, .inl af5)), (a9, .inl (T 0, 10, .inl af9))]) rfl dX3_judgeOn_7 (fun H locs V => ?_)
  refine lv_iconst (v := (nI 0)) hx hb dX3_judgeOn_10 (by decide +kernel) ?_
  refine lv_istore_n (lv' := [(2, .int (nI 0)), (0, .ref h0), (1, .ref a0)]) hx hb dX3_judgeOn_11 rfl hl (by decide) rfl (fun ls hl => ?_)
  have L_1 : ∀ (fu : Nat) (k12 : Nat) (v1 : Int32) (v2 : Int32) (ga : Nat → Int32), k12 ≤ an → an - k12 < fu → ∀ (H : Heap) (locs : List Loc) (ls : Array Slot), gW D T A s [(h0, .inr (3, [.ref h1, .int v1, .int v2, .int (nI ql), .ref h2, .ref h3])), (h2, .inl (T 0, 10, .inl qp)), (h3, .inl (T 0, 12, .inl ga)), (a0, .inr (5, [.int (nI an), .int am, .int al, .int ao, .int au, .ref a1, .ref a2, .ref a3, .ref a4, .ref a5, .ref a6, .ref a7, .ref a8, .ref a9, .ref a10])), (a1, .inl (T 0, 10, .inl af1)), (a2, .inl (T 0, 10, .inl af2)), (a3, .inl (T 0, 10, .inl af3)), (a4, .inl (T 0, 10, .inl af4)), (a5, .inl (T 0, 10, .inl af5)), (a9, .inl (T 0, 10, .inl af9))] H locs → lv_has ls 4 [(2, .int (nI k12)), (0, .ref h0), (1, .ref a0)] → W p l e (rmD 3 0 0) s m args below meth c H locs 0 0 (MQ below (gQ D A (q_h_judgeOn T h0 a0 h1 qx qy ql h2 h3 qp qc an am al ao au a1 a2 a3 a4 a5 a6 a7 a8 a9 a10 af1 af2 af3 af4 af5 af9)) args s 0 0 A) (F0 m 12 ls []) := by
    intro fu_12
    induction fu_12 with
    | zero => intro k12 v1 v2 ga hk12 hmu; exact absurd hmu (Nat.not_lt_zero _)
    | succ fu_12 ih_12 =>
      intro k12 v1 v2 ga hk12 hmu_12 H locs ls V hl
      refine lv_iload_n hx hb dX3_judgeOn_12 rfl (lv_at hl 0 rfl) ?_
      refine lv_aload_n hx hb dX3_judgeOn_13 rfl (lv_at hl 2 rfl) ?_
      refine g_get hC V (ci := 5) uwX5 3 rfl rfl 0 (by decide) w_37 rfl rfl dX3_judgeOn_14 ?_
      refine lv_icmp_ge (tgt := 64) hx hb dX3_judgeOn_17 (by decide) (fun c_2 => ?_) (fun c_2 => ?_)
      · skip
        have c_2 := b_le (by omega) (by omega) c_2
        exact g_vret (Qr := (q_h_judgeOn T h0 a0 h1 qx qy ql h2 h3 qp qc an am al ao au a1 a2 a3 a4 a5 a6 a7 a8 a9 a10 af1 af2 af3 af4 af5 af9)) hC V ⟨(Nat.le_of_ble_eq_true rfl), (Nat.le_of_ble_eq_true rfl)⟩ ⟨v1, v2, ga, rfl, rfl⟩ dX3_judgeOn_64
      · skip
        have c_2 := b_nle (by omega) (by omega) c_2
        refine lv_aload_n hx hb dX3_judgeOn_20 rfl (lv_at hl 1 rfl) ?_
        refine lv_aload_n hx hb dX3_judgeOn_21 rfl (lv_at hl 2 rfl) ?_
        refine lv_iload_n hx hb dX3_judgeOn_22 rfl (lv_at hl 0 rfl) ?_
        refine g_callV (wr := []) (nA := 2) hC V hl.1 (h_breaks l D T h0 a0 k12 h1 v1 v2 ql h2 h3 qp ga an am al ao au a1 a2 a3 a4 a5 a6 a7 a8 a9 a10 af1 af2 af3 af4 af5 af9 (by first | assumption | omega) (by first | assumption | omega) (by first | assumption | omega)) w_614 w_616 w_s18 w_6 w_617 (by decide +kernel) rfl ⟨(Nat.le_of_ble_eq_true rfl), (Nat.le_of_ble_eq_true rfl)⟩ 0 (ci := 3) rfl rfl [0, 1, 2, 3, 4, 5, 6, 7, 8, 9] [] rfl rfl rfl rfl (by decide) (Nat.le_of_ble_eq_true rfl) dX3_judgeOn_23 ⟨(Nat.le_of_ble_eq_true rfl), (Nat.le_of_ble_eq_true rfl)⟩ rfl (fun r w1 H locs hQ V => ?_)
        obtain ⟨z_3, g_4, rfl, rfl⟩ := hQ
        have V : gW D T A s [(h0, .inr (3, [.ref h1, .int v1, .int v2, .int (nI ql), .ref h2, .ref h3])), (h2, .inl (T 0, 10, .inl qp)), (h3, .inl (T 0, 12, .inl g_4)), (a0, .inr (5, [.int (nI an), .int am, .int al, .int ao, .int au, .ref a1, .ref a2, .ref a3, .ref a4, .ref a5, .ref a6, .ref a7, .ref a8, .ref a9, .ref a10])), (a1, .inl (T 0, 10, .inl af1)), (a2, .inl (T 0, 10, .inl af2)), (a3, .inl (T 0, 10, .inl af3)), (a4, .inl (T 0, 10, .inl af4)), (a5, .inl (T 0, 10, .inl af5)), (a9, .inl (T 0, 10, .inl af9))] H locs := V
        show W p l e _ s m args below meth c H locs _ _ _ (F0 m 26 ls [.int z_3])
        refine lv_istore_n (lv' := [(3, .int z_3), (2, .int (nI k12)), (0, .ref h0), (1, .ref a0)]) hx hb dX3_judgeOn_26 rfl hl (by decide) rfl (fun ls hl => ?_)
        refine lv_iload_n hx hb dX3_judgeOn_27 rfl (lv_at hl 0 rfl) ?_
        refine lv_iconst (v := (-1)) hx hb dX3_judgeOn_28 (by decide +kernel) ?_
        refine lv_icmp_eq (tgt := 58) hx hb dX3_judgeOn_29 (by decide) (fun c_5 => ?_) (fun c_5 => ?_)
        · skip
          refine lv_iinc (v := (nI (k12 + 1))) (lv' := [(2, .int (nI (k12 + 1))), (3, .int z_3), (0, .ref h0), (1, .ref a0)]) hx hb dX3_judgeOn_58 hl (k := 1) rfl (nI_1 _) (by decide) rfl (fun ls hl => ?_)
          refine lv_goto (tgt := 12) hx hb dX3_judgeOn_61 (by decide) ?_
          exact ih_12 (k12 + 1) v1 v2 g_4 (by omega) (by omega) _ _ _ V (lv_sub hl [0, 2, 3] rfl)
        · skip
          refine lv_aload_n hx hb dX3_judgeOn_32 rfl (lv_at hl 2 rfl) ?_
          refine g_get hC V (ci := 3) uwX3 0 rfl rfl 1 (by decide) w_185 rfl rfl dX3_judgeOn_33 ?_
          refine lv_iconst (v := (-1)) hx hb dX3_judgeOn_36 (by decide +kernel) ?_
          refine lv_icmp_eq (tgt := 48) hx hb dX3_judgeOn_37 (by decide) (fun c_6 => ?_) (fun c_6 => ?_)
          · skip
            refine lv_aload_n hx hb dX3_judgeOn_48 rfl (lv_at hl 2 rfl) ?_
            refine lv_iload_n hx hb dX3_judgeOn_49 rfl (lv_at hl 0 rfl) ?_
            refine g_put hC V (ci := 3) uwX3 tyX3 tyX3_ok nmX3 0 rfl rfl 1 (by decide) w_185 rfl rfl rfl rfl (Nat.le_of_ble_eq_true rfl) (ws' := [(h0, .inr (3, [.ref h1, .int z_3, .int v2, .int (nI ql), .ref h2, .ref h3])), (h2, .inl (T 0, 10, .inl qp)), (h3, .inl (T 0, 12, .inl g_4)), (a0, .inr (5, [.int (nI an), .int am, .int al, .int ao, .int au, .ref a1, .ref a2, .ref a3, .ref a4, .ref a5, .ref a6, .ref a7, .ref a8, .ref a9, .ref a10])), (a1, .inl (T 0, 10, .inl af1)), (a2, .inl (T 0, 10, .inl af2)), (a3, .inl (T 0, 10, .inl af3)), (a4, .inl (T 0, 10, .inl af4)), (a5, .inl (T 0, 10, .inl af5)), (a9, .inl (T 0, 10, .inl af9))]) rfl dX3_judgeOn_50 (fun H locs V => ?_)
            refine lv_aload_n hx hb dX3_judgeOn_53 rfl (lv_at hl 2 rfl) ?_
            refine lv_iload_n hx hb dX3_judgeOn_54 rfl (lv_at hl 1 rfl) ?_
            refine g_put hC V (ci := 3) uwX3 tyX3 tyX3_ok nmX3 0 rfl rfl 2 (by decide) w_187 rfl rfl rfl rfl (Nat.le_of_ble_eq_true rfl) (ws' := [(h0, .inr (3, [.ref h1, .int z_3, .int (nI k12), .int (nI ql), .ref h2, .ref h3])), (h2, .inl (T 0, 10, .inl qp)), (h3, .inl (T 0, 12, .inl g_4)), (a0, .inr (5, [.int (nI an), .int am, .int al, .int ao, .int au, .ref a1, .ref a2, .ref a3, .ref a4, .ref a5, .ref a6, .ref a7, .ref a8, .ref a9, .ref a10])), (a1, .inl (T 0, 10, .inl af1)), (a2, .inl (T 0, 10, .inl af2)), (a3, .inl (T 0, 10, .inl af3)), (a4, .inl (T 0, 10, .inl af4)), (a5, .inl (T 0, 10, .inl af5)), (a9, .inl (T 0, 10, .inl af9))]) rfl dX3_judgeOn_55 (fun H locs V => ?_)
            refine lv_iinc (v := (nI (k12 + 1))) (lv' := [(2, .int (nI (k12 + 1))), (3, .int z_3), (0, .ref h0), (1, .ref a0)]) hx hb dX3_judgeOn_58 hl (k := 1) rfl (nI_1 _) (by decide) rfl (fun ls hl => ?_)
            refine lv_goto (tgt := 12) hx hb dX3_judgeOn_61 (by decide) ?_
            exact ih_12 (k12 + 1) z_3 (nI k12) g_4 (by omega) (by omega) _ _ _ V (lv_sub hl [0, 2, 3] rfl)
          · skip
            refine lv_iload_n hx hb dX3_judgeOn_40 rfl (lv_at hl 0 rfl) ?_
            refine lv_aload_n hx hb dX3_judgeOn_41 rfl (lv_at hl 2 rfl) ?_
            refine g_get hC V (ci := 3) uwX3 0 rfl rfl 1 (by decide) w_185 rfl rfl dX3_judgeOn_42 ?_
            refine lv_icmp_ge (tgt := 58) hx hb dX3_judgeOn_45 (by decide) (fun c_7 => ?_) (fun c_7 => ?_)
            · skip
              refine lv_iinc (v := (nI (k12 + 1))) (lv' := [(2, .int (nI (k12 + 1))), (3, .int z_3), (0, .ref h0), (1, .ref a0)]) hx hb dX3_judgeOn_58 hl (k := 1) rfl (nI_1 _) (by decide) rfl (fun ls hl => ?_)
              refine lv_goto (tgt := 12) hx hb dX3_judgeOn_61 (by decide) ?_
              exact ih_12 (k12 + 1) v1 v2 g_4 (by omega) (by omega) _ _ _ V (lv_sub hl [0, 2, 3] rfl)
            · skip
              refine lv_aload_n hx hb dX3_judgeOn_48 rfl (lv_at hl 2 rfl) ?_
              refine lv_iload_n hx hb dX3_judgeOn_49 rfl (lv_at hl 0 rfl) ?_
              refine g_put hC V (ci := 3) uwX3 tyX3 tyX3_ok nmX3 0 rfl rfl 1 (by decide) w_185 rfl rfl rfl rfl (Nat.le_of_ble_eq_true rfl) (ws' := [(h0, .inr (3, [.ref h1, .int z_3, .int v2, .int (nI ql), .ref h2, .ref h3])), (h2, .inl (T 0, 10, .inl qp)), (h3, .inl (T 0, 12, .inl g_4)), (a0, .inr (5, [.int (nI an), .int am, .int al, .int ao, .int au, .ref a1, .ref a2, .ref a3, .ref a4, .ref a5, .ref a6, .ref a7, .ref a8, .ref a9, .ref a10])), (a1, .inl (T 0, 10, .inl af1)), (a2, .inl (T 0, 10, .inl af2)), (a3, .inl (T 0, 10, .inl af3)), (a4, .inl (T 0, 10, .inl af4)), (a5, .inl (T 0, 10, .inl af5)), (a9, .inl (T 0, 10, .inl af9))]) rfl dX3_judgeOn_50 (fun H locs V => ?_)
              refine lv_aload_n hx hb dX3_judgeOn_53 rfl (lv_at hl 2 rfl) ?_
              refine lv_iload_n hx hb dX3_judgeOn_54 rfl (lv_at hl 1 rfl) ?_
              refine g_put hC V (ci := 3) uwX3 tyX3 tyX3_ok nmX3 0 rfl rfl 2 (by decide) w_187 rfl rfl rfl rfl (Nat.le_of_ble_eq_true rfl) (ws' := [(h0, .inr (3, [.ref h1, .int z_3, .int (nI k12), .int (nI ql), .ref h2, .ref h3])), (h2, .inl (T 0, 10, .inl qp)), (h3, .inl (T 0, 12, .inl g_4)), (a0, .inr (5, [.int (nI an), .int am, .int al, .int ao, .int au, .ref a1, .ref a2, .ref a3, .ref a4, .ref a5, .ref a6, .ref a7, .ref a8, .ref a9, .ref a10])), (a1, .inl (T 0, 10, .inl af1)), (a2, .inl (T 0, 10, .inl af2)), (a3, .inl (T 0, 10, .inl af3)), (a4, .inl (T 0, 10, .inl af4)), (a5, .inl (T 0, 10, .inl af5)), (a9, .inl (T 0, 10, .inl af9))]) rfl dX3_judgeOn_55 (fun H locs V => ?_)
              refine lv_iinc (v := (nI (k12 + 1))) (lv' := [(2, .int (nI (k12 + 1))), (3, .int z_3), (0, .ref h0), (1, .ref a0)]) hx hb dX3_judgeOn_58 hl (k := 1) rfl (nI_1 _) (by decide) rfl (fun ls hl => ?_)
              refine lv_goto (tgt := 12) hx hb dX3_judgeOn_61 (by decide) ?_
              exact ih_12 (k12 + 1) z_3 (nI k12) g_4 (by omega) (by omega) _ _ _ V (lv_sub hl [0, 2, 3] rfl)
  exact L_1 _ 0 (-1) (-1) qc (by omega) (Nat.lt_succ_self _) _ _ _ V (lv_sub hl [0, 1, 2] rfl)

def q_h_holdAll (T : Nat → ClassId) (h0 : Nat) (a0 : Nat) (h1 : Nat) (qx : Int32) (qy : Int32) (ql : Nat) (h2 : Nat) (h3 : Nat) (qp : Nat → Int32) (qc : Nat → Int32) (an : Nat) (am : Int32) (al : Int32) (ao : Int32) (au : Int32) (a1 : Nat) (a2 : Nat) (a3 : Nat) (a4 : Nat) (a5 : Nat) (a6 : Nat) (a7 : Nat) (a8 : Nat) (a9 : Nat) (a10 : Nat) (af1 : Nat → Int32) (af2 : Nat → Int32) (af3 : Nat → Int32) (af4 : Nat → Int32) (af5 : Nat → Int32) (af9 : Nat → Int32) : Option Value → va_W → Prop := fun rr ww => (∃ (g : Nat → Int32), rr = some (.int (nI 1)) ∧ ww = [(h0, .inr (3, [.ref h1, .int qx, .int qy, .int (nI ql), .ref h2, .ref h3])), (h2, .inl (T 0, 10, .inl qp)), (h3, .inl (T 0, 12, .inl g)), (a0, .inr (5, [.int (nI an), .int am, .int al, .int ao, .int au, .ref a1, .ref a2, .ref a3, .ref a4, .ref a5, .ref a6, .ref a7, .ref a8, .ref a9, .ref a10])), (a1, .inl (T 0, 10, .inl af1)), (a2, .inl (T 0, 10, .inl af2)), (a3, .inl (T 0, 10, .inl af3)), (a4, .inl (T 0, 10, .inl af4)), (a5, .inl (T 0, 10, .inl af5)), (a9, .inl (T 0, 10, .inl af9))]) ∨ (∃ (g : Nat → Int32), rr = some (.int (nI 0)) ∧ ww = [(h0, .inr (3, [.ref h1, .int qx, .int qy, .int (nI ql), .ref h2, .ref h3])), (h2, .inl (T 0, 10, .inl qp)), (h3, .inl (T 0, 12, .inl g)), (a0, .inr (5, [.int (nI an), .int am, .int al, .int ao, .int au, .ref a1, .ref a2, .ref a3, .ref a4, .ref a5, .ref a6, .ref a7, .ref a8, .ref a9, .ref a10])), (a1, .inl (T 0, 10, .inl af1)), (a2, .inl (T 0, 10, .inl af2)), (a3, .inl (T 0, 10, .inl af3)), (a4, .inl (T 0, 10, .inl af4)), (a5, .inl (T 0, 10, .inl af5)), (a9, .inl (T 0, 10, .inl af9))])
set_option maxHeartbeats 4000000 in
set_option maxRecDepth 100000 in
theorem h_holdAll (l : Launch) (D : va_G) (T : Nat → ClassId) (h0 : Nat) (a0 : Nat) (h1 : Nat) (qx : Int32) (qy : Int32) (ql : Nat) (h2 : Nat) (h3 : Nat) (qp : Nat → Int32) (qc : Nat → Int32) (an : Nat) (am : Int32) (al : Int32) (ao : Int32) (au : Int32) (a1 : Nat) (a2 : Nat) (a3 : Nat) (a4 : Nat) (a5 : Nat) (a6 : Nat) (a7 : Nat) (a8 : Nat) (a9 : Nat) (a10 : Nat) (af1 : Nat → Int32) (af2 : Nat → Int32) (af3 : Nat → Int32) (af4 : Nat → Int32) (af5 : Nat → Int32) (af9 : Nat → Int32) (h_n : an ≤ 10) (h_l : 1 ≤ ql ∧ ql ≤ 12) : Ct l yX3_holdAll cX3_holdAll 3 (some .boolean) 3 0 0 D T [.ref h0, .ref a0] [(h0, .inr (3, [.ref h1, .int qx, .int qy, .int (nI ql), .ref h2, .ref h3])), (h2, .inl (T 0, 10, .inl qp)), (h3, .inl (T 0, 12, .inl qc)), (a0, .inr (5, [.int (nI an), .int am, .int al, .int ao, .int au, .ref a1, .ref a2, .ref a3, .ref a4, .ref a5, .ref a6, .ref a7, .ref a8, .ref a9, .ref a10])), (a1, .inl (T 0, 10, .inl af1)), (a2, .inl (T 0, 10, .inl af2)), (a3, .inl (T 0, 10, .inl af3)), (a4, .inl (T 0, 10, .inl af4)), (a5, .inl (T 0, 10, .inl af5)), (a9, .inl (T 0, 10, .inl af9))] (q_h_holdAll T h0 a0 h1 qx qy ql h2 h3 qp qc an am al ao au a1 a2 a3 a4 a5 a6 a7 a8 a9 a10 af1 af2 af3 af4 af5 af9) := by
  refine Ct.of (cc := cX3_holdAll) (maxL := 3) (ret := (some .boolean)) (by decide) (Nat.le_of_ble_eq_true rfl) ?_
  intro p e s m args below meth c A ls hC hnm V hl
  obtain ⟨hx, hb, hr, hml, hown, hts, hlocks⟩ := id hC
  generalize hH : s.heap = H at V ⊢
  clear hH
  have hl : lv_has ls 3 [(0, .ref h0), (1, .ref a0)] := hl
  generalize hlo : ([] : List Loc) = locs at V ⊢
  clear hlo
  refine lv_iconst (v := (nI 0)) hx hb dX3_holdAll_0 (by decide +kernel) ?_
  refine lv_istore_n (lv' := [(2, .int (nI 0)), (0, .ref h0), (1, .ref a0)]) hx hb dX3_holdAll_1 rfl hl (by decide) rfl (fun ls hl => ?_)
  have L_1 : ∀ (fu : Nat) (k2 : Nat) (ga : Nat → Int32), k2 ≤ an → an - k2 < fu → ∀ (H : Heap) (locs : List Loc) (ls : Array Slot), gW D T A s [(h0, .inr (3, [.ref h1, .int qx, .int qy, .int (nI ql), .ref h2, .ref h3])), (h2, .inl (T 0, 10, .inl qp)), (h3, .inl (T 0, 12, .inl ga)), (a0, .inr (5, [.int (nI an), .int am, .int al, .int ao, .int au, .ref a1, .ref a2, .ref a3, .ref a4, .ref a5, .ref a6, .ref a7, .ref a8, .ref a9, .ref a10])), (a1, .inl (T 0, 10, .inl af1)), (a2, .inl (T 0, 10, .inl af2)), (a3, .inl (T 0, 10, .inl af3)), (a4, .inl (T 0, 10, .inl af4)), (a5, .inl (T 0, 10, .inl af5)), (a9, .inl (T 0, 10, .inl af9))] H locs → lv_has ls 3 [(2, .int (nI k2)), (0, .ref h0), (1, .ref a0)] → W p l e (rmD 3 0 0) s m args below meth c H locs 0 0 (MQ below (gQ D A (q_h_holdAll T h0 a0 h1 qx qy ql h2 h3 qp qc an am al ao au a1 a2 a3 a4 a5 a6 a7 a8 a9 a10 af1 af2 af3 af4 af5 af9)) args s 0 0 A) (F0 m 2 ls []) := by
    intro fu_2
    induction fu_2 with
    | zero => intro k2 ga hk2 hmu; exact absurd hmu (Nat.not_lt_zero _)
    | succ fu_2 ih_2 =>
      intro k2 ga hk2 hmu_2 H locs ls V hl
      refine lv_iload_n hx hb dX3_holdAll_2 rfl (lv_at hl 0 rfl) ?_
      refine lv_aload_n hx hb dX3_holdAll_3 rfl (lv_at hl 2 rfl) ?_
      refine g_get hC V (ci := 5) uwX5 3 rfl rfl 0 (by decide) w_37 rfl rfl dX3_holdAll_4 ?_
      refine lv_icmp_ge (tgt := 28) hx hb dX3_holdAll_7 (by decide) (fun c_2 => ?_) (fun c_2 => ?_)
      · skip
        have c_2 := b_le (by omega) (by omega) c_2
        refine lv_iconst (v := (nI 1)) hx hb dX3_holdAll_28 (by decide +kernel) ?_
        exact g_zret (Qr := (q_h_holdAll T h0 a0 h1 qx qy ql h2 h3 qp qc an am al ao au a1 a2 a3 a4 a5 a6 a7 a8 a9 a10 af1 af2 af3 af4 af5 af9)) hC V ⟨(Nat.le_of_ble_eq_true rfl), (Nat.le_of_ble_eq_true rfl)⟩ (by first | decide +kernel | exact rfl) (.inl ⟨ga, rfl, rfl⟩) dX3_holdAll_29
      · skip
        have c_2 := b_nle (by omega) (by omega) c_2
        refine lv_aload_n hx hb dX3_holdAll_10 rfl (lv_at hl 1 rfl) ?_
        refine lv_aload_n hx hb dX3_holdAll_11 rfl (lv_at hl 2 rfl) ?_
        refine lv_iload_n hx hb dX3_holdAll_12 rfl (lv_at hl 0 rfl) ?_
        refine g_callV (wr := []) (nA := 2) hC V hl.1 (h_breaks l D T h0 a0 k2 h1 qx qy ql h2 h3 qp ga an am al ao au a1 a2 a3 a4 a5 a6 a7 a8 a9 a10 af1 af2 af3 af4 af5 af9 (by first | assumption | omega) (by first | assumption | omega) (by first | assumption | omega)) w_614 w_616 w_s18 w_6 w_617 (by decide +kernel) rfl ⟨(Nat.le_of_ble_eq_true rfl), (Nat.le_of_ble_eq_true rfl)⟩ 0 (ci := 3) rfl rfl [0, 1, 2, 3, 4, 5, 6, 7, 8, 9] [] rfl rfl rfl rfl (by decide) (Nat.le_of_ble_eq_true rfl) dX3_holdAll_13 ⟨(Nat.le_of_ble_eq_true rfl), (Nat.le_of_ble_eq_true rfl)⟩ rfl (fun r w1 H locs hQ V => ?_)
        obtain ⟨z_3, g_4, rfl, rfl⟩ := hQ
        have V : gW D T A s [(h0, .inr (3, [.ref h1, .int qx, .int qy, .int (nI ql), .ref h2, .ref h3])), (h2, .inl (T 0, 10, .inl qp)), (h3, .inl (T 0, 12, .inl g_4)), (a0, .inr (5, [.int (nI an), .int am, .int al, .int ao, .int au, .ref a1, .ref a2, .ref a3, .ref a4, .ref a5, .ref a6, .ref a7, .ref a8, .ref a9, .ref a10])), (a1, .inl (T 0, 10, .inl af1)), (a2, .inl (T 0, 10, .inl af2)), (a3, .inl (T 0, 10, .inl af3)), (a4, .inl (T 0, 10, .inl af4)), (a5, .inl (T 0, 10, .inl af5)), (a9, .inl (T 0, 10, .inl af9))] H locs := V
        show W p l e _ s m args below meth c H locs _ _ _ (F0 m 16 ls [.int z_3])
        refine lv_iconst (v := (-1)) hx hb dX3_holdAll_16 (by decide +kernel) ?_
        refine lv_icmp_eq (tgt := 22) hx hb dX3_holdAll_17 (by decide) (fun c_5 => ?_) (fun c_5 => ?_)
        · skip
          refine lv_iinc (v := (nI (k2 + 1))) (lv' := [(2, .int (nI (k2 + 1))), (0, .ref h0), (1, .ref a0)]) hx hb dX3_holdAll_22 hl (k := 0) rfl (nI_1 _) (by decide) rfl (fun ls hl => ?_)
          refine lv_goto (tgt := 2) hx hb dX3_holdAll_25 (by decide) ?_
          exact ih_2 (k2 + 1) g_4 (by omega) (by omega) _ _ _ V (lv_sub hl [0, 1, 2] rfl)
        · skip
          refine lv_iconst (v := (nI 0)) hx hb dX3_holdAll_20 (by decide +kernel) ?_
          exact g_zret (Qr := (q_h_holdAll T h0 a0 h1 qx qy ql h2 h3 qp qc an am al ao au a1 a2 a3 a4 a5 a6 a7 a8 a9 a10 af1 af2 af3 af4 af5 af9)) hC V ⟨(Nat.le_of_ble_eq_true rfl), (Nat.le_of_ble_eq_true rfl)⟩ (by first | decide +kernel | exact rfl) (.inr ⟨g_4, rfl, rfl⟩) dX3_holdAll_21
  exact L_1 _ 0 qc (by omega) (Nat.lt_succ_self _) _ _ _ V (lv_sub hl [0, 1, 2] rfl)

def q_h_evenOnes (T : Nat → ClassId) (h0 : Nat) (a0 : Nat) (h1 : Nat) (qx : Int32) (qy : Int32) (ql : Nat) (h2 : Nat) (h3 : Nat) (qp : Nat → Int32) (qc : Nat → Int32) (an : Nat) (am : Int32) (al : Int32) (ao : Int32) (au : Int32) (a1 : Nat) (a2 : Nat) (a3 : Nat) (a4 : Nat) (a5 : Nat) (a6 : Nat) (a7 : Nat) (a8 : Nat) (a9 : Nat) (a10 : Nat) (af1 : Nat → Int32) (af2 : Nat → Int32) (af9 : Nat → Int32) : Option Value → va_W → Prop := fun rr ww => (∃ (z : Int32) (g : Nat → Int32), rr = some (.int z) ∧ ww = [(h0, .inr (3, [.ref h1, .int qx, .int qy, .int (nI ql), .ref h2, .ref h3])), (h2, .inl (T 0, 10, .inl qp)), (h3, .inl (T 0, 12, .inl g)), (a0, .inr (5, [.int (nI an), .int am, .int al, .int ao, .int au, .ref a1, .ref a2, .ref a3, .ref a4, .ref a5, .ref a6, .ref a7, .ref a8, .ref a9, .ref a10])), (a1, .inl (T 0, 10, .inl af1)), (a2, .inl (T 0, 10, .inl af2)), (a9, .inl (T 0, 10, .inl af9))])
set_option maxHeartbeats 4000000 in
set_option maxRecDepth 100000 in
theorem h_evenOnes (l : Launch) (D : va_G) (T : Nat → ClassId) (h0 : Nat) (a0 : Nat) (h1 : Nat) (qx : Int32) (qy : Int32) (ql : Nat) (h2 : Nat) (h3 : Nat) (qp : Nat → Int32) (qc : Nat → Int32) (an : Nat) (am : Int32) (al : Int32) (ao : Int32) (au : Int32) (a1 : Nat) (a2 : Nat) (a3 : Nat) (a4 : Nat) (a5 : Nat) (a6 : Nat) (a7 : Nat) (a8 : Nat) (a9 : Nat) (a10 : Nat) (af1 : Nat → Int32) (af2 : Nat → Int32) (af9 : Nat → Int32) (h_n : an ≤ 10) (h_l : 1 ≤ ql ∧ ql ≤ 12) : Ct l yX3_evenOnes cX3_evenOnes 6 (some .int) 2 0 0 D T [.ref h0, .ref a0] [(h0, .inr (3, [.ref h1, .int qx, .int qy, .int (nI ql), .ref h2, .ref h3])), (h2, .inl (T 0, 10, .inl qp)), (h3, .inl (T 0, 12, .inl qc)), (a0, .inr (5, [.int (nI an), .int am, .int al, .int ao, .int au, .ref a1, .ref a2, .ref a3, .ref a4, .ref a5, .ref a6, .ref a7, .ref a8, .ref a9, .ref a10])), (a1, .inl (T 0, 10, .inl af1)), (a2, .inl (T 0, 10, .inl af2)), (a9, .inl (T 0, 10, .inl af9))] (q_h_evenOnes T h0 a0 h1 qx qy ql h2 h3 qp qc an am al ao au a1 a2 a3 a4 a5 a6 a7 a8 a9 a10 af1 af2 af9) := by
  refine Ct.of (cc := cX3_evenOnes) (maxL := 6) (ret := (some .int)) (by decide) (Nat.le_of_ble_eq_true rfl) ?_
  intro p e s m args below meth c A ls hC hnm V hl
  obtain ⟨hx, hb, hr, hml, hown, hts, hlocks⟩ := id hC
  generalize hH : s.heap = H at V ⊢
  clear hH
  have hl : lv_has ls 6 [(0, .ref h0), (1, .ref a0)] := hl
  generalize hlo : ([] : List Loc) = locs at V ⊢
  clear hlo
  refine lv_iconst (v := (nI 0)) hx hb dX3_evenOnes_0 (by decide +kernel) ?_
  refine lv_istore_n (lv' := [(2, .int (nI 0)), (0, .ref h0), (1, .ref a0)]) hx hb dX3_evenOnes_1 rfl hl (by decide) rfl (fun ls hl => ?_)
  refine lv_iconst (v := (nI 0)) hx hb dX3_evenOnes_2 (by decide +kernel) ?_
  refine lv_istore_n (lv' := [(3, .int (nI 0)), (2, .int (nI 0)), (0, .ref h0), (1, .ref a0)]) hx hb dX3_evenOnes_3 rfl hl (by decide) rfl (fun ls hl => ?_)
  have L_1 : ∀ (fu : Nat) (k4 : Nat) (x4_2 : Int32) (ga : Nat → Int32), k4 ≤ an → an - k4 < fu → ∀ (H : Heap) (locs : List Loc) (ls : Array Slot), gW D T A s [(h0, .inr (3, [.ref h1, .int qx, .int qy, .int (nI ql), .ref h2, .ref h3])), (h2, .inl (T 0, 10, .inl qp)), (h3, .inl (T 0, 12, .inl ga)), (a0, .inr (5, [.int (nI an), .int am, .int al, .int ao, .int au, .ref a1, .ref a2, .ref a3, .ref a4, .ref a5, .ref a6, .ref a7, .ref a8, .ref a9, .ref a10])), (a1, .inl (T 0, 10, .inl af1)), (a2, .inl (T 0, 10, .inl af2)), (a9, .inl (T 0, 10, .inl af9))] H locs → lv_has ls 6 [(3, .int (nI k4)), (2, .int x4_2), (0, .ref h0), (1, .ref a0)] → W p l e (rmD 2 0 0) s m args below meth c H locs 0 0 (MQ below (gQ D A (q_h_evenOnes T h0 a0 h1 qx qy ql h2 h3 qp qc an am al ao au a1 a2 a3 a4 a5 a6 a7 a8 a9 a10 af1 af2 af9)) args s 0 0 A) (F0 m 4 ls []) := by
    intro fu_4
    induction fu_4 with
    | zero => intro k4 x4_2 ga hk4 hmu; exact absurd hmu (Nat.not_lt_zero _)
    | succ fu_4 ih_4 =>
      intro k4 x4_2 ga hk4 hmu_4 H locs ls V hl
      refine lv_iload_n hx hb dX3_evenOnes_4 rfl (lv_at hl 0 rfl) ?_
      refine lv_aload_n hx hb dX3_evenOnes_5 rfl (lv_at hl 3 rfl) ?_
      refine g_get hC V (ci := 5) uwX5 3 rfl rfl 0 (by decide) w_37 rfl rfl dX3_evenOnes_6 ?_
      refine lv_icmp_ge (tgt := 72) hx hb dX3_evenOnes_9 (by decide) (fun c_2 => ?_) (fun c_2 => ?_)
      · skip
        have c_2 := b_le (by omega) (by omega) c_2
        refine lv_iload_n hx hb dX3_evenOnes_72 rfl (lv_at hl 1 rfl) ?_
        exact g_iret (Qr := (q_h_evenOnes T h0 a0 h1 qx qy ql h2 h3 qp qc an am al ao au a1 a2 a3 a4 a5 a6 a7 a8 a9 a10 af1 af2 af9)) hC V ⟨(Nat.le_of_ble_eq_true rfl), (Nat.le_of_ble_eq_true rfl)⟩ ⟨x4_2, ga, rfl, rfl⟩ dX3_evenOnes_73
      · skip
        have c_2 := b_nle (by omega) (by omega) c_2
        refine lv_aload_n hx hb dX3_evenOnes_12 rfl (lv_at hl 2 rfl) ?_
        refine lv_aload_n hx hb dX3_evenOnes_13 rfl (lv_at hl 3 rfl) ?_
        refine lv_iload_n hx hb dX3_evenOnes_14 rfl (lv_at hl 0 rfl) ?_
        refine g_callV (wr := []) (nA := 2) hC V hl.1 (h_weigh l D T h0 a0 k4 h1 qx qy ql h2 h3 qp ga an am al ao au a1 a2 a3 a4 a5 a6 a7 a8 a9 a10 af1 af2 af9 (by first | assumption | omega) (by first | assumption | omega) (by first | assumption | omega)) w_618 w_620 w_s19 w_6 w_621 (by decide +kernel) rfl ⟨(Nat.le_of_ble_eq_true rfl), (Nat.le_of_ble_eq_true rfl)⟩ 0 (ci := 3) rfl rfl [0, 1, 2, 3, 4, 5, 6] [] rfl rfl rfl rfl (by decide) (Nat.le_of_ble_eq_true rfl) dX3_evenOnes_15 ⟨(Nat.le_of_ble_eq_true rfl), (Nat.le_of_ble_eq_true rfl)⟩ rfl (fun r w1 H locs hQ V => ?_)
        obtain ⟨g_3, rfl, rfl⟩ := hQ
        have V : gW D T A s [(h0, .inr (3, [.ref h1, .int qx, .int qy, .int (nI ql), .ref h2, .ref h3])), (h2, .inl (T 0, 10, .inl qp)), (h3, .inl (T 0, 12, .inl g_3)), (a0, .inr (5, [.int (nI an), .int am, .int al, .int ao, .int au, .ref a1, .ref a2, .ref a3, .ref a4, .ref a5, .ref a6, .ref a7, .ref a8, .ref a9, .ref a10])), (a1, .inl (T 0, 10, .inl af1)), (a2, .inl (T 0, 10, .inl af2)), (a9, .inl (T 0, 10, .inl af9))] H locs := V
        show W p l e _ s m args below meth c H locs _ _ _ (F0 m 18 ls [])
        refine lv_iconst (v := (nI 0)) hx hb dX3_evenOnes_18 (by decide +kernel) ?_
        refine lv_istore (lv' := [(4, .int (nI 0)), (3, .int (nI k4)), (2, .int x4_2), (0, .ref h0), (1, .ref a0)]) hx hb dX3_evenOnes_19 hl (by decide) rfl (fun ls hl => ?_)
        refine lv_iconst (v := (nI 0)) hx hb dX3_evenOnes_21 (by decide +kernel) ?_
        refine lv_istore (lv' := [(5, .int (nI 0)), (4, .int (nI 0)), (3, .int (nI k4)), (2, .int x4_2), (0, .ref h0), (1, .ref a0)]) hx hb dX3_evenOnes_22 hl (by decide) rfl (fun ls hl => ?_)
        have L_4 : ∀ (fu : Nat) (k24 : Nat) (x24_4 : Int32), k24 ≤ ql → ql - k24 < fu → ∀ (H : Heap) (locs : List Loc) (ls : Array Slot), gW D T A s [(h0, .inr (3, [.ref h1, .int qx, .int qy, .int (nI ql), .ref h2, .ref h3])), (h2, .inl (T 0, 10, .inl qp)), (h3, .inl (T 0, 12, .inl g_3)), (a0, .inr (5, [.int (nI an), .int am, .int al, .int ao, .int au, .ref a1, .ref a2, .ref a3, .ref a4, .ref a5, .ref a6, .ref a7, .ref a8, .ref a9, .ref a10])), (a1, .inl (T 0, 10, .inl af1)), (a2, .inl (T 0, 10, .inl af2)), (a9, .inl (T 0, 10, .inl af9))] H locs → lv_has ls 6 [(5, .int (nI k24)), (4, .int x24_4), (3, .int (nI k4)), (2, .int x4_2), (0, .ref h0), (1, .ref a0)] → W p l e (rmD 2 0 0) s m args below meth c H locs 0 0 (MQ below (gQ D A (q_h_evenOnes T h0 a0 h1 qx qy ql h2 h3 qp qc an am al ao au a1 a2 a3 a4 a5 a6 a7 a8 a9 a10 af1 af2 af9)) args s 0 0 A) (F0 m 24 ls []) := by
          intro fu_24
          induction fu_24 with
          | zero => intro k24 x24_4 hk24 hmu; exact absurd hmu (Nat.not_lt_zero _)
          | succ fu_24 ih_24 =>
            intro k24 x24_4 hk24 hmu_24 H locs ls V hl
            refine lv_iload hx hb dX3_evenOnes_24 (lv_at hl 0 rfl) ?_
            refine lv_aload_n hx hb dX3_evenOnes_26 rfl (lv_at hl 4 rfl) ?_
            refine g_get hC V (ci := 3) uwX3 0 rfl rfl 3 (by decide) w_189 rfl rfl dX3_evenOnes_27 ?_
            refine lv_icmp_ge (tgt := 51) hx hb dX3_evenOnes_30 (by decide) (fun c_5 => ?_) (fun c_5 => ?_)
            · skip
              have c_5 := b_le (by omega) (by omega) c_5
              refine lv_iload_n hx hb dX3_evenOnes_51 rfl (lv_at hl 3 rfl) ?_
              refine lv_iload hx hb dX3_evenOnes_52 (lv_at hl 1 rfl) ?_
              refine lv_if_ne (tgt := 63) hx hb dX3_evenOnes_54 (by decide) (fun c_6 => ?_) (fun c_6 => ?_)
              · skip
                refine lv_iconst (v := (nI 0)) hx hb dX3_evenOnes_63 (by decide +kernel) ?_
                refine lv_ior hx hb dX3_evenOnes_64 ?_
                refine lv_istore_n (lv' := [(2, .int (x4_2 ||| (nI 0))), (5, .int (nI k24)), (4, .int x24_4), (3, .int (nI k4)), (0, .ref h0), (1, .ref a0)]) hx hb dX3_evenOnes_65 rfl hl (by decide) rfl (fun ls hl => ?_)
                refine lv_iinc (v := (nI (k4 + 1))) (lv' := [(3, .int (nI (k4 + 1))), (2, .int (x4_2 ||| (nI 0))), (5, .int (nI k24)), (4, .int x24_4), (0, .ref h0), (1, .ref a0)]) hx hb dX3_evenOnes_66 hl (k := 3) rfl (nI_1 _) (by decide) rfl (fun ls hl => ?_)
                refine lv_goto (tgt := 4) hx hb dX3_evenOnes_69 (by decide) ?_
                exact ih_4 (k4 + 1) (x4_2 ||| (nI 0)) g_3 (by omega) (by omega) _ _ _ V (lv_sub hl [0, 1, 4, 5] rfl)
              · skip
                refine lv_iconst (v := (nI 1)) hx hb dX3_evenOnes_57 (by decide +kernel) ?_
                refine lv_iload_n hx hb dX3_evenOnes_58 rfl (lv_at hl 2 rfl) ?_
                refine lv_ishl hx hb dX3_evenOnes_59 ?_
                refine lv_goto (tgt := 64) hx hb dX3_evenOnes_60 (by decide) ?_
                refine lv_ior hx hb dX3_evenOnes_64 ?_
                refine lv_istore_n (lv' := [(2, .int (x4_2 ||| ((nI 1) <<< ((nI k4) &&& 31)))), (5, .int (nI k24)), (4, .int x24_4), (3, .int (nI k4)), (0, .ref h0), (1, .ref a0)]) hx hb dX3_evenOnes_65 rfl hl (by decide) rfl (fun ls hl => ?_)
                refine lv_iinc (v := (nI (k4 + 1))) (lv' := [(3, .int (nI (k4 + 1))), (2, .int (x4_2 ||| ((nI 1) <<< ((nI k4) &&& 31)))), (5, .int (nI k24)), (4, .int x24_4), (0, .ref h0), (1, .ref a0)]) hx hb dX3_evenOnes_66 hl (k := 3) rfl (nI_1 _) (by decide) rfl (fun ls hl => ?_)
                refine lv_goto (tgt := 4) hx hb dX3_evenOnes_69 (by decide) ?_
                exact ih_4 (k4 + 1) (x4_2 ||| ((nI 1) <<< ((nI k4) &&& 31))) g_3 (by omega) (by omega) _ _ _ V (lv_sub hl [0, 1, 4, 5] rfl)
            · skip
              have c_5 := b_nle (by omega) (by omega) c_5
              refine lv_iload hx hb dX3_evenOnes_33 (lv_at hl 1 rfl) ?_
              refine lv_aload_n hx hb dX3_evenOnes_35 rfl (lv_at hl 4 rfl) ?_
              refine g_get hC V (ci := 3) uwX3 0 rfl rfl 5 (by decide) w_191 rfl rfl dX3_evenOnes_36 ?_
              refine lv_iload hx hb dX3_evenOnes_39 (lv_at hl 0 rfl) ?_
              refine g_iald hC V 2 rfl (vp_in_nI (by omega) (by omega)) (v := (g_3 k24)) (congrArg _ (nI_clamp (by omega))) dX3_evenOnes_41 ?_
              refine lv_iadd hx hb dX3_evenOnes_42 ?_
              refine lv_istore (lv' := [(4, .int (x24_4 + (g_3 k24))), (5, .int (nI k24)), (3, .int (nI k4)), (2, .int x4_2), (0, .ref h0), (1, .ref a0)]) hx hb dX3_evenOnes_43 hl (by decide) rfl (fun ls hl => ?_)
              refine lv_iinc (v := (nI (k24 + 1))) (lv' := [(5, .int (nI (k24 + 1))), (4, .int (x24_4 + (g_3 k24))), (3, .int (nI k4)), (2, .int x4_2), (0, .ref h0), (1, .ref a0)]) hx hb dX3_evenOnes_45 hl (k := 1) rfl (nI_1 _) (by decide) rfl (fun ls hl => ?_)
              refine lv_goto (tgt := 24) hx hb dX3_evenOnes_48 (by decide) ?_
              exact ih_24 (k24 + 1) (x24_4 + (g_3 k24)) (by omega) (by omega) _ _ _ V (lv_sub hl [0, 1, 2, 3, 4, 5] rfl)
        exact L_4 _ 0 (nI 0) (by omega) (Nat.lt_succ_self _) _ _ _ V (lv_sub hl [0, 1, 2, 3, 4, 5] rfl)
  exact L_1 _ 0 (nI 0) qc (by omega) (Nat.lt_succ_self _) _ _ _ V (lv_sub hl [0, 1, 2, 3] rfl)

def q_h_seekBest (T : Nat → ClassId) (h0 : Nat) (a0 : Nat) (le : Nat) (h1 : Nat) (qx : Int32) (qy : Int32) (ql : Int32) (h2 : Nat) (h3 : Nat) (qb : Nat → Int32) (qp : Nat → Int32) (qc : Nat → Int32) (an : Nat) (am : Int32) (al : Int32) (ao : Int32) (au : Int32) (a1 : Nat) (a2 : Nat) (a3 : Nat) (a4 : Nat) (a5 : Nat) (a6 : Nat) (a7 : Nat) (a8 : Nat) (a9 : Nat) (a10 : Nat) (af1 : Nat → Int32) (af2 : Nat → Int32) (af3 : Nat → Int32) (af4 : Nat → Int32) (af5 : Nat → Int32) (af9 : Nat → Int32) : Option Value → va_W → Prop := fun rr ww => (∃ (z : Int32) (g1 : Nat → Int32) (g2 : Nat → Int32) (g3 : Nat → Int32), rr = some (.int z) ∧ ww = [(h0, .inr (3, [.ref h1, .int qx, .int qy, .int (nI le), .ref h2, .ref h3])), (h1, .inl (T 0, 10, .inl g1)), (h2, .inl (T 0, 10, .inl g2)), (h3, .inl (T 0, 12, .inl g3)), (a0, .inr (5, [.int (nI an), .int am, .int al, .int ao, .int au, .ref a1, .ref a2, .ref a3, .ref a4, .ref a5, .ref a6, .ref a7, .ref a8, .ref a9, .ref a10])), (a1, .inl (T 0, 10, .inl af1)), (a2, .inl (T 0, 10, .inl af2)), (a3, .inl (T 0, 10, .inl af3)), (a4, .inl (T 0, 10, .inl af4)), (a5, .inl (T 0, 10, .inl af5)), (a9, .inl (T 0, 10, .inl af9))])
set_option maxHeartbeats 4000000 in
set_option maxRecDepth 100000 in
theorem h_seekBest (l : Launch) (D : va_G) (T : Nat → ClassId) (h0 : Nat) (a0 : Nat) (le : Nat) (h1 : Nat) (qx : Int32) (qy : Int32) (ql : Int32) (h2 : Nat) (h3 : Nat) (qb : Nat → Int32) (qp : Nat → Int32) (qc : Nat → Int32) (an : Nat) (am : Int32) (al : Int32) (ao : Int32) (au : Int32) (a1 : Nat) (a2 : Nat) (a3 : Nat) (a4 : Nat) (a5 : Nat) (a6 : Nat) (a7 : Nat) (a8 : Nat) (a9 : Nat) (a10 : Nat) (af1 : Nat → Int32) (af2 : Nat → Int32) (af3 : Nat → Int32) (af4 : Nat → Int32) (af5 : Nat → Int32) (af9 : Nat → Int32) (h_n : an ≤ 10) (h_l : 1 ≤ le ∧ le ≤ 12) (h_m : an * le ≤ 10) : Ct l yX3_seekBestRound cX3_seekBestRound 7 (some .int) 4 0 0 D T [.ref h0, .ref a0, .int (nI le)] [(h0, .inr (3, [.ref h1, .int qx, .int qy, .int ql, .ref h2, .ref h3])), (h1, .inl (T 0, 10, .inl qb)), (h2, .inl (T 0, 10, .inl qp)), (h3, .inl (T 0, 12, .inl qc)), (a0, .inr (5, [.int (nI an), .int am, .int al, .int ao, .int au, .ref a1, .ref a2, .ref a3, .ref a4, .ref a5, .ref a6, .ref a7, .ref a8, .ref a9, .ref a10])), (a1, .inl (T 0, 10, .inl af1)), (a2, .inl (T 0, 10, .inl af2)), (a3, .inl (T 0, 10, .inl af3)), (a4, .inl (T 0, 10, .inl af4)), (a5, .inl (T 0, 10, .inl af5)), (a9, .inl (T 0, 10, .inl af9))] (q_h_seekBest T h0 a0 le h1 qx qy ql h2 h3 qb qp qc an am al ao au a1 a2 a3 a4 a5 a6 a7 a8 a9 a10 af1 af2 af3 af4 af5 af9) := by
  refine Ct.of (cc := cX3_seekBestRound) (maxL := 7) (ret := (some .int)) (by decide) (Nat.le_of_ble_eq_true rfl) ?_
  intro p e s m args below meth c A ls hC hnm V hl
  obtain ⟨hx, hb, hr, hml, hown, hts, hlocks⟩ := id hC
  generalize hH : s.heap = H at V ⊢
  clear hH
  have hl : lv_has ls 7 [(0, .ref h0), (1, .ref a0), (2, .int (nI le))] := hl
  generalize hlo : ([] : List Loc) = locs at V ⊢
  clear hlo
  have hpw := pw10 h_m
  refine lv_aload_n hx hb dX3_seekBestRound_0 rfl (lv_at hl 0 rfl) ?_
  refine lv_iload_n hx hb dX3_seekBestRound_1 rfl (lv_at hl 2 rfl) ?_
  refine g_put hC V (ci := 3) uwX3 tyX3 tyX3_ok nmX3 0 rfl rfl 3 (by decide) w_189 rfl rfl rfl rfl (Nat.le_of_ble_eq_true rfl) (ws' := [(h0, .inr (3, [.ref h1, .int qx, .int qy, .int (nI le), .ref h2, .ref h3])), (h1, .inl (T 0, 10, .inl qb)), (h2, .inl (T 0, 10, .inl qp)), (h3, .inl (T 0, 12, .inl qc)), (a0, .inr (5, [.int (nI an), .int am, .int al, .int ao, .int au, .ref a1, .ref a2, .ref a3, .ref a4, .ref a5, .ref a6, .ref a7, .ref a8, .ref a9, .ref a10])), (a1, .inl (T 0, 10, .inl af1)), (a2, .inl (T 0, 10, .inl af2)), (a3, .inl (T 0, 10, .inl af3)), (a4, .inl (T 0, 10, .inl af4)), (a5, .inl (T 0, 10, .inl af5)), (a9, .inl (T 0, 10, .inl af9))]) rfl dX3_seekBestRound_2 (fun H locs V => ?_)
  refine lv_iconst (v := (-1)) hx hb dX3_seekBestRound_5 (by decide +kernel) ?_
  refine lv_istore_n (lv' := [(3, .int (-1)), (0, .ref h0), (1, .ref a0), (2, .int (nI le))]) hx hb dX3_seekBestRound_6 rfl hl (by decide) rfl (fun ls hl => ?_)
  refine lv_iconst (v := (nI 0)) hx hb dX3_seekBestRound_7 (by decide +kernel) ?_
  refine lv_istore (lv' := [(4, .int (nI 0)), (3, .int (-1)), (0, .ref h0), (1, .ref a0), (2, .int (nI le))]) hx hb dX3_seekBestRound_8 hl (by decide) rfl (fun ls hl => ?_)
  have L_1 : ∀ (fu : Nat) (k10 : Nat) (x10_3 : Int32) (ga : Nat → Int32) (gb : Nat → Int32) (gc : Nat → Int32), k10 ≤ 2 ^ (an * le) → 2 ^ (an * le) - k10 < fu → ∀ (H : Heap) (locs : List Loc) (ls : Array Slot), gW D T A s [(h0, .inr (3, [.ref h1, .int qx, .int qy, .int (nI le), .ref h2, .ref h3])), (h1, .inl (T 0, 10, .inl ga)), (h2, .inl (T 0, 10, .inl gb)), (h3, .inl (T 0, 12, .inl gc)), (a0, .inr (5, [.int (nI an), .int am, .int al, .int ao, .int au, .ref a1, .ref a2, .ref a3, .ref a4, .ref a5, .ref a6, .ref a7, .ref a8, .ref a9, .ref a10])), (a1, .inl (T 0, 10, .inl af1)), (a2, .inl (T 0, 10, .inl af2)), (a3, .inl (T 0, 10, .inl af3)), (a4, .inl (T 0, 10, .inl af4)), (a5, .inl (T 0, 10, .inl af5)), (a9, .inl (T 0, 10, .inl af9))] H locs → lv_has ls 7 [(4, .int (nI k10)), (3, .int x10_3), (0, .ref h0), (1, .ref a0), (2, .int (nI le))] → W p l e (rmD 4 0 0) s m args below meth c H locs 0 0 (MQ below (gQ D A (q_h_seekBest T h0 a0 le h1 qx qy ql h2 h3 qb qp qc an am al ao au a1 a2 a3 a4 a5 a6 a7 a8 a9 a10 af1 af2 af3 af4 af5 af9)) args s 0 0 A) (F0 m 10 ls []) := by
    intro fu_10
    induction fu_10 with
    | zero => intro k10 x10_3 ga gb gc hk10 hmu; exact absurd hmu (Nat.not_lt_zero _)
    | succ fu_10 ih_10 =>
      intro k10 x10_3 ga gb gc hk10 hmu_10 H locs ls V hl
      refine lv_iload hx hb dX3_seekBestRound_10 (lv_at hl 0 rfl) ?_
      refine lv_iconst (v := (nI 1)) hx hb dX3_seekBestRound_12 (by decide +kernel) ?_
      refine lv_aload_n hx hb dX3_seekBestRound_13 rfl (lv_at hl 3 rfl) ?_
      refine g_get hC V (ci := 5) uwX5 4 rfl rfl 0 (by decide) w_37 rfl rfl dX3_seekBestRound_14 ?_
      refine lv_aload_n hx hb dX3_seekBestRound_17 rfl (lv_at hl 2 rfl) ?_
      refine g_get hC V (ci := 3) uwX3 0 rfl rfl 3 (by decide) w_189 rfl rfl dX3_seekBestRound_18 ?_
      refine lv_imul hx hb dX3_seekBestRound_21 ?_
      refine g_vi (y := (nI (an * le))) (pk_mul _ _) ?_
      refine lv_ishl hx hb dX3_seekBestRound_22 ?_
      refine g_vi (y := (nI (2 ^ (an * le)))) (shl_pow (by omega)) ?_
      refine lv_icmp_ge (tgt := 126) hx hb dX3_seekBestRound_23 (by decide) (fun c_2 => ?_) (fun c_2 => ?_)
      · skip
        have c_2 := b_le (by omega) (by omega) c_2
        refine lv_iload_n hx hb dX3_seekBestRound_126 rfl (lv_at hl 1 rfl) ?_
        exact g_iret (Qr := (q_h_seekBest T h0 a0 le h1 qx qy ql h2 h3 qb qp qc an am al ao au a1 a2 a3 a4 a5 a6 a7 a8 a9 a10 af1 af2 af3 af4 af5 af9)) hC V ⟨(Nat.le_of_ble_eq_true rfl), (Nat.le_of_ble_eq_true rfl)⟩ ⟨x10_3, ga, gb, gc, rfl, rfl⟩ dX3_seekBestRound_127
      · skip
        have c_2 := b_nle (by omega) (by omega) c_2
        refine lv_iload hx hb dX3_seekBestRound_26 (lv_at hl 0 rfl) ?_
        refine g_callSU (nA := 1) hC V hl.1 (c_bitCount l D T (nI k10)) w_660 w_661 w_16 w_662 (by decide +kernel) rfl ⟨(Nat.le_of_ble_eq_true rfl), (Nat.le_of_ble_eq_true rfl)⟩ [] rfl rfl (Nat.le_of_ble_eq_true rfl) dX3_seekBestRound_28 ⟨(Nat.le_of_ble_eq_true rfl), (Nat.le_of_ble_eq_true rfl)⟩ rfl (fun r w1 H locs hQ V => ?_)
        obtain ⟨z_3, rfl, rfl⟩ := hQ
        have V : gW D T A s [(h0, .inr (3, [.ref h1, .int qx, .int qy, .int (nI le), .ref h2, .ref h3])), (h1, .inl (T 0, 10, .inl ga)), (h2, .inl (T 0, 10, .inl gb)), (h3, .inl (T 0, 12, .inl gc)), (a0, .inr (5, [.int (nI an), .int am, .int al, .int ao, .int au, .ref a1, .ref a2, .ref a3, .ref a4, .ref a5, .ref a6, .ref a7, .ref a8, .ref a9, .ref a10])), (a1, .inl (T 0, 10, .inl af1)), (a2, .inl (T 0, 10, .inl af2)), (a3, .inl (T 0, 10, .inl af3)), (a4, .inl (T 0, 10, .inl af4)), (a5, .inl (T 0, 10, .inl af5)), (a9, .inl (T 0, 10, .inl af9))] H locs := V _ [] rfl rfl rfl (by decide +kernel) rfl
        show W p l e _ s m args below meth c H locs _ _ _ (F0 m 31 ls [.int z_3])
        refine lv_istore (lv' := [(5, .int z_3), (4, .int (nI k10)), (3, .int x10_3), (0, .ref h0), (1, .ref a0), (2, .int (nI le))]) hx hb dX3_seekBestRound_31 hl (by decide) rfl (fun ls hl => ?_)
        refine lv_iload_n hx hb dX3_seekBestRound_33 rfl (lv_at hl 2 rfl) ?_
        refine lv_iconst (v := (-1)) hx hb dX3_seekBestRound_34 (by decide +kernel) ?_
        refine lv_icmp_eq (tgt := 47) hx hb dX3_seekBestRound_35 (by decide) (fun c_4 => ?_) (fun c_4 => ?_)
        · skip
          refine lv_iconst (v := (nI 0)) hx hb dX3_seekBestRound_47 (by decide +kernel) ?_
          refine lv_istore (lv' := [(6, .int (nI 0)), (5, .int z_3), (4, .int (nI k10)), (3, .int x10_3), (0, .ref h0), (1, .ref a0), (2, .int (nI le))]) hx hb dX3_seekBestRound_48 hl (by decide) rfl (fun ls hl => ?_)
          have L_5 : ∀ (fu : Nat) (k50 : Nat) (gd : Nat → Int32), k50 ≤ an → an - k50 < fu → ∀ (H : Heap) (locs : List Loc) (ls : Array Slot), gW D T A s [(h0, .inr (3, [.ref h1, .int qx, .int qy, .int (nI le), .ref h2, .ref h3])), (h1, .inl (T 0, 10, .inl ga)), (h2, .inl (T 0, 10, .inl gd)), (h3, .inl (T 0, 12, .inl gc)), (a0, .inr (5, [.int (nI an), .int am, .int al, .int ao, .int au, .ref a1, .ref a2, .ref a3, .ref a4, .ref a5, .ref a6, .ref a7, .ref a8, .ref a9, .ref a10])), (a1, .inl (T 0, 10, .inl af1)), (a2, .inl (T 0, 10, .inl af2)), (a3, .inl (T 0, 10, .inl af3)), (a4, .inl (T 0, 10, .inl af4)), (a5, .inl (T 0, 10, .inl af5)), (a9, .inl (T 0, 10, .inl af9))] H locs → lv_has ls 7 [(6, .int (nI k50)), (5, .int z_3), (4, .int (nI k10)), (3, .int x10_3), (0, .ref h0), (1, .ref a0), (2, .int (nI le))] → W p l e (rmD 4 0 0) s m args below meth c H locs 0 0 (MQ below (gQ D A (q_h_seekBest T h0 a0 le h1 qx qy ql h2 h3 qb qp qc an am al ao au a1 a2 a3 a4 a5 a6 a7 a8 a9 a10 af1 af2 af3 af4 af5 af9)) args s 0 0 A) (F0 m 50 ls []) := by
            intro fu_50
            induction fu_50 with
            | zero => intro k50 gd hk50 hmu; exact absurd hmu (Nat.not_lt_zero _)
            | succ fu_50 ih_50 =>
              intro k50 gd hk50 hmu_50 H locs ls V hl
              refine lv_iload hx hb dX3_seekBestRound_50 (lv_at hl 0 rfl) ?_
              refine lv_aload_n hx hb dX3_seekBestRound_52 rfl (lv_at hl 5 rfl) ?_
              refine g_get hC V (ci := 5) uwX5 4 rfl rfl 0 (by decide) w_37 rfl rfl dX3_seekBestRound_53 ?_
              refine lv_icmp_ge (tgt := 94) hx hb dX3_seekBestRound_56 (by decide) (fun c_6 => ?_) (fun c_6 => ?_)
              · skip
                have c_6 := b_le (by omega) (by omega) c_6
                refine lv_aload_n hx hb dX3_seekBestRound_94 rfl (lv_at hl 4 rfl) ?_
                refine lv_aload_n hx hb dX3_seekBestRound_95 rfl (lv_at hl 5 rfl) ?_
                refine g_callVU (nA := 1) hC V hl.1 (h_holdAll l D T h0 a0 h1 qx qy le h2 h3 gd gc an am al ao au a1 a2 a3 a4 a5 a6 a7 a8 a9 a10 af1 af2 af3 af4 af5 af9 (by first | assumption | omega) (by first | assumption | omega)) w_666 w_668 w_s21 w_6 w_669 (by decide +kernel) rfl ⟨(Nat.le_of_ble_eq_true rfl), (Nat.le_of_ble_eq_true rfl)⟩ 0 (ci := 3) rfl rfl [0, 2, 3, 4, 5, 6, 7, 8, 9, 10] rfl rfl (Nat.le_of_ble_eq_true rfl) dX3_seekBestRound_96 ⟨(Nat.le_of_ble_eq_true rfl), (Nat.le_of_ble_eq_true rfl)⟩ rfl (fun r w1 H locs hQ V => ?_)
                rcases hQ with ⟨g_7, rfl, rfl⟩ | ⟨g_8, rfl, rfl⟩
                · have V : gW D T A s [(h0, .inr (3, [.ref h1, .int qx, .int qy, .int (nI le), .ref h2, .ref h3])), (h1, .inl (T 0, 10, .inl ga)), (h2, .inl (T 0, 10, .inl gd)), (h3, .inl (T 0, 12, .inl g_7)), (a0, .inr (5, [.int (nI an), .int am, .int al, .int ao, .int au, .ref a1, .ref a2, .ref a3, .ref a4, .ref a5, .ref a6, .ref a7, .ref a8, .ref a9, .ref a10])), (a1, .inl (T 0, 10, .inl af1)), (a2, .inl (T 0, 10, .inl af2)), (a3, .inl (T 0, 10, .inl af3)), (a4, .inl (T 0, 10, .inl af4)), (a5, .inl (T 0, 10, .inl af5)), (a9, .inl (T 0, 10, .inl af9))] H locs := V _ [0, 1, 0, 0, 0, 0, 0, 0, 0, 0] rfl rfl rfl (by decide +kernel) rfl
                  show W p l e _ s m args below meth c H locs _ _ _ (F0 m 99 ls [.int (nI 1)])
                  refine lv_if_eq (tgt := 120) hx hb dX3_seekBestRound_99 (by decide) (fun c => absurd (show (nI 1) = 0 from c) (by decide +kernel)) (fun _ => ?_)
                  refine lv_iload hx hb dX3_seekBestRound_102 (lv_at hl 1 rfl) ?_
                  refine lv_istore_n (lv' := [(3, .int z_3), (6, .int (nI k50)), (5, .int z_3), (4, .int (nI k10)), (0, .ref h0), (1, .ref a0), (2, .int (nI le))]) hx hb dX3_seekBestRound_104 rfl hl (by decide) rfl (fun ls hl => ?_)
                  refine lv_aload_n hx hb dX3_seekBestRound_105 rfl (lv_at hl 4 rfl) ?_
                  refine g_get hC V (ci := 3) uwX3 0 rfl rfl 4 (by decide) w_190 rfl rfl dX3_seekBestRound_106 ?_
                  refine lv_iconst (v := (nI 0)) hx hb dX3_seekBestRound_109 (by decide +kernel) ?_
                  refine lv_aload_n hx hb dX3_seekBestRound_110 rfl (lv_at hl 4 rfl) ?_
                  refine g_get hC V (ci := 3) uwX3 0 rfl rfl 0 (by decide) w_183 rfl rfl dX3_seekBestRound_111 ?_
                  refine lv_iconst (v := (nI 0)) hx hb dX3_seekBestRound_114 (by decide +kernel) ?_
                  refine lv_bipush (v := (nI 10)) hx hb dX3_seekBestRound_115 (by decide +kernel) ?_
                  refine g_copyi hC V hl.1 w_670 w_672 w_671 w_17 2 1 rfl rfl (by decide +kernel) (by decide +kernel) (Nat.le_of_ble_eq_true rfl) (Nat.le_of_ble_eq_true rfl) (Nat.le_of_ble_eq_true rfl) dX3_seekBestRound_117 (fun g_9 H locs V => ?_)
                  have V : gW D T A s [(h0, .inr (3, [.ref h1, .int qx, .int qy, .int (nI le), .ref h2, .ref h3])), (h1, .inl (T 0, 10, .inl g_9)), (h2, .inl (T 0, 10, .inl gd)), (h3, .inl (T 0, 12, .inl g_7)), (a0, .inr (5, [.int (nI an), .int am, .int al, .int ao, .int au, .ref a1, .ref a2, .ref a3, .ref a4, .ref a5, .ref a6, .ref a7, .ref a8, .ref a9, .ref a10])), (a1, .inl (T 0, 10, .inl af1)), (a2, .inl (T 0, 10, .inl af2)), (a3, .inl (T 0, 10, .inl af3)), (a4, .inl (T 0, 10, .inl af4)), (a5, .inl (T 0, 10, .inl af5)), (a9, .inl (T 0, 10, .inl af9))] H locs := V
                  refine lv_iinc (v := (nI (k10 + 1))) (lv' := [(4, .int (nI (k10 + 1))), (3, .int z_3), (6, .int (nI k50)), (5, .int z_3), (0, .ref h0), (1, .ref a0), (2, .int (nI le))]) hx hb dX3_seekBestRound_120 hl (k := 3) rfl (nI_1 _) (by decide) rfl (fun ls hl => ?_)
                  refine lv_goto (tgt := 10) hx hb dX3_seekBestRound_123 (by decide) ?_
                  exact ih_10 (k10 + 1) z_3 g_9 gd g_7 (by omega) (by omega) _ _ _ V (lv_sub hl [0, 1, 4, 5, 6] rfl)
                · have V : gW D T A s [(h0, .inr (3, [.ref h1, .int qx, .int qy, .int (nI le), .ref h2, .ref h3])), (h1, .inl (T 0, 10, .inl ga)), (h2, .inl (T 0, 10, .inl gd)), (h3, .inl (T 0, 12, .inl g_8)), (a0, .inr (5, [.int (nI an), .int am, .int al, .int ao, .int au, .ref a1, .ref a2, .ref a3, .ref a4, .ref a5, .ref a6, .ref a7, .ref a8, .ref a9, .ref a10])), (a1, .inl (T 0, 10, .inl af1)), (a2, .inl (T 0, 10, .inl af2)), (a3, .inl (T 0, 10, .inl af3)), (a4, .inl (T 0, 10, .inl af4)), (a5, .inl (T 0, 10, .inl af5)), (a9, .inl (T 0, 10, .inl af9))] H locs := V _ [0, 1, 0, 0, 0, 0, 0, 0, 0, 0] rfl rfl rfl (by decide +kernel) rfl
                  show W p l e _ s m args below meth c H locs _ _ _ (F0 m 99 ls [.int (nI 0)])
                  refine lv_if_eq (tgt := 120) hx hb dX3_seekBestRound_99 (by decide) (fun _ => ?_) (fun c => absurd (show (nI 0) = 0 by decide +kernel) c)
                  refine lv_iinc (v := (nI (k10 + 1))) (lv' := [(4, .int (nI (k10 + 1))), (6, .int (nI k50)), (5, .int z_3), (3, .int x10_3), (0, .ref h0), (1, .ref a0), (2, .int (nI le))]) hx hb dX3_seekBestRound_120 hl (k := 2) rfl (nI_1 _) (by decide) rfl (fun ls hl => ?_)
                  refine lv_goto (tgt := 10) hx hb dX3_seekBestRound_123 (by decide) ?_
                  exact ih_10 (k10 + 1) x10_3 ga gd g_8 (by omega) (by omega) _ _ _ V (lv_sub hl [0, 3, 4, 5, 6] rfl)
              · skip
                have c_6 := b_nle (by omega) (by omega) c_6
                refine lv_aload_n hx hb dX3_seekBestRound_59 rfl (lv_at hl 4 rfl) ?_
                refine g_get hC V (ci := 3) uwX3 0 rfl rfl 4 (by decide) w_190 rfl rfl dX3_seekBestRound_60 ?_
                refine lv_iload hx hb dX3_seekBestRound_63 (lv_at hl 0 rfl) ?_
                refine lv_iload hx hb dX3_seekBestRound_65 (lv_at hl 2 rfl) ?_
                refine lv_aload_n hx hb dX3_seekBestRound_67 rfl (lv_at hl 5 rfl) ?_
                refine g_get hC V (ci := 5) uwX5 4 rfl rfl 0 (by decide) w_37 rfl rfl dX3_seekBestRound_68 ?_
                refine lv_iconst (v := (nI 1)) hx hb dX3_seekBestRound_71 (by decide +kernel) ?_
                refine lv_isub hx hb dX3_seekBestRound_72 ?_
                refine lv_iload hx hb dX3_seekBestRound_73 (lv_at hl 0 rfl) ?_
                refine lv_isub hx hb dX3_seekBestRound_75 ?_
                refine lv_aload_n hx hb dX3_seekBestRound_76 rfl (lv_at hl 4 rfl) ?_
                refine g_get hC V (ci := 3) uwX3 0 rfl rfl 3 (by decide) w_189 rfl rfl dX3_seekBestRound_77 ?_
                refine lv_imul hx hb dX3_seekBestRound_80 ?_
                refine lv_ishr hx hb dX3_seekBestRound_81 ?_
                refine lv_topi (fun x_10 ex_10 => ?_)
                refine lv_aload_n hx hb dX3_seekBestRound_82 rfl (lv_at hl 4 rfl) ?_
                refine g_callVU (nA := 0) hC V hl.1 (h_everyTime l D T h0 h1 qx qy le h2 h3) w_606 w_608 w_s17 w_6 w_609 (by decide +kernel) rfl ⟨(Nat.le_of_ble_eq_true rfl), (Nat.le_of_ble_eq_true rfl)⟩ 0 (ci := 3) rfl rfl [0] rfl rfl (Nat.le_of_ble_eq_true rfl) dX3_seekBestRound_83 ⟨(Nat.le_of_ble_eq_true rfl), (Nat.le_of_ble_eq_true rfl)⟩ rfl (fun r w1 H locs hQ V => ?_)
                obtain ⟨z_11, rfl, rfl⟩ := hQ
                have V : gW D T A s [(h0, .inr (3, [.ref h1, .int qx, .int qy, .int (nI le), .ref h2, .ref h3])), (h1, .inl (T 0, 10, .inl ga)), (h2, .inl (T 0, 10, .inl gd)), (h3, .inl (T 0, 12, .inl gc)), (a0, .inr (5, [.int (nI an), .int am, .int al, .int ao, .int au, .ref a1, .ref a2, .ref a3, .ref a4, .ref a5, .ref a6, .ref a7, .ref a8, .ref a9, .ref a10])), (a1, .inl (T 0, 10, .inl af1)), (a2, .inl (T 0, 10, .inl af2)), (a3, .inl (T 0, 10, .inl af3)), (a4, .inl (T 0, 10, .inl af4)), (a5, .inl (T 0, 10, .inl af5)), (a9, .inl (T 0, 10, .inl af9))] H locs := V _ [0] rfl rfl rfl (by decide +kernel) rfl
                show W p l e _ s m args below meth c H locs _ _ _ (F0 m 86 ls [.int z_11, .int x_10, .int (nI k50), .ref h2])
                refine lv_iand hx hb dX3_seekBestRound_86 ?_
                refine g_iast hC V 2 rfl (vp_in_nI (by omega) (by omega)) (f' := (upd gd k50 (x_10 &&& z_11))) (by rw [nI_clamp (by omega)]) (ws' := [(h0, .inr (3, [.ref h1, .int qx, .int qy, .int (nI le), .ref h2, .ref h3])), (h1, .inl (T 0, 10, .inl ga)), (h2, .inl (T 0, 10, .inl (upd gd k50 (x_10 &&& z_11)))), (h3, .inl (T 0, 12, .inl gc)), (a0, .inr (5, [.int (nI an), .int am, .int al, .int ao, .int au, .ref a1, .ref a2, .ref a3, .ref a4, .ref a5, .ref a6, .ref a7, .ref a8, .ref a9, .ref a10])), (a1, .inl (T 0, 10, .inl af1)), (a2, .inl (T 0, 10, .inl af2)), (a3, .inl (T 0, 10, .inl af3)), (a4, .inl (T 0, 10, .inl af4)), (a5, .inl (T 0, 10, .inl af5)), (a9, .inl (T 0, 10, .inl af9))]) rfl dX3_seekBestRound_87 (fun H locs V => ?_)
                refine lv_iinc (v := (nI (k50 + 1))) (lv' := [(6, .int (nI (k50 + 1))), (5, .int z_3), (4, .int (nI k10)), (3, .int x10_3), (0, .ref h0), (1, .ref a0), (2, .int (nI le))]) hx hb dX3_seekBestRound_88 hl (k := 0) rfl (nI_1 _) (by decide) rfl (fun ls hl => ?_)
                refine lv_goto (tgt := 50) hx hb dX3_seekBestRound_91 (by decide) ?_
                exact ih_50 (k50 + 1) (upd gd k50 (x_10 &&& z_11)) (by omega) (by omega) _ _ _ V (lv_sub hl [0, 1, 2, 3, 4, 5, 6] rfl)
          exact L_5 _ 0 gb (by omega) (Nat.lt_succ_self _) _ _ _ V (lv_sub hl [0, 1, 2, 3, 4, 5, 6] rfl)
        · skip
          refine lv_iload hx hb dX3_seekBestRound_38 (lv_at hl 0 rfl) ?_
          refine lv_iload_n hx hb dX3_seekBestRound_40 rfl (lv_at hl 2 rfl) ?_
          refine lv_icmp_lt (tgt := 47) hx hb dX3_seekBestRound_41 (by decide) (fun c_12 => ?_) (fun c_12 => ?_)
          · skip
            refine lv_iconst (v := (nI 0)) hx hb dX3_seekBestRound_47 (by decide +kernel) ?_
            refine lv_istore (lv' := [(6, .int (nI 0)), (5, .int z_3), (4, .int (nI k10)), (3, .int x10_3), (0, .ref h0), (1, .ref a0), (2, .int (nI le))]) hx hb dX3_seekBestRound_48 hl (by decide) rfl (fun ls hl => ?_)
            have L_13 : ∀ (fu : Nat) (k50 : Nat) (gd : Nat → Int32), k50 ≤ an → an - k50 < fu → ∀ (H : Heap) (locs : List Loc) (ls : Array Slot), gW D T A s [(h0, .inr (3, [.ref h1, .int qx, .int qy, .int (nI le), .ref h2, .ref h3])), (h1, .inl (T 0, 10, .inl ga)), (h2, .inl (T 0, 10, .inl gd)), (h3, .inl (T 0, 12, .inl gc)), (a0, .inr (5, [.int (nI an), .int am, .int al, .int ao, .int au, .ref a1, .ref a2, .ref a3, .ref a4, .ref a5, .ref a6, .ref a7, .ref a8, .ref a9, .ref a10])), (a1, .inl (T 0, 10, .inl af1)), (a2, .inl (T 0, 10, .inl af2)), (a3, .inl (T 0, 10, .inl af3)), (a4, .inl (T 0, 10, .inl af4)), (a5, .inl (T 0, 10, .inl af5)), (a9, .inl (T 0, 10, .inl af9))] H locs → lv_has ls 7 [(6, .int (nI k50)), (5, .int z_3), (4, .int (nI k10)), (3, .int x10_3), (0, .ref h0), (1, .ref a0), (2, .int (nI le))] → W p l e (rmD 4 0 0) s m args below meth c H locs 0 0 (MQ below (gQ D A (q_h_seekBest T h0 a0 le h1 qx qy ql h2 h3 qb qp qc an am al ao au a1 a2 a3 a4 a5 a6 a7 a8 a9 a10 af1 af2 af3 af4 af5 af9)) args s 0 0 A) (F0 m 50 ls []) := by
              intro fu_50
              induction fu_50 with
              | zero => intro k50 gd hk50 hmu; exact absurd hmu (Nat.not_lt_zero _)
              | succ fu_50 ih_50 =>
                intro k50 gd hk50 hmu_50 H locs ls V hl
                refine lv_iload hx hb dX3_seekBestRound_50 (lv_at hl 0 rfl) ?_
                refine lv_aload_n hx hb dX3_seekBestRound_52 rfl (lv_at hl 5 rfl) ?_
                refine g_get hC V (ci := 5) uwX5 4 rfl rfl 0 (by decide) w_37 rfl rfl dX3_seekBestRound_53 ?_
                refine lv_icmp_ge (tgt := 94) hx hb dX3_seekBestRound_56 (by decide) (fun c_14 => ?_) (fun c_14 => ?_)
                · skip
                  have c_14 := b_le (by omega) (by omega) c_14
                  refine lv_aload_n hx hb dX3_seekBestRound_94 rfl (lv_at hl 4 rfl) ?_
                  refine lv_aload_n hx hb dX3_seekBestRound_95 rfl (lv_at hl 5 rfl) ?_
                  refine g_callVU (nA := 1) hC V hl.1 (h_holdAll l D T h0 a0 h1 qx qy le h2 h3 gd gc an am al ao au a1 a2 a3 a4 a5 a6 a7 a8 a9 a10 af1 af2 af3 af4 af5 af9 (by first | assumption | omega) (by first | assumption | omega)) w_666 w_668 w_s21 w_6 w_669 (by decide +kernel) rfl ⟨(Nat.le_of_ble_eq_true rfl), (Nat.le_of_ble_eq_true rfl)⟩ 0 (ci := 3) rfl rfl [0, 2, 3, 4, 5, 6, 7, 8, 9, 10] rfl rfl (Nat.le_of_ble_eq_true rfl) dX3_seekBestRound_96 ⟨(Nat.le_of_ble_eq_true rfl), (Nat.le_of_ble_eq_true rfl)⟩ rfl (fun r w1 H locs hQ V => ?_)
                  rcases hQ with ⟨g_15, rfl, rfl⟩ | ⟨g_16, rfl, rfl⟩
                  · have V : gW D T A s [(h0, .inr (3, [.ref h1, .int qx, .int qy, .int (nI le), .ref h2, .ref h3])), (h1, .inl (T 0, 10, .inl ga)), (h2, .inl (T 0, 10, .inl gd)), (h3, .inl (T 0, 12, .inl g_15)), (a0, .inr (5, [.int (nI an), .int am, .int al, .int ao, .int au, .ref a1, .ref a2, .ref a3, .ref a4, .ref a5, .ref a6, .ref a7, .ref a8, .ref a9, .ref a10])), (a1, .inl (T 0, 10, .inl af1)), (a2, .inl (T 0, 10, .inl af2)), (a3, .inl (T 0, 10, .inl af3)), (a4, .inl (T 0, 10, .inl af4)), (a5, .inl (T 0, 10, .inl af5)), (a9, .inl (T 0, 10, .inl af9))] H locs := V _ [0, 1, 0, 0, 0, 0, 0, 0, 0, 0] rfl rfl rfl (by decide +kernel) rfl
                    show W p l e _ s m args below meth c H locs _ _ _ (F0 m 99 ls [.int (nI 1)])
                    refine lv_if_eq (tgt := 120) hx hb dX3_seekBestRound_99 (by decide) (fun c => absurd (show (nI 1) = 0 from c) (by decide +kernel)) (fun _ => ?_)
                    refine lv_iload hx hb dX3_seekBestRound_102 (lv_at hl 1 rfl) ?_
                    refine lv_istore_n (lv' := [(3, .int z_3), (6, .int (nI k50)), (5, .int z_3), (4, .int (nI k10)), (0, .ref h0), (1, .ref a0), (2, .int (nI le))]) hx hb dX3_seekBestRound_104 rfl hl (by decide) rfl (fun ls hl => ?_)
                    refine lv_aload_n hx hb dX3_seekBestRound_105 rfl (lv_at hl 4 rfl) ?_
                    refine g_get hC V (ci := 3) uwX3 0 rfl rfl 4 (by decide) w_190 rfl rfl dX3_seekBestRound_106 ?_
                    refine lv_iconst (v := (nI 0)) hx hb dX3_seekBestRound_109 (by decide +kernel) ?_
                    refine lv_aload_n hx hb dX3_seekBestRound_110 rfl (lv_at hl 4 rfl) ?_
                    refine g_get hC V (ci := 3) uwX3 0 rfl rfl 0 (by decide) w_183 rfl rfl dX3_seekBestRound_111 ?_
                    refine lv_iconst (v := (nI 0)) hx hb dX3_seekBestRound_114 (by decide +kernel) ?_
                    refine lv_bipush (v := (nI 10)) hx hb dX3_seekBestRound_115 (by decide +kernel) ?_
                    refine g_copyi hC V hl.1 w_670 w_672 w_671 w_17 2 1 rfl rfl (by decide +kernel) (by decide +kernel) (Nat.le_of_ble_eq_true rfl) (Nat.le_of_ble_eq_true rfl) (Nat.le_of_ble_eq_true rfl) dX3_seekBestRound_117 (fun g_17 H locs V => ?_)
                    have V : gW D T A s [(h0, .inr (3, [.ref h1, .int qx, .int qy, .int (nI le), .ref h2, .ref h3])), (h1, .inl (T 0, 10, .inl g_17)), (h2, .inl (T 0, 10, .inl gd)), (h3, .inl (T 0, 12, .inl g_15)), (a0, .inr (5, [.int (nI an), .int am, .int al, .int ao, .int au, .ref a1, .ref a2, .ref a3, .ref a4, .ref a5, .ref a6, .ref a7, .ref a8, .ref a9, .ref a10])), (a1, .inl (T 0, 10, .inl af1)), (a2, .inl (T 0, 10, .inl af2)), (a3, .inl (T 0, 10, .inl af3)), (a4, .inl (T 0, 10, .inl af4)), (a5, .inl (T 0, 10, .inl af5)), (a9, .inl (T 0, 10, .inl af9))] H locs := V
                    refine lv_iinc (v := (nI (k10 + 1))) (lv' := [(4, .int (nI (k10 + 1))), (3, .int z_3), (6, .int (nI k50)), (5, .int z_3), (0, .ref h0), (1, .ref a0), (2, .int (nI le))]) hx hb dX3_seekBestRound_120 hl (k := 3) rfl (nI_1 _) (by decide) rfl (fun ls hl => ?_)
                    refine lv_goto (tgt := 10) hx hb dX3_seekBestRound_123 (by decide) ?_
                    exact ih_10 (k10 + 1) z_3 g_17 gd g_15 (by omega) (by omega) _ _ _ V (lv_sub hl [0, 1, 4, 5, 6] rfl)
                  · have V : gW D T A s [(h0, .inr (3, [.ref h1, .int qx, .int qy, .int (nI le), .ref h2, .ref h3])), (h1, .inl (T 0, 10, .inl ga)), (h2, .inl (T 0, 10, .inl gd)), (h3, .inl (T 0, 12, .inl g_16)), (a0, .inr (5, [.int (nI an), .int am, .int al, .int ao, .int au, .ref a1, .ref a2, .ref a3, .ref a4, .ref a5, .ref a6, .ref a7, .ref a8, .ref a9, .ref a10])), (a1, .inl (T 0, 10, .inl af1)), (a2, .inl (T 0, 10, .inl af2)), (a3, .inl (T 0, 10, .inl af3)), (a4, .inl (T 0, 10, .inl af4)), (a5, .inl (T 0, 10, .inl af5)), (a9, .inl (T 0, 10, .inl af9))] H locs := V _ [0, 1, 0, 0, 0, 0, 0, 0, 0, 0] rfl rfl rfl (by decide +kernel) rfl
                    show W p l e _ s m args below meth c H locs _ _ _ (F0 m 99 ls [.int (nI 0)])
                    refine lv_if_eq (tgt := 120) hx hb dX3_seekBestRound_99 (by decide) (fun _ => ?_) (fun c => absurd (show (nI 0) = 0 by decide +kernel) c)
                    refine lv_iinc (v := (nI (k10 + 1))) (lv' := [(4, .int (nI (k10 + 1))), (6, .int (nI k50)), (5, .int z_3), (3, .int x10_3), (0, .ref h0), (1, .ref a0), (2, .int (nI le))]) hx hb dX3_seekBestRound_120 hl (k := 2) rfl (nI_1 _) (by decide) rfl (fun ls hl => ?_)
                    refine lv_goto (tgt := 10) hx hb dX3_seekBestRound_123 (by decide) ?_
                    exact ih_10 (k10 + 1) x10_3 ga gd g_16 (by omega) (by omega) _ _ _ V (lv_sub hl [0, 3, 4, 5, 6] rfl)
                · skip
                  have c_14 := b_nle (by omega) (by omega) c_14
                  refine lv_aload_n hx hb dX3_seekBestRound_59 rfl (lv_at hl 4 rfl) ?_
                  refine g_get hC V (ci := 3) uwX3 0 rfl rfl 4 (by decide) w_190 rfl rfl dX3_seekBestRound_60 ?_
                  refine lv_iload hx hb dX3_seekBestRound_63 (lv_at hl 0 rfl) ?_
                  refine lv_iload hx hb dX3_seekBestRound_65 (lv_at hl 2 rfl) ?_
                  refine lv_aload_n hx hb dX3_seekBestRound_67 rfl (lv_at hl 5 rfl) ?_
                  refine g_get hC V (ci := 5) uwX5 4 rfl rfl 0 (by decide) w_37 rfl rfl dX3_seekBestRound_68 ?_
                  refine lv_iconst (v := (nI 1)) hx hb dX3_seekBestRound_71 (by decide +kernel) ?_
                  refine lv_isub hx hb dX3_seekBestRound_72 ?_
                  refine lv_iload hx hb dX3_seekBestRound_73 (lv_at hl 0 rfl) ?_
                  refine lv_isub hx hb dX3_seekBestRound_75 ?_
                  refine lv_aload_n hx hb dX3_seekBestRound_76 rfl (lv_at hl 4 rfl) ?_
                  refine g_get hC V (ci := 3) uwX3 0 rfl rfl 3 (by decide) w_189 rfl rfl dX3_seekBestRound_77 ?_
                  refine lv_imul hx hb dX3_seekBestRound_80 ?_
                  refine lv_ishr hx hb dX3_seekBestRound_81 ?_
                  refine lv_topi (fun x_18 ex_18 => ?_)
                  refine lv_aload_n hx hb dX3_seekBestRound_82 rfl (lv_at hl 4 rfl) ?_
                  refine g_callVU (nA := 0) hC V hl.1 (h_everyTime l D T h0 h1 qx qy le h2 h3) w_606 w_608 w_s17 w_6 w_609 (by decide +kernel) rfl ⟨(Nat.le_of_ble_eq_true rfl), (Nat.le_of_ble_eq_true rfl)⟩ 0 (ci := 3) rfl rfl [0] rfl rfl (Nat.le_of_ble_eq_true rfl) dX3_seekBestRound_83 ⟨(Nat.le_of_ble_eq_true rfl), (Nat.le_of_ble_eq_true rfl)⟩ rfl (fun r w1 H locs hQ V => ?_)
                  obtain ⟨z_19, rfl, rfl⟩ := hQ
                  have V : gW D T A s [(h0, .inr (3, [.ref h1, .int qx, .int qy, .int (nI le), .ref h2, .ref h3])), (h1, .inl (T 0, 10, .inl ga)), (h2, .inl (T 0, 10, .inl gd)), (h3, .inl (T 0, 12, .inl gc)), (a0, .inr (5, [.int (nI an), .int am, .int al, .int ao, .int au, .ref a1, .ref a2, .ref a3, .ref a4, .ref a5, .ref a6, .ref a7, .ref a8, .ref a9, .ref a10])), (a1, .inl (T 0, 10, .inl af1)), (a2, .inl (T 0, 10, .inl af2)), (a3, .inl (T 0, 10, .inl af3)), (a4, .inl (T 0, 10, .inl af4)), (a5, .inl (T 0, 10, .inl af5)), (a9, .inl (T 0, 10, .inl af9))] H locs := V _ [0] rfl rfl rfl (by decide +kernel) rfl
                  show W p l e _ s m args below meth c H locs _ _ _ (F0 m 86 ls [.int z_19, .int x_18, .int (nI k50), .ref h2])
                  refine lv_iand hx hb dX3_seekBestRound_86 ?_
                  refine g_iast hC V 2 rfl (vp_in_nI (by omega) (by omega)) (f' := (upd gd k50 (x_18 &&& z_19))) (by rw [nI_clamp (by omega)]) (ws' := [(h0, .inr (3, [.ref h1, .int qx, .int qy, .int (nI le), .ref h2, .ref h3])), (h1, .inl (T 0, 10, .inl ga)), (h2, .inl (T 0, 10, .inl (upd gd k50 (x_18 &&& z_19)))), (h3, .inl (T 0, 12, .inl gc)), (a0, .inr (5, [.int (nI an), .int am, .int al, .int ao, .int au, .ref a1, .ref a2, .ref a3, .ref a4, .ref a5, .ref a6, .ref a7, .ref a8, .ref a9, .ref a10])), (a1, .inl (T 0, 10, .inl af1)), (a2, .inl (T 0, 10, .inl af2)), (a3, .inl (T 0, 10, .inl af3)), (a4, .inl (T 0, 10, .inl af4)), (a5, .inl (T 0, 10, .inl af5)), (a9, .inl (T 0, 10, .inl af9))]) rfl dX3_seekBestRound_87 (fun H locs V => ?_)
                  refine lv_iinc (v := (nI (k50 + 1))) (lv' := [(6, .int (nI (k50 + 1))), (5, .int z_3), (4, .int (nI k10)), (3, .int x10_3), (0, .ref h0), (1, .ref a0), (2, .int (nI le))]) hx hb dX3_seekBestRound_88 hl (k := 0) rfl (nI_1 _) (by decide) rfl (fun ls hl => ?_)
                  refine lv_goto (tgt := 50) hx hb dX3_seekBestRound_91 (by decide) ?_
                  exact ih_50 (k50 + 1) (upd gd k50 (x_18 &&& z_19)) (by omega) (by omega) _ _ _ V (lv_sub hl [0, 1, 2, 3, 4, 5, 6] rfl)
            exact L_13 _ 0 gb (by omega) (Nat.lt_succ_self _) _ _ _ V (lv_sub hl [0, 1, 2, 3, 4, 5, 6] rfl)
          · skip
            refine lv_goto (tgt := 120) hx hb dX3_seekBestRound_44 (by decide) ?_
            refine lv_iinc (v := (nI (k10 + 1))) (lv' := [(4, .int (nI (k10 + 1))), (5, .int z_3), (3, .int x10_3), (0, .ref h0), (1, .ref a0), (2, .int (nI le))]) hx hb dX3_seekBestRound_120 hl (k := 1) rfl (nI_1 _) (by decide) rfl (fun ls hl => ?_)
            refine lv_goto (tgt := 10) hx hb dX3_seekBestRound_123 (by decide) ?_
            exact ih_10 (k10 + 1) x10_3 ga gb gc (by omega) (by omega) _ _ _ V (lv_sub hl [0, 2, 3, 4, 5] rfl)
  exact L_1 _ 0 (-1) qb qp qc (by omega) (Nat.lt_succ_self _) _ _ _ V (lv_sub hl [0, 1, 2, 3, 4] rfl)
