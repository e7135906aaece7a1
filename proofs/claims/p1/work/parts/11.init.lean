def q_Street_init (T : Nat → ClassId) (a0 : Nat) : Option Value → va_W → Prop := fun rr ww => (∃ (b1 : Nat) (b2 : Nat) (b3 : Nat) (b4 : Nat) (b5 : Nat) (b6 : Nat) (b7 : Nat) (b8 : Nat) (b9 : Nat) (b10 : Nat), rr = none ∧ ww = [(a0, .inr (5, [.int (nI 0), .int (nI 0), .int (nI 0), .int (nI 20), .int (nI 0), .ref b1, .ref b2, .ref b3, .ref b4, .ref b5, .ref b6, .ref b7, .ref b8, .ref b9, .ref b10])), (b1, .inl (T 0, 10, .inl (fun _ => nI 0))), (b2, .inl (T 0, 10, .inl (fun _ => nI 0))), (b3, .inl (T 0, 10, .inl (fun _ => nI 0))), (b4, .inl (T 0, 10, .inl (fun _ => nI 0))), (b5, .inl (T 0, 10, .inl (fun _ => nI 0))), (b6, .inl (T 0, 10, .inl (fun _ => nI 0))), (b7, .inl (T 0, 10, .inl (fun _ => nI 0))), (b8, .inl (T 0, 10, .inl (fun _ => nI 0))), (b9, .inl (T 0, 10, .inl (fun _ => nI 0))), (b10, .inl (T 0, 10, .inl (fun _ => nI 0)))])
set_option maxHeartbeats 4000000 in
set_option maxRecDepth 100000 in
theorem c_Street_init (l : Launch) (D : va_G) (T : Nat → ClassId) (a0 : Nat) : Ct l yX5_init cX5_init 1 none 1 10 100 D T [.ref a0] [(a0, .inr (5, [.int (nI 0), .int (nI 0), .int (nI 0), .int (nI 0), .int (nI 0), .null, .null, .null, .null, .null, .null, .null, .null, .null, .null]))] (q_Street_init T a0) := by
  refine Ct.of (cc := cX5_init) (maxL := 1) (ret := none) (by decide) (Nat.le_of_ble_eq_true rfl) ?_
  intro p e s m args below meth c A ls hC hnm V hl
  obtain ⟨hx, hb, hr, hml, hown, hts, hlocks⟩ := id hC
  generalize hH : s.heap = H at V ⊢
  clear hH
  have hl : lv_has ls 1 [(0, .ref a0)] := hl
  generalize hlo : ([] : List Loc) = locs at V ⊢
  clear hlo
  refine lv_aload_n hx hb dX5_init_0 rfl (lv_at hl 0 rfl) ?_
  refine g_objInit hC hl.1 w_32 w_25 w_26 dX5_init_1 (Nat.le_of_ble_eq_true rfl) (Nat.le_of_ble_eq_true rfl) (Nat.le_of_ble_eq_true rfl) ?_
  refine lv_aload_n hx hb dX5_init_4 rfl (lv_at hl 0 rfl) ?_
  refine lv_bipush (v := (nI 20)) hx hb dX5_init_5 (by decide +kernel) ?_
  refine g_put hC V (ci := 5) uwX5 tyX5 tyX5_ok nmX5 0 rfl rfl 3 (by decide) w_45 rfl rfl rfl rfl (Nat.le_of_ble_eq_true rfl) (ws' := [(a0, .inr (5, [.int (nI 0), .int (nI 0), .int (nI 0), .int (nI 20), .int (nI 0), .null, .null, .null, .null, .null, .null, .null, .null, .null, .null]))]) rfl dX5_init_7 (fun H locs V => ?_)
  refine lv_aload_n hx hb dX5_init_10 rfl (lv_at hl 0 rfl) ?_
  refine lv_bipush (v := (nI 10)) hx hb dX5_init_11 (by decide +kernel) ?_
  refine g_newa hC V (atype := .int) (ty := .int) w_118 rfl 0 rfl (fun _ h => by cases h) (N := 10) (a0 := (10, .inl (fun _ => nI 0))) (fun _ => rfl) (by decide) (by decide) (Nat.le_of_ble_eq_true rfl) (Nat.le_of_ble_eq_true rfl) dX5_init_13 (fun q_1 H V => ?_)
  have V : gW D T A s [(a0, .inr (5, [.int (nI 0), .int (nI 0), .int (nI 0), .int (nI 20), .int (nI 0), .null, .null, .null, .null, .null, .null, .null, .null, .null, .null])), (q_1, .inl (T 0, 10, .inl (fun _ => nI 0)))] H locs := V
  refine g_putF hC hnm V (ci := 5) uwX5 tyX5 tyX5_ok nmX5 0 rfl rfl 5 (by decide) w_51 rfl rfl rfl rfl rfl (Nat.le_of_ble_eq_true rfl) (ws' := [(a0, .inr (5, [.int (nI 0), .int (nI 0), .int (nI 0), .int (nI 20), .int (nI 0), .ref q_1, .null, .null, .null, .null, .null, .null, .null, .null, .null])), (q_1, .inl (T 0, 10, .inl (fun _ => nI 0)))]) rfl dX5_init_15 (fun H locs V => ?_)
  refine lv_aload_n hx hb dX5_init_18 rfl (lv_at hl 0 rfl) ?_
  refine lv_bipush (v := (nI 10)) hx hb dX5_init_19 (by decide +kernel) ?_
  refine g_newa hC V (atype := .int) (ty := .int) w_118 rfl 0 rfl (fun _ h => by cases h) (N := 10) (a0 := (10, .inl (fun _ => nI 0))) (fun _ => rfl) (by decide) (by decide) (Nat.le_of_ble_eq_true rfl) (Nat.le_of_ble_eq_true rfl) dX5_init_21 (fun q_2 H V => ?_)
  have V : gW D T A s [(a0, .inr (5, [.int (nI 0), .int (nI 0), .int (nI 0), .int (nI 20), .int (nI 0), .ref q_1, .null, .null, .null, .null, .null, .null, .null, .null, .null])), (q_1, .inl (T 0, 10, .inl (fun _ => nI 0))), (q_2, .inl (T 0, 10, .inl (fun _ => nI 0)))] H locs := V
  refine g_putF hC hnm V (ci := 5) uwX5 tyX5 tyX5_ok nmX5 0 rfl rfl 6 (by decide) w_56 rfl rfl rfl rfl rfl (Nat.le_of_ble_eq_true rfl) (ws' := [(a0, .inr (5, [.int (nI 0), .int (nI 0), .int (nI 0), .int (nI 20), .int (nI 0), .ref q_1, .ref q_2, .null, .null, .null, .null, .null, .null, .null, .null])), (q_1, .inl (T 0, 10, .inl (fun _ => nI 0))), (q_2, .inl (T 0, 10, .inl (fun _ => nI 0)))]) rfl dX5_init_23 (fun H locs V => ?_)
  refine lv_aload_n hx hb dX5_init_26 rfl (lv_at hl 0 rfl) ?_
  refine lv_bipush (v := (nI 10)) hx hb dX5_init_27 (by decide +kernel) ?_
  refine g_newa hC V (atype := .int) (ty := .int) w_118 rfl 0 rfl (fun _ h => by cases h) (N := 10) (a0 := (10, .inl (fun _ => nI 0))) (fun _ => rfl) (by decide) (by decide) (Nat.le_of_ble_eq_true rfl) (Nat.le_of_ble_eq_true rfl) dX5_init_29 (fun q_3 H V => ?_)
  have V : gW D T A s [(a0, .inr (5, [.int (nI 0), .int (nI 0), .int (nI 0), .int (nI 20), .int (nI 0), .ref q_1, .ref q_2, .null, .null, .null, .null, .null, .null, .null, .null])), (q_1, .inl (T 0, 10, .inl (fun _ => nI 0))), (q_2, .inl (T 0, 10, .inl (fun _ => nI 0))), (q_3, .inl (T 0, 10, .inl (fun _ => nI 0)))] H locs := V
  refine g_putF hC hnm V (ci := 5) uwX5 tyX5 tyX5_ok nmX5 0 rfl rfl 7 (by decide) w_62 rfl rfl rfl rfl rfl (Nat.le_of_ble_eq_true rfl) (ws' := [(a0, .inr (5, [.int (nI 0), .int (nI 0), .int (nI 0), .int (nI 20), .int (nI 0), .ref q_1, .ref q_2, .ref q_3, .null, .null, .null, .null, .null, .null, .null])), (q_1, .inl (T 0, 10, .inl (fun _ => nI 0))), (q_2, .inl (T 0, 10, .inl (fun _ => nI 0))), (q_3, .inl (T 0, 10, .inl (fun _ => nI 0)))]) rfl dX5_init_31 (fun H locs V => ?_)
  refine lv_aload_n hx hb dX5_init_34 rfl (lv_at hl 0 rfl) ?_
  refine lv_bipush (v := (nI 10)) hx hb dX5_init_35 (by decide +kernel) ?_
  refine g_newa hC V (atype := .int) (ty := .int) w_118 rfl 0 rfl (fun _ h => by cases h) (N := 10) (a0 := (10, .inl (fun _ => nI 0))) (fun _ => rfl) (by decide) (by decide) (Nat.le_of_ble_eq_true rfl) (Nat.le_of_ble_eq_true rfl) dX5_init_37 (fun q_4 H V => ?_)
  have V : gW D T A s [(a0, .inr (5, [.int (nI 0), .int (nI 0), .int (nI 0), .int (nI 20), .int (nI 0), .ref q_1, .ref q_2, .ref q_3, .null, .null, .null, .null, .null, .null, .null])), (q_1, .inl (T 0, 10, .inl (fun _ => nI 0))), (q_2, .inl (T 0, 10, .inl (fun _ => nI 0))), (q_3, .inl (T 0, 10, .inl (fun _ => nI 0))), (q_4, .inl (T 0, 10, .inl (fun _ => nI 0)))] H locs := V
  refine g_putF hC hnm V (ci := 5) uwX5 tyX5 tyX5_ok nmX5 0 rfl rfl 8 (by decide) w_67 rfl rfl rfl rfl rfl (Nat.le_of_ble_eq_true rfl) (ws' := [(a0, .inr (5, [.int (nI 0), .int (nI 0), .int (nI 0), .int (nI 20), .int (nI 0), .ref q_1, .ref q_2, .ref q_3, .ref q_4, .null, .null, .null, .null, .null, .null])), (q_1, .inl (T 0, 10, .inl (fun _ => nI 0))), (q_2, .inl (T 0, 10, .inl (fun _ => nI 0))), (q_3, .inl (T 0, 10, .inl (fun _ => nI 0))), (q_4, .inl (T 0, 10, .inl (fun _ => nI 0)))]) rfl dX5_init_39 (fun H locs V => ?_)
  refine lv_aload_n hx hb dX5_init_42 rfl (lv_at hl 0 rfl) ?_
  refine lv_bipush (v := (nI 10)) hx hb dX5_init_43 (by decide +kernel) ?_
  refine g_newa hC V (atype := .int) (ty := .int) w_118 rfl 0 rfl (fun _ h => by cases h) (N := 10) (a0 := (10, .inl (fun _ => nI 0))) (fun _ => rfl) (by decide) (by decide) (Nat.le_of_ble_eq_true rfl) (Nat.le_of_ble_eq_true rfl) dX5_init_45 (fun q_5 H V => ?_)
  have V : gW D T A s [(a0, .inr (5, [.int (nI 0), .int (nI 0), .int (nI 0), .int (nI 20), .int (nI 0), .ref q_1, .ref q_2, .ref q_3, .ref q_4, .null, .null, .null, .null, .null, .null])), (q_1, .inl (T 0, 10, .inl (fun _ => nI 0))), (q_2, .inl (T 0, 10, .inl (fun _ => nI 0))), (q_3, .inl (T 0, 10, .inl (fun _ => nI 0))), (q_4, .inl (T 0, 10, .inl (fun _ => nI 0))), (q_5, .inl (T 0, 10, .inl (fun _ => nI 0)))] H locs := V
  refine g_putF hC hnm V (ci := 5) uwX5 tyX5 tyX5_ok nmX5 0 rfl rfl 9 (by decide) w_70 rfl rfl rfl rfl rfl (Nat.le_of_ble_eq_true rfl) (ws' := [(a0, .inr (5, [.int (nI 0), .int (nI 0), .int (nI 0), .int (nI 20), .int (nI 0), .ref q_1, .ref q_2, .ref q_3, .ref q_4, .ref q_5, .null, .null, .null, .null, .null])), (q_1, .inl (T 0, 10, .inl (fun _ => nI 0))), (q_2, .inl (T 0, 10, .inl (fun _ => nI 0))), (q_3, .inl (T 0, 10, .inl (fun _ => nI 0))), (q_4, .inl (T 0, 10, .inl (fun _ => nI 0))), (q_5, .inl (T 0, 10, .inl (fun _ => nI 0)))]) rfl dX5_init_47 (fun H locs V => ?_)
  refine lv_aload_n hx hb dX5_init_50 rfl (lv_at hl 0 rfl) ?_
  refine lv_bipush (v := (nI 10)) hx hb dX5_init_51 (by decide +kernel) ?_
  refine g_newa hC V (atype := .int) (ty := .int) w_118 rfl 0 rfl (fun _ h => by cases h) (N := 10) (a0 := (10, .inl (fun _ => nI 0))) (fun _ => rfl) (by decide) (by decide) (Nat.le_of_ble_eq_true rfl) (Nat.le_of_ble_eq_true rfl) dX5_init_53 (fun q_6 H V => ?_)
  have V : gW D T A s [(a0, .inr (5, [.int (nI 0), .int (nI 0), .int (nI 0), .int (nI 20), .int (nI 0), .ref q_1, .ref q_2, .ref q_3, .ref q_4, .ref q_5, .null, .null, .null, .null, .null])), (q_1, .inl (T 0, 10, .inl (fun _ => nI 0))), (q_2, .inl (T 0, 10, .inl (fun _ => nI 0))), (q_3, .inl (T 0, 10, .inl (fun _ => nI 0))), (q_4, .inl (T 0, 10, .inl (fun _ => nI 0))), (q_5, .inl (T 0, 10, .inl (fun _ => nI 0))), (q_6, .inl (T 0, 10, .inl (fun _ => nI 0)))] H locs := V
  refine g_putF hC hnm V (ci := 5) uwX5 tyX5 tyX5_ok nmX5 0 rfl rfl 10 (by decide) w_74 rfl rfl rfl rfl rfl (Nat.le_of_ble_eq_true rfl) (ws' := [(a0, .inr (5, [.int (nI 0), .int (nI 0), .int (nI 0), .int (nI 20), .int (nI 0), .ref q_1, .ref q_2, .ref q_3, .ref q_4, .ref q_5, .ref q_6, .null, .null, .null, .null])), (q_1, .inl (T 0, 10, .inl (fun _ => nI 0))), (q_2, .inl (T 0, 10, .inl (fun _ => nI 0))), (q_3, .inl (T 0, 10, .inl (fun _ => nI 0))), (q_4, .inl (T 0, 10, .inl (fun _ => nI 0))), (q_5, .inl (T 0, 10, .inl (fun _ => nI 0))), (q_6, .inl (T 0, 10, .inl (fun _ => nI 0)))]) rfl dX5_init_55 (fun H locs V => ?_)
  refine lv_aload_n hx hb dX5_init_58 rfl (lv_at hl 0 rfl) ?_
  refine lv_bipush (v := (nI 10)) hx hb dX5_init_59 (by decide +kernel) ?_
  refine g_newa hC V (atype := .int) (ty := .int) w_118 rfl 0 rfl (fun _ h => by cases h) (N := 10) (a0 := (10, .inl (fun _ => nI 0))) (fun _ => rfl) (by decide) (by decide) (Nat.le_of_ble_eq_true rfl) (Nat.le_of_ble_eq_true rfl) dX5_init_61 (fun q_7 H V => ?_)
  have V : gW D T A s [(a0, .inr (5, [.int (nI 0), .int (nI 0), .int (nI 0), .int (nI 20), .int (nI 0), .ref q_1, .ref q_2, .ref q_3, .ref q_4, .ref q_5, .ref q_6, .null, .null, .null, .null])), (q_1, .inl (T 0, 10, .inl (fun _ => nI 0))), (q_2, .inl (T 0, 10, .inl (fun _ => nI 0))), (q_3, .inl (T 0, 10, .inl (fun _ => nI 0))), (q_4, .inl (T 0, 10, .inl (fun _ => nI 0))), (q_5, .inl (T 0, 10, .inl (fun _ => nI 0))), (q_6, .inl (T 0, 10, .inl (fun _ => nI 0))), (q_7, .inl (T 0, 10, .inl (fun _ => nI 0)))] H locs := V
  refine g_putF hC hnm V (ci := 5) uwX5 tyX5 tyX5_ok nmX5 0 rfl rfl 11 (by decide) w_77 rfl rfl rfl rfl rfl (Nat.le_of_ble_eq_true rfl) (ws' := [(a0, .inr (5, [.int (nI 0), .int (nI 0), .int (nI 0), .int (nI 20), .int (nI 0), .ref q_1, .ref q_2, .ref q_3, .ref q_4, .ref q_5, .ref q_6, .ref q_7, .null, .null, .null])), (q_1, .inl (T 0, 10, .inl (fun _ => nI 0))), (q_2, .inl (T 0, 10, .inl (fun _ => nI 0))), (q_3, .inl (T 0, 10, .inl (fun _ => nI 0))), (q_4, .inl (T 0, 10, .inl (fun _ => nI 0))), (q_5, .inl (T 0, 10, .inl (fun _ => nI 0))), (q_6, .inl (T 0, 10, .inl (fun _ => nI 0))), (q_7, .inl (T 0, 10, .inl (fun _ => nI 0)))]) rfl dX5_init_63 (fun H locs V => ?_)
  refine lv_aload_n hx hb dX5_init_66 rfl (lv_at hl 0 rfl) ?_
  refine lv_bipush (v := (nI 10)) hx hb dX5_init_67 (by decide +kernel) ?_
  refine g_newa hC V (atype := .int) (ty := .int) w_118 rfl 0 rfl (fun _ h => by cases h) (N := 10) (a0 := (10, .inl (fun _ => nI 0))) (fun _ => rfl) (by decide) (by decide) (Nat.le_of_ble_eq_true rfl) (Nat.le_of_ble_eq_true rfl) dX5_init_69 (fun q_8 H V => ?_)
  have V : gW D T A s [(a0, .inr (5, [.int (nI 0), .int (nI 0), .int (nI 0), .int (nI 20), .int (nI 0), .ref q_1, .ref q_2, .ref q_3, .ref q_4, .ref q_5, .ref q_6, .ref q_7, .null, .null, .null])), (q_1, .inl (T 0, 10, .inl (fun _ => nI 0))), (q_2, .inl (T 0, 10, .inl (fun _ => nI 0))), (q_3, .inl (T 0, 10, .inl (fun _ => nI 0))), (q_4, .inl (T 0, 10, .inl (fun _ => nI 0))), (q_5, .inl (T 0, 10, .inl (fun _ => nI 0))), (q_6, .inl (T 0, 10, .inl (fun _ => nI 0))), (q_7, .inl (T 0, 10, .inl (fun _ => nI 0))), (q_8, .inl (T 0, 10, .inl (fun _ => nI 0)))] H locs := V
  refine g_putF hC hnm V (ci := 5) uwX5 tyX5 tyX5_ok nmX5 0 rfl rfl 12 (by decide) w_80 rfl rfl rfl rfl rfl (Nat.le_of_ble_eq_true rfl) (ws' := [(a0, .inr (5, [.int (nI 0), .int (nI 0), .int (nI 0), .int (nI 20), .int (nI 0), .ref q_1, .ref q_2, .ref q_3, .ref q_4, .ref q_5, .ref q_6, .ref q_7, .ref q_8, .null, .null])), (q_1, .inl (T 0, 10, .inl (fun _ => nI 0))), (q_2, .inl (T 0, 10, .inl (fun _ => nI 0))), (q_3, .inl (T 0, 10, .inl (fun _ => nI 0))), (q_4, .inl (T 0, 10, .inl (fun _ => nI 0))), (q_5, .inl (T 0, 10, .inl (fun _ => nI 0))), (q_6, .inl (T 0, 10, .inl (fun _ => nI 0))), (q_7, .inl (T 0, 10, .inl (fun _ => nI 0))), (q_8, .inl (T 0, 10, .inl (fun _ => nI 0)))]) rfl dX5_init_71 (fun H locs V => ?_)
  refine lv_aload_n hx hb dX5_init_74 rfl (lv_at hl 0 rfl) ?_
  refine lv_bipush (v := (nI 10)) hx hb dX5_init_75 (by decide +kernel) ?_
  refine g_newa hC V (atype := .int) (ty := .int) w_118 rfl 0 rfl (fun _ h => by cases h) (N := 10) (a0 := (10, .inl (fun _ => nI 0))) (fun _ => rfl) (by decide) (by decide) (Nat.le_of_ble_eq_true rfl) (Nat.le_of_ble_eq_true rfl) dX5_init_77 (fun q_9 H V => ?_)
  have V : gW D T A s [(a0, .inr (5, [.int (nI 0), .int (nI 0), .int (nI 0), .int (nI 20), .int (nI 0), .ref q_1, .ref q_2, .ref q_3, .ref q_4, .ref q_5, .ref q_6, .ref q_7, .ref q_8, .null, .null])), (q_1, .inl (T 0, 10, .inl (fun _ => nI 0))), (q_2, .inl (T 0, 10, .inl (fun _ => nI 0))), (q_3, .inl (T 0, 10, .inl (fun _ => nI 0))), (q_4, .inl (T 0, 10, .inl (fun _ => nI 0))), (q_5, .inl (T 0, 10, .inl (fun _ => nI 0))), (q_6, .inl (T 0, 10, .inl (fun _ => nI 0))), (q_7, .inl (T 0, 10, .inl (fun _ => nI 0))), (q_8, .inl (T 0, 10, .inl (fun _ => nI 0))), (q_9, .inl (T 0, 10, .inl (fun _ => nI 0)))] H locs := V
  refine g_putF hC hnm V (ci := 5) uwX5 tyX5 tyX5_ok nmX5 0 rfl rfl 13 (by decide) w_82 rfl rfl rfl rfl rfl (Nat.le_of_ble_eq_true rfl) (ws' := [(a0, .inr (5, [.int (nI 0), .int (nI 0), .int (nI 0), .int (nI 20), .int (nI 0), .ref q_1, .ref q_2, .ref q_3, .ref q_4, .ref q_5, .ref q_6, .ref q_7, .ref q_8, .ref q_9, .null])), (q_1, .inl (T 0, 10, .inl (fun _ => nI 0))), (q_2, .inl (T 0, 10, .inl (fun _ => nI 0))), (q_3, .inl (T 0, 10, .inl (fun _ => nI 0))), (q_4, .inl (T 0, 10, .inl (fun _ => nI 0))), (q_5, .inl (T 0, 10, .inl (fun _ => nI 0))), (q_6, .inl (T 0, 10, .inl (fun _ => nI 0))), (q_7, .inl (T 0, 10, .inl (fun _ => nI 0))), (q_8, .inl (T 0, 10, .inl (fun _ => nI 0))), (q_9, .inl (T 0, 10, .inl (fun _ => nI 0)))]) rfl dX5_init_79 (fun H locs V => ?_)
  refine lv_aload_n hx hb dX5_init_82 rfl (lv_at hl 0 rfl) ?_
  refine lv_bipush (v := (nI 10)) hx hb dX5_init_83 (by decide +kernel) ?_
  refine g_newa hC V (atype := .int) (ty := .int) w_118 rfl 0 rfl (fun _ h => by cases h) (N := 10) (a0 := (10, .inl (fun _ => nI 0))) (fun _ => rfl) (by decide) (by decide) (Nat.le_of_ble_eq_true rfl) (Nat.le_of_ble_eq_true rfl) dX5_init_85 (fun q_10 H V => ?_)
  have V : gW D T A s [(a0, .inr (5, [.int (nI 0), .int (nI 0), .int (nI 0), .int (nI 20), .int (nI 0), .ref q_1, .ref q_2, .ref q_3, .ref q_4, .ref q_5, .ref q_6, .ref q_7, .ref q_8, .ref q_9, .null])), (q_1, .inl (T 0, 10, .inl (fun _ => nI 0))), (q_2, .inl (T 0, 10, .inl (fun _ => nI 0))), (q_3, .inl (T 0, 10, .inl (fun _ => nI 0))), (q_4, .inl (T 0, 10, .inl (fun _ => nI 0))), (q_5, .inl (T 0, 10, .inl (fun _ => nI 0))), (q_6, .inl (T 0, 10, .inl (fun _ => nI 0))), (q_7, .inl (T 0, 10, .inl (fun _ => nI 0))), (q_8, .inl (T 0, 10, .inl (fun _ => nI 0))), (q_9, .inl (T 0, 10, .inl (fun _ => nI 0))), (q_10, .inl (T 0, 10, .inl (fun _ => nI 0)))] H locs := V
  refine g_putF hC hnm V (ci := 5) uwX5 tyX5 tyX5_ok nmX5 0 rfl rfl 14 (by decide) w_86 rfl rfl rfl rfl rfl (Nat.le_of_ble_eq_true rfl) (ws' := [(a0, .inr (5, [.int (nI 0), .int (nI 0), .int (nI 0), .int (nI 20), .int (nI 0), .ref q_1, .ref q_2, .ref q_3, .ref q_4, .ref q_5, .ref q_6, .ref q_7, .ref q_8, .ref q_9, .ref q_10])), (q_1, .inl (T 0, 10, .inl (fun _ => nI 0))), (q_2, .inl (T 0, 10, .inl (fun _ => nI 0))), (q_3, .inl (T 0, 10, .inl (fun _ => nI 0))), (q_4, .inl (T 0, 10, .inl (fun _ => nI 0))), (q_5, .inl (T 0, 10, .inl (fun _ => nI 0))), (q_6, .inl (T 0, 10, .inl (fun _ => nI 0))), (q_7, .inl (T 0, 10, .inl (fun _ => nI 0))), (q_8, .inl (T 0, 10, .inl (fun _ => nI 0))), (q_9, .inl (T 0, 10, .inl (fun _ => nI 0))), (q_10, .inl (T 0, 10, .inl (fun _ => nI 0)))]) rfl dX5_init_87 (fun H locs V => ?_)
  exact g_vret (Qr := (q_Street_init T a0)) hC V ⟨(Nat.le_of_ble_eq_true rfl), (Nat.le_of_ble_eq_true rfl)⟩ ⟨q_1, q_2, q_3, q_4, q_5, q_6, q_7, q_8, q_9, q_10, rfl, rfl⟩ dX5_init_90

def q_NumberRow_init (T : Nat → ClassId) (a0 : Nat) : Option Value → va_W → Prop := fun rr ww => (∃ (b1 : Nat), rr = none ∧ ww = [(a0, .inr (1, [.int (nI 0), .int (nI 0), .ref b1, .int (nI 0)])), (b1, .inl (T 1, 40, .inr (.inl (fun _ => 0))))])
set_option maxHeartbeats 4000000 in
set_option maxRecDepth 100000 in
theorem c_NumberRow_init (l : Launch) (D : va_G) (T : Nat → ClassId) (a0 : Nat) : Ct l yX1_init cX1_init 1 none 1 1 40 D T [.ref a0] [(a0, .inr (1, [.int (nI 0), .int (nI 0), .null, .int (nI 0)]))] (q_NumberRow_init T a0) := by
  refine Ct.of (cc := cX1_init) (maxL := 1) (ret := none) (by decide) (Nat.le_of_ble_eq_true rfl) ?_
  intro p e s m args below meth c A ls hC hnm V hl
  obtain ⟨hx, hb, hr, hml, hown, hts, hlocks⟩ := id hC
  generalize hH : s.heap = H at V ⊢
  clear hH
  have hl : lv_has ls 1 [(0, .ref a0)] := hl
  generalize hlo : ([] : List Loc) = locs at V ⊢
  clear hlo
  refine lv_aload_n hx hb dX1_init_0 rfl (lv_at hl 0 rfl) ?_
  refine g_objInit hC hl.1 w_227 w_25 w_26 dX1_init_1 (Nat.le_of_ble_eq_true rfl) (Nat.le_of_ble_eq_true rfl) (Nat.le_of_ble_eq_true rfl) ?_
  refine lv_aload_n hx hb dX1_init_4 rfl (lv_at hl 0 rfl) ?_
  refine lv_bipush (v := (nI 40)) hx hb dX1_init_5 (by decide +kernel) ?_
  refine g_newa hC V (atype := .long) (ty := .long) w_248 rfl 1 rfl (fun _ h => by cases h) (N := 40) (a0 := (40, .inr (.inl (fun _ => 0)))) (fun _ => rfl) (by decide) (by decide) (Nat.le_of_ble_eq_true rfl) (Nat.le_of_ble_eq_true rfl) dX1_init_7 (fun q_1 H V => ?_)
  have V : gW D T A s [(a0, .inr (1, [.int (nI 0), .int (nI 0), .null, .int (nI 0)])), (q_1, .inl (T 1, 40, .inr (.inl (fun _ => 0))))] H locs := V
  refine g_putF hC hnm V (ci := 1) uwX1 tyX1 tyX1_ok nmX1 0 rfl rfl 2 (by decide) w_233 rfl rfl rfl rfl rfl (Nat.le_of_ble_eq_true rfl) (ws' := [(a0, .inr (1, [.int (nI 0), .int (nI 0), .ref q_1, .int (nI 0)])), (q_1, .inl (T 1, 40, .inr (.inl (fun _ => 0))))]) rfl dX1_init_9 (fun H locs V => ?_)
  exact g_vret (Qr := (q_NumberRow_init T a0)) hC V ⟨(Nat.le_of_ble_eq_true rfl), (Nat.le_of_ble_eq_true rfl)⟩ ⟨q_1, rfl, rfl⟩ dX1_init_12

def q_Reader_init (T : Nat → ClassId) (a0 : Nat) : Option Value → va_W → Prop := fun rr ww => (∃ (b1 : Nat), rr = none ∧ ww = [(a0, .inr (2, [.int (nI 0), .int (nI 0), .int (-1), .ref b1, .int (nI 0), .int (nI 0), .int (nI 0), .int (nI 0)])), (b1, .inl (T 3, 900, .inl (fun _ => nI 0)))])
set_option maxHeartbeats 4000000 in
set_option maxRecDepth 100000 in
theorem c_Reader_init (l : Launch) (D : va_G) (T : Nat → ClassId) (a0 : Nat) : Ct l yX2_init cX2_init 1 none 1 1 900 D T [.ref a0] [(a0, .inr (2, [.int (nI 0), .int (nI 0), .int (nI 0), .null, .int (nI 0), .int (nI 0), .int (nI 0), .int (nI 0)]))] (q_Reader_init T a0) := by
  refine Ct.of (cc := cX2_init) (maxL := 1) (ret := none) (by decide) (Nat.le_of_ble_eq_true rfl) ?_
  intro p e s m args below meth c A ls hC hnm V hl
  obtain ⟨hx, hb, hr, hml, hown, hts, hlocks⟩ := id hC
  generalize hH : s.heap = H at V ⊢
  clear hH
  have hl : lv_has ls 1 [(0, .ref a0)] := hl
  generalize hlo : ([] : List Loc) = locs at V ⊢
  clear hlo
  refine lv_aload_n hx hb dX2_init_0 rfl (lv_at hl 0 rfl) ?_
  refine g_objInit hC hl.1 w_127 w_25 w_26 dX2_init_1 (Nat.le_of_ble_eq_true rfl) (Nat.le_of_ble_eq_true rfl) (Nat.le_of_ble_eq_true rfl) ?_
  refine lv_aload_n hx hb dX2_init_4 rfl (lv_at hl 0 rfl) ?_
  refine lv_iconst (v := (-1)) hx hb dX2_init_5 (by decide +kernel) ?_
  refine g_put hC V (ci := 2) uwX2 tyX2 tyX2_ok nmX2 0 rfl rfl 2 (by decide) w_132 rfl rfl rfl rfl (Nat.le_of_ble_eq_true rfl) (ws' := [(a0, .inr (2, [.int (nI 0), .int (nI 0), .int (-1), .null, .int (nI 0), .int (nI 0), .int (nI 0), .int (nI 0)]))]) rfl dX2_init_6 (fun H locs V => ?_)
  refine lv_aload_n hx hb dX2_init_9 rfl (lv_at hl 0 rfl) ?_
  refine lv_sipush (v := (nI 900)) hx hb dX2_init_10 (by decide +kernel) ?_
  refine g_newa hC V (atype := .byte) (ty := .byte) w_157 rfl 3 rfl (fun _ h => by cases h) (N := 900) (a0 := (900, .inl (fun _ => nI 0))) (fun _ => rfl) (by decide) (by decide) (Nat.le_of_ble_eq_true rfl) (Nat.le_of_ble_eq_true rfl) dX2_init_13 (fun q_1 H V => ?_)
  have V : gW D T A s [(a0, .inr (2, [.int (nI 0), .int (nI 0), .int (-1), .null, .int (nI 0), .int (nI 0), .int (nI 0), .int (nI 0)])), (q_1, .inl (T 3, 900, .inl (fun _ => nI 0)))] H locs := V
  refine g_putF hC hnm V (ci := 2) uwX2 tyX2 tyX2_ok nmX2 0 rfl rfl 3 (by decide) w_134 rfl rfl rfl rfl rfl (Nat.le_of_ble_eq_true rfl) (ws' := [(a0, .inr (2, [.int (nI 0), .int (nI 0), .int (-1), .ref q_1, .int (nI 0), .int (nI 0), .int (nI 0), .int (nI 0)])), (q_1, .inl (T 3, 900, .inl (fun _ => nI 0)))]) rfl dX2_init_15 (fun H locs V => ?_)
  exact g_vret (Qr := (q_Reader_init T a0)) hC V ⟨(Nat.le_of_ble_eq_true rfl), (Nat.le_of_ble_eq_true rfl)⟩ ⟨q_1, rfl, rfl⟩ dX2_init_18

def q_ToldMinutes_init (T : Nat → ClassId) (a0 : Nat) : Option Value → va_W → Prop := fun rr ww => (rr = none ∧ ww = [(a0, .inr (6, [.int (nI 0), .int (nI 0), .int (nI 0)]))])
set_option maxHeartbeats 4000000 in
set_option maxRecDepth 100000 in
theorem c_ToldMinutes_init (l : Launch) (D : va_G) (T : Nat → ClassId) (a0 : Nat) : Ct l yX6_init cX6_init 1 none 1 0 0 D T [.ref a0] [(a0, .inr (6, [.int (nI 0), .int (nI 0), .int (nI 0)]))] (q_ToldMinutes_init T a0) := by
  refine Ct.of (cc := cX6_init) (maxL := 1) (ret := none) (by decide) (Nat.le_of_ble_eq_true rfl) ?_
  intro p e s m args below meth c A ls hC hnm V hl
  obtain ⟨hx, hb, hr, hml, hown, hts, hlocks⟩ := id hC
  generalize hH : s.heap = H at V ⊢
  clear hH
  have hl : lv_has ls 1 [(0, .ref a0)] := hl
  generalize hlo : ([] : List Loc) = locs at V ⊢
  clear hlo
  refine lv_aload_n hx hb dX6_init_0 rfl (lv_at hl 0 rfl) ?_
  refine g_objInit hC hl.1 w_163 w_25 w_26 dX6_init_1 (Nat.le_of_ble_eq_true rfl) (Nat.le_of_ble_eq_true rfl) (Nat.le_of_ble_eq_true rfl) ?_
  exact g_vret (Qr := (q_ToldMinutes_init T a0)) hC V ⟨(Nat.le_of_ble_eq_true rfl), (Nat.le_of_ble_eq_true rfl)⟩ ⟨rfl, rfl⟩ dX6_init_4

def q_Rhythms_init (T : Nat → ClassId) (a0 : Nat) : Option Value → va_W → Prop := fun rr ww => (∃ (b1 : Nat) (b2 : Nat) (b3 : Nat), rr = none ∧ ww = [(a0, .inr (3, [.ref b1, .int (nI 0), .int (nI 0), .int (nI 0), .ref b2, .ref b3])), (b1, .inl (T 0, 10, .inl (fun _ => nI 0))), (b2, .inl (T 0, 10, .inl (fun _ => nI 0))), (b3, .inl (T 0, 12, .inl (fun _ => nI 0)))])
set_option maxHeartbeats 4000000 in
set_option maxRecDepth 100000 in
theorem c_Rhythms_init (l : Launch) (D : va_G) (T : Nat → ClassId) (a0 : Nat) : Ct l yX3_init cX3_init 1 none 1 3 32 D T [.ref a0] [(a0, .inr (3, [.null, .int (nI 0), .int (nI 0), .int (nI 0), .null, .null]))] (q_Rhythms_init T a0) := by
  refine Ct.of (cc := cX3_init) (maxL := 1) (ret := none) (by decide) (Nat.le_of_ble_eq_true rfl) ?_
  intro p e s m args below meth c A ls hC hnm V hl
  obtain ⟨hx, hb, hr, hml, hown, hts, hlocks⟩ := id hC
  generalize hH : s.heap = H at V ⊢
  clear hH
  have hl : lv_has ls 1 [(0, .ref a0)] := hl
  generalize hlo : ([] : List Loc) = locs at V ⊢
  clear hlo
  refine lv_aload_n hx hb dX3_init_0 rfl (lv_at hl 0 rfl) ?_
  refine g_objInit hC hl.1 w_182 w_25 w_26 dX3_init_1 (Nat.le_of_ble_eq_true rfl) (Nat.le_of_ble_eq_true rfl) (Nat.le_of_ble_eq_true rfl) ?_
  refine lv_aload_n hx hb dX3_init_4 rfl (lv_at hl 0 rfl) ?_
  refine lv_bipush (v := (nI 10)) hx hb dX3_init_5 (by decide +kernel) ?_
  refine g_newa hC V (atype := .int) (ty := .int) w_118 rfl 0 rfl (fun _ h => by cases h) (N := 10) (a0 := (10, .inl (fun _ => nI 0))) (fun _ => rfl) (by decide) (by decide) (Nat.le_of_ble_eq_true rfl) (Nat.le_of_ble_eq_true rfl) dX3_init_7 (fun q_1 H V => ?_)
  have V : gW D T A s [(a0, .inr (3, [.null, .int (nI 0), .int (nI 0), .int (nI 0), .null, .null])), (q_1, .inl (T 0, 10, .inl (fun _ => nI 0)))] H locs := V
  refine g_putF hC hnm V (ci := 3) uwX3 tyX3 tyX3_ok nmX3 0 rfl rfl 0 (by decide) w_183 rfl rfl rfl rfl rfl (Nat.le_of_ble_eq_true rfl) (ws' := [(a0, .inr (3, [.ref q_1, .int (nI 0), .int (nI 0), .int (nI 0), .null, .null])), (q_1, .inl (T 0, 10, .inl (fun _ => nI 0)))]) rfl dX3_init_9 (fun H locs V => ?_)
  refine lv_aload_n hx hb dX3_init_12 rfl (lv_at hl 0 rfl) ?_
  refine lv_bipush (v := (nI 10)) hx hb dX3_init_13 (by decide +kernel) ?_
  refine g_newa hC V (atype := .int) (ty := .int) w_118 rfl 0 rfl (fun _ h => by cases h) (N := 10) (a0 := (10, .inl (fun _ => nI 0))) (fun _ => rfl) (by decide) (by decide) (Nat.le_of_ble_eq_true rfl) (Nat.le_of_ble_eq_true rfl) dX3_init_15 (fun q_2 H V => ?_)
  have V : gW D T A s [(a0, .inr (3, [.ref q_1, .int (nI 0), .int (nI 0), .int (nI 0), .null, .null])), (q_1, .inl (T 0, 10, .inl (fun _ => nI 0))), (q_2, .inl (T 0, 10, .inl (fun _ => nI 0)))] H locs := V
  refine g_putF hC hnm V (ci := 3) uwX3 tyX3 tyX3_ok nmX3 0 rfl rfl 4 (by decide) w_190 rfl rfl rfl rfl rfl (Nat.le_of_ble_eq_true rfl) (ws' := [(a0, .inr (3, [.ref q_1, .int (nI 0), .int (nI 0), .int (nI 0), .ref q_2, .null])), (q_1, .inl (T 0, 10, .inl (fun _ => nI 0))), (q_2, .inl (T 0, 10, .inl (fun _ => nI 0)))]) rfl dX3_init_17 (fun H locs V => ?_)
  refine lv_aload_n hx hb dX3_init_20 rfl (lv_at hl 0 rfl) ?_
  refine lv_bipush (v := (nI 12)) hx hb dX3_init_21 (by decide +kernel) ?_
  refine g_newa hC V (atype := .int) (ty := .int) w_118 rfl 0 rfl (fun _ h => by cases h) (N := 12) (a0 := (12, .inl (fun _ => nI 0))) (fun _ => rfl) (by decide) (by decide) (Nat.le_of_ble_eq_true rfl) (Nat.le_of_ble_eq_true rfl) dX3_init_23 (fun q_3 H V => ?_)
  have V : gW D T A s [(a0, .inr (3, [.ref q_1, .int (nI 0), .int (nI 0), .int (nI 0), .ref q_2, .null])), (q_1, .inl (T 0, 10, .inl (fun _ => nI 0))), (q_2, .inl (T 0, 10, .inl (fun _ => nI 0))), (q_3, .inl (T 0, 12, .inl (fun _ => nI 0)))] H locs := V
  refine g_putF hC hnm V (ci := 3) uwX3 tyX3 tyX3_ok nmX3 0 rfl rfl 5 (by decide) w_191 rfl rfl rfl rfl rfl (Nat.le_of_ble_eq_true rfl) (ws' := [(a0, .inr (3, [.ref q_1, .int (nI 0), .int (nI 0), .int (nI 0), .ref q_2, .ref q_3])), (q_1, .inl (T 0, 10, .inl (fun _ => nI 0))), (q_2, .inl (T 0, 10, .inl (fun _ => nI 0))), (q_3, .inl (T 0, 12, .inl (fun _ => nI 0)))]) rfl dX3_init_25 (fun H locs V => ?_)
  exact g_vret (Qr := (q_Rhythms_init T a0)) hC V ⟨(Nat.le_of_ble_eq_true rfl), (Nat.le_of_ble_eq_true rfl)⟩ ⟨q_1, q_2, q_3, rfl, rfl⟩ dX3_init_28

def q_Layout_init (T : Nat → ClassId) (a0 : Nat) : Option Value → va_W → Prop := fun rr ww => (∃ (b1 : Nat) (b2 : Nat), rr = none ∧ ww = [(a0, .inr (0, [.int (nI 0), .ref b1, .ref b2])), (b1, .inl (T 0, 7, .inl (fun _ => nI 0))), (b2, .inl (T 0, 7, .inl (fun _ => nI 0)))])
set_option maxHeartbeats 4000000 in
set_option maxRecDepth 100000 in
theorem c_Layout_init (l : Launch) (D : va_G) (T : Nat → ClassId) (a0 : Nat) : Ct l yX0_init cX0_init 1 none 1 2 14 D T [.ref a0] [(a0, .inr (0, [.int (nI 0), .null, .null]))] (q_Layout_init T a0) := by
  refine Ct.of (cc := cX0_init) (maxL := 1) (ret := none) (by decide) (Nat.le_of_ble_eq_true rfl) ?_
  intro p e s m args below meth c A ls hC hnm V hl
  obtain ⟨hx, hb, hr, hml, hown, hts, hlocks⟩ := id hC
  generalize hH : s.heap = H at V ⊢
  clear hH
  have hl : lv_has ls 1 [(0, .ref a0)] := hl
  generalize hlo : ([] : List Loc) = locs at V ⊢
  clear hlo
  refine lv_aload_n hx hb dX0_init_0 rfl (lv_at hl 0 rfl) ?_
  refine g_objInit hC hl.1 w_210 w_25 w_26 dX0_init_1 (Nat.le_of_ble_eq_true rfl) (Nat.le_of_ble_eq_true rfl) (Nat.le_of_ble_eq_true rfl) ?_
  refine lv_aload_n hx hb dX0_init_4 rfl (lv_at hl 0 rfl) ?_
  refine lv_bipush (v := (nI 7)) hx hb dX0_init_5 (by decide +kernel) ?_
  refine g_newa hC V (atype := .int) (ty := .int) w_118 rfl 0 rfl (fun _ h => by cases h) (N := 7) (a0 := (7, .inl (fun _ => nI 0))) (fun _ => rfl) (by decide) (by decide) (Nat.le_of_ble_eq_true rfl) (Nat.le_of_ble_eq_true rfl) dX0_init_7 (fun q_1 H V => ?_)
  have V : gW D T A s [(a0, .inr (0, [.int (nI 0), .null, .null])), (q_1, .inl (T 0, 7, .inl (fun _ => nI 0)))] H locs := V
  refine g_putF hC hnm V (ci := 0) uwX0 tyX0 tyX0_ok nmX0 0 rfl rfl 1 (by decide) w_213 rfl rfl rfl rfl rfl (Nat.le_of_ble_eq_true rfl) (ws' := [(a0, .inr (0, [.int (nI 0), .ref q_1, .null])), (q_1, .inl (T 0, 7, .inl (fun _ => nI 0)))]) rfl dX0_init_9 (fun H locs V => ?_)
  refine lv_aload_n hx hb dX0_init_12 rfl (lv_at hl 0 rfl) ?_
  refine lv_bipush (v := (nI 7)) hx hb dX0_init_13 (by decide +kernel) ?_
  refine g_newa hC V (atype := .int) (ty := .int) w_118 rfl 0 rfl (fun _ h => by cases h) (N := 7) (a0 := (7, .inl (fun _ => nI 0))) (fun _ => rfl) (by decide) (by decide) (Nat.le_of_ble_eq_true rfl) (Nat.le_of_ble_eq_true rfl) dX0_init_15 (fun q_2 H V => ?_)
  have V : gW D T A s [(a0, .inr (0, [.int (nI 0), .ref q_1, .null])), (q_1, .inl (T 0, 7, .inl (fun _ => nI 0))), (q_2, .inl (T 0, 7, .inl (fun _ => nI 0)))] H locs := V
  refine g_putF hC hnm V (ci := 0) uwX0 tyX0 tyX0_ok nmX0 0 rfl rfl 2 (by decide) w_215 rfl rfl rfl rfl rfl (Nat.le_of_ble_eq_true rfl) (ws' := [(a0, .inr (0, [.int (nI 0), .ref q_1, .ref q_2])), (q_1, .inl (T 0, 7, .inl (fun _ => nI 0))), (q_2, .inl (T 0, 7, .inl (fun _ => nI 0)))]) rfl dX0_init_17 (fun H locs V => ?_)
  exact g_vret (Qr := (q_Layout_init T a0)) hC V ⟨(Nat.le_of_ble_eq_true rfl), (Nat.le_of_ble_eq_true rfl)⟩ ⟨q_1, q_2, rfl, rfl⟩ dX0_init_20

def q_Search_init (T : Nat → ClassId) (a0 : Nat) : Option Value → va_W → Prop := fun rr ww => (∃ (b1 : Nat) (b2 : Nat) (b3 : Nat) (b4 : Nat) (b5 : Nat) (b6 : Nat), rr = none ∧ ww = [(a0, .inr (4, [.ref b1, .ref b2, .int (nI 0), .ref b3, .ref b4, .ref b5, .ref b6])), (b1, .inl (T 1, 3001, .inr (.inl (fun _ => 0)))), (b2, .inl (T 0, 8192, .inl (fun _ => nI 0))), (b3, .inl (T 0, 3, .inl (fun _ => nI 0))), (b4, .inl (T 0, 3, .inl (fun _ => nI 0))), (b5, .inl (T 0, 3, .inl (fun _ => nI 0))), (b6, .inl (T 0, 24, .inl (fun _ => nI 0)))])
set_option maxHeartbeats 4000000 in
set_option maxRecDepth 100000 in
theorem c_Search_init (l : Launch) (D : va_G) (T : Nat → ClassId) (a0 : Nat) : Ct l yX4_init cX4_init 1 none 1 6 11226 D T [.ref a0] [(a0, .inr (4, [.null, .null, .int (nI 0), .null, .null, .null, .null]))] (q_Search_init T a0) := by
  refine Ct.of (cc := cX4_init) (maxL := 1) (ret := none) (by decide) (Nat.le_of_ble_eq_true rfl) ?_
  intro p e s m args below meth c A ls hC hnm V hl
  obtain ⟨hx, hb, hr, hml, hown, hts, hlocks⟩ := id hC
  generalize hH : s.heap = H at V ⊢
  clear hH
  have hl : lv_has ls 1 [(0, .ref a0)] := hl
  generalize hlo : ([] : List Loc) = locs at V ⊢
  clear hlo
  refine lv_aload_n hx hb dX4_init_0 rfl (lv_at hl 0 rfl) ?_
  refine g_objInit hC hl.1 w_712 w_25 w_26 dX4_init_1 (Nat.le_of_ble_eq_true rfl) (Nat.le_of_ble_eq_true rfl) (Nat.le_of_ble_eq_true rfl) ?_
  refine lv_aload_n hx hb dX4_init_4 rfl (lv_at hl 0 rfl) ?_
  refine lv_sipush (v := (nI 3001)) hx hb dX4_init_5 (by decide +kernel) ?_
  refine g_newa hC V (atype := .long) (ty := .long) w_248 rfl 1 rfl (fun _ h => by cases h) (N := 3001) (a0 := (3001, .inr (.inl (fun _ => 0)))) (fun _ => rfl) (by decide) (by decide) (Nat.le_of_ble_eq_true rfl) (Nat.le_of_ble_eq_true rfl) dX4_init_8 (fun q_1 H V => ?_)
  have V : gW D T A s [(a0, .inr (4, [.null, .null, .int (nI 0), .null, .null, .null, .null])), (q_1, .inl (T 1, 3001, .inr (.inl (fun _ => 0))))] H locs := V
  refine g_putF hC hnm V (ci := 4) uwX4 tyX4 tyX4_ok nmX4 0 rfl rfl 0 (by decide) w_713 rfl rfl rfl rfl rfl (Nat.le_of_ble_eq_true rfl) (ws' := [(a0, .inr (4, [.ref q_1, .null, .int (nI 0), .null, .null, .null, .null])), (q_1, .inl (T 1, 3001, .inr (.inl (fun _ => 0))))]) rfl dX4_init_10 (fun H locs V => ?_)
  refine lv_aload_n hx hb dX4_init_13 rfl (lv_at hl 0 rfl) ?_
  refine lv_sipush (v := (nI 8192)) hx hb dX4_init_14 (by decide +kernel) ?_
  refine g_newa hC V (atype := .int) (ty := .int) w_118 rfl 0 rfl (fun _ h => by cases h) (N := 8192) (a0 := (8192, .inl (fun _ => nI 0))) (fun _ => rfl) (by decide) (by decide) (Nat.le_of_ble_eq_true rfl) (Nat.le_of_ble_eq_true rfl) dX4_init_17 (fun q_2 H V => ?_)
  have V : gW D T A s [(a0, .inr (4, [.ref q_1, .null, .int (nI 0), .null, .null, .null, .null])), (q_1, .inl (T 1, 3001, .inr (.inl (fun _ => 0)))), (q_2, .inl (T 0, 8192, .inl (fun _ => nI 0)))] H locs := V
  refine g_putF hC hnm V (ci := 4) uwX4 tyX4 tyX4_ok nmX4 0 rfl rfl 1 (by decide) w_714 rfl rfl rfl rfl rfl (Nat.le_of_ble_eq_true rfl) (ws' := [(a0, .inr (4, [.ref q_1, .ref q_2, .int (nI 0), .null, .null, .null, .null])), (q_1, .inl (T 1, 3001, .inr (.inl (fun _ => 0)))), (q_2, .inl (T 0, 8192, .inl (fun _ => nI 0)))]) rfl dX4_init_19 (fun H locs V => ?_)
  refine lv_aload_n hx hb dX4_init_22 rfl (lv_at hl 0 rfl) ?_
  refine lv_iconst (v := (nI 3)) hx hb dX4_init_23 (by decide +kernel) ?_
  refine g_newa hC V (atype := .int) (ty := .int) w_118 rfl 0 rfl (fun _ h => by cases h) (N := 3) (a0 := (3, .inl (fun _ => nI 0))) (fun _ => rfl) (by decide) (by decide) (Nat.le_of_ble_eq_true rfl) (Nat.le_of_ble_eq_true rfl) dX4_init_24 (fun q_3 H V => ?_)
  have V : gW D T A s [(a0, .inr (4, [.ref q_1, .ref q_2, .int (nI 0), .null, .null, .null, .null])), (q_1, .inl (T 1, 3001, .inr (.inl (fun _ => 0)))), (q_2, .inl (T 0, 8192, .inl (fun _ => nI 0))), (q_3, .inl (T 0, 3, .inl (fun _ => nI 0)))] H locs := V
  refine g_putF hC hnm V (ci := 4) uwX4 tyX4 tyX4_ok nmX4 0 rfl rfl 3 (by decide) w_716 rfl rfl rfl rfl rfl (Nat.le_of_ble_eq_true rfl) (ws' := [(a0, .inr (4, [.ref q_1, .ref q_2, .int (nI 0), .ref q_3, .null, .null, .null])), (q_1, .inl (T 1, 3001, .inr (.inl (fun _ => 0)))), (q_2, .inl (T 0, 8192, .inl (fun _ => nI 0))), (q_3, .inl (T 0, 3, .inl (fun _ => nI 0)))]) rfl dX4_init_26 (fun H locs V => ?_)
  refine lv_aload_n hx hb dX4_init_29 rfl (lv_at hl 0 rfl) ?_
  refine lv_iconst (v := (nI 3)) hx hb dX4_init_30 (by decide +kernel) ?_
  refine g_newa hC V (atype := .int) (ty := .int) w_118 rfl 0 rfl (fun _ h => by cases h) (N := 3) (a0 := (3, .inl (fun _ => nI 0))) (fun _ => rfl) (by decide) (by decide) (Nat.le_of_ble_eq_true rfl) (Nat.le_of_ble_eq_true rfl) dX4_init_31 (fun q_4 H V => ?_)
  have V : gW D T A s [(a0, .inr (4, [.ref q_1, .ref q_2, .int (nI 0), .ref q_3, .null, .null, .null])), (q_1, .inl (T 1, 3001, .inr (.inl (fun _ => 0)))), (q_2, .inl (T 0, 8192, .inl (fun _ => nI 0))), (q_3, .inl (T 0, 3, .inl (fun _ => nI 0))), (q_4, .inl (T 0, 3, .inl (fun _ => nI 0)))] H locs := V
  refine g_putF hC hnm V (ci := 4) uwX4 tyX4 tyX4_ok nmX4 0 rfl rfl 4 (by decide) w_717 rfl rfl rfl rfl rfl (Nat.le_of_ble_eq_true rfl) (ws' := [(a0, .inr (4, [.ref q_1, .ref q_2, .int (nI 0), .ref q_3, .ref q_4, .null, .null])), (q_1, .inl (T 1, 3001, .inr (.inl (fun _ => 0)))), (q_2, .inl (T 0, 8192, .inl (fun _ => nI 0))), (q_3, .inl (T 0, 3, .inl (fun _ => nI 0))), (q_4, .inl (T 0, 3, .inl (fun _ => nI 0)))]) rfl dX4_init_33 (fun H locs V => ?_)
  refine lv_aload_n hx hb dX4_init_36 rfl (lv_at hl 0 rfl) ?_
  refine lv_iconst (v := (nI 3)) hx hb dX4_init_37 (by decide +kernel) ?_
  refine g_newa hC V (atype := .int) (ty := .int) w_118 rfl 0 rfl (fun _ h => by cases h) (N := 3) (a0 := (3, .inl (fun _ => nI 0))) (fun _ => rfl) (by decide) (by decide) (Nat.le_of_ble_eq_true rfl) (Nat.le_of_ble_eq_true rfl) dX4_init_38 (fun q_5 H V => ?_)
  have V : gW D T A s [(a0, .inr (4, [.ref q_1, .ref q_2, .int (nI 0), .ref q_3, .ref q_4, .null, .null])), (q_1, .inl (T 1, 3001, .inr (.inl (fun _ => 0)))), (q_2, .inl (T 0, 8192, .inl (fun _ => nI 0))), (q_3, .inl (T 0, 3, .inl (fun _ => nI 0))), (q_4, .inl (T 0, 3, .inl (fun _ => nI 0))), (q_5, .inl (T 0, 3, .inl (fun _ => nI 0)))] H locs := V
  refine g_putF hC hnm V (ci := 4) uwX4 tyX4 tyX4_ok nmX4 0 rfl rfl 5 (by decide) w_718 rfl rfl rfl rfl rfl (Nat.le_of_ble_eq_true rfl) (ws' := [(a0, .inr (4, [.ref q_1, .ref q_2, .int (nI 0), .ref q_3, .ref q_4, .ref q_5, .null])), (q_1, .inl (T 1, 3001, .inr (.inl (fun _ => 0)))), (q_2, .inl (T 0, 8192, .inl (fun _ => nI 0))), (q_3, .inl (T 0, 3, .inl (fun _ => nI 0))), (q_4, .inl (T 0, 3, .inl (fun _ => nI 0))), (q_5, .inl (T 0, 3, .inl (fun _ => nI 0)))]) rfl dX4_init_40 (fun H locs V => ?_)
  refine lv_aload_n hx hb dX4_init_43 rfl (lv_at hl 0 rfl) ?_
  refine lv_bipush (v := (nI 24)) hx hb dX4_init_44 (by decide +kernel) ?_
  refine g_newa hC V (atype := .int) (ty := .int) w_118 rfl 0 rfl (fun _ h => by cases h) (N := 24) (a0 := (24, .inl (fun _ => nI 0))) (fun _ => rfl) (by decide) (by decide) (Nat.le_of_ble_eq_true rfl) (Nat.le_of_ble_eq_true rfl) dX4_init_46 (fun q_6 H V => ?_)
  have V : gW D T A s [(a0, .inr (4, [.ref q_1, .ref q_2, .int (nI 0), .ref q_3, .ref q_4, .ref q_5, .null])), (q_1, .inl (T 1, 3001, .inr (.inl (fun _ => 0)))), (q_2, .inl (T 0, 8192, .inl (fun _ => nI 0))), (q_3, .inl (T 0, 3, .inl (fun _ => nI 0))), (q_4, .inl (T 0, 3, .inl (fun _ => nI 0))), (q_5, .inl (T 0, 3, .inl (fun _ => nI 0))), (q_6, .inl (T 0, 24, .inl (fun _ => nI 0)))] H locs := V
  refine g_putF hC hnm V (ci := 4) uwX4 tyX4 tyX4_ok nmX4 0 rfl rfl 6 (by decide) w_719 rfl rfl rfl rfl rfl (Nat.le_of_ble_eq_true rfl) (ws' := [(a0, .inr (4, [.ref q_1, .ref q_2, .int (nI 0), .ref q_3, .ref q_4, .ref q_5, .ref q_6])), (q_1, .inl (T 1, 3001, .inr (.inl (fun _ => 0)))), (q_2, .inl (T 0, 8192, .inl (fun _ => nI 0))), (q_3, .inl (T 0, 3, .inl (fun _ => nI 0))), (q_4, .inl (T 0, 3, .inl (fun _ => nI 0))), (q_5, .inl (T 0, 3, .inl (fun _ => nI 0))), (q_6, .inl (T 0, 24, .inl (fun _ => nI 0)))]) rfl dX4_init_48 (fun H locs V => ?_)
  exact g_vret (Qr := (q_Search_init T a0)) hC V ⟨(Nat.le_of_ble_eq_true rfl), (Nat.le_of_ble_eq_true rfl)⟩ ⟨q_1, q_2, q_3, q_4, q_5, q_6, rfl, rfl⟩ dX4_init_51
